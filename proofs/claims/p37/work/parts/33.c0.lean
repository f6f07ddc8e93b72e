set_option maxHeartbeats 4000000 in
set_option maxRecDepth 100000 in
theorem lc_208 {p : Program} {l : Launch} {e : Env} {s : State} {m : MethodId} {below : List Frame} {meth : Method} {c : Code} {b L : Nat} {g : tf_G} {sx : Int → Int} {Q : State → Prop} (E : lw_E p s m c b L g sx) (ax am jj : Nat) (ii : Int) (hii : ii = 6 * (jj : Int)) (hij : ii + 6 ≤ (L : Int)) (hnx : lw_nx p l e s m below meth c b g ax am jj ii Q) (T : tf_T) (H : Heap) (locs : List Loc) (hW : tf_n tf_kt g M_law (fun _ => none) s.heap T H locs) (hax : T ax = some (39, 0)) (ham : T am = some (63, 0)) (hI : lw_I g T H ax am) (ls : Array Slot) (hl : lv_has ls 4 [(3, .int (Int32.ofInt ii)), (2, .ref am), (1, .ref ax), (0, .ref b)]) : W p l e room_1 s m #[Value.ref b] below meth c H locs (100 + 30 * jj) (30000 + 1200 * jj) Q (F0 m 208 ls []) := by
  obtain ⟨hx, hb, hml, hown, hts, hbl, hk, hBs, hsx, hX, hL⟩ := id E
  have hR1 := lw_R1
  have hR2 := lw_R2
  have hR3 := lw_R3
  have hR4 := lw_R4
  have hK := hk.1
  have hE : tf_E g T := trivial
  obtain ⟨sq, im, ta, dh, lp, lh, yr, wh, ro, iz, kp, tm, dw, tt, uu, dd, gl, gh, gy, gw, tp, gd, rr, qq, rk, tq, gm, hsq, him, hta, hdh, hlp, hlh, hyr, hwh, hro, hiz, hkp, htm, hdw, htt, huu, hdd, hf0, hf1, hf2, hf3, hf4, hf5, hf6, hf7, hf8, hf9, hf10, hf11, hf12, hf13, hf14, hf15, hf16, hf17, hf18, hf19, hf20, hf21, hf22, hf23, hf24, hf25, hf26, hf27, hf28, hf29, hRL, hDD, hTP, hI0, hI1⟩ := hI
  have hWS : tf_WS gy gw := hRL.2.2
  refine lv_aload_n hx hb dL_law_208 rfl (lv_at hl 2 rfl) ?_
  refine lv_aload_n hx hb dL_law_209 rfl (lv_at hl 3 rfl) ?_
  refine lv_iload_n hx hb dL_law_210 rfl (lv_at hl 0 rfl) ?_
  refine tf_iconst hx hb dL_law_211 ?_
  refine tf_iadd hx hb dL_law_212 ?_
  refine lw_sld (sx := sx) hx hb hX hbl hBs hL hW (by omega) (by omega) dL_law_213 ?_
  have hsx1 := hsx (ii + 1)
  refine lv_aload_n hx hb dL_law_214 rfl (lv_at hl 3 rfl) ?_
  refine lv_iload_n hx hb dL_law_215 rfl (lv_at hl 0 rfl) ?_
  refine tf_iconst hx hb dL_law_216 ?_
  refine tf_iadd hx hb dL_law_217 ?_
  refine lw_sld (sx := sx) hx hb hX hbl hBs hL hW (by omega) (by omega) dL_law_218 ?_
  have hsx2 := hsx (ii + 2)
  refine lv_aload_n hx hb dL_law_219 rfl (lv_at hl 3 rfl) ?_
  refine lv_iload_n hx hb dL_law_220 rfl (lv_at hl 0 rfl) ?_
  refine tf_iconst hx hb dL_law_221 ?_
  refine tf_iadd hx hb dL_law_222 ?_
  refine lw_sld (sx := sx) hx hb hX hbl hBs hL hW (by omega) (by omega) dL_law_223 ?_
  have hsx3 := hsx (ii + 3)
  refine lv_aload_n hx hb dL_law_224 rfl (lv_at hl 3 rfl) ?_
  refine lv_iload_n hx hb dL_law_225 rfl (lv_at hl 0 rfl) ?_
  refine tf_iconst hx hb dL_law_226 ?_
  refine tf_iadd hx hb dL_law_227 ?_
  refine lw_sld (sx := sx) hx hb hX hbl hBs hL hW (by omega) (by omega) dL_law_228 ?_
  have hsx4 := hsx (ii + 4)
  refine lv_aload_n hx hb dL_law_229 rfl (lv_at hl 3 rfl) ?_
  refine lv_iload_n hx hb dL_law_230 rfl (lv_at hl 0 rfl) ?_
  refine tf_iconst hx hb dL_law_231 ?_
  refine tf_iadd hx hb dL_law_232 ?_
  refine lw_sld (sx := sx) hx hb hX hbl hBs hL hW (by omega) (by omega) dL_law_233 ?_
  have hsx5 := hsx (ii + 5)
  refine tf_calli (va_runV (As := [.int (Int32.ofInt ((sx (ii + 1)))), .int (Int32.ofInt ((sx (ii + 2)))), .int (Int32.ofInt ((sx (ii + 3)))), .int (Int32.ofInt ((sx (ii + 4)))), .int (Int32.ofInt ((sx (ii + 5))))]) (rest := []) ⟨hx, hb, hml, hown, hts⟩ (c_X9_tower l g T ax hax ((sx (ii + 1))) ⟨by omega, by omega⟩ ((sx (ii + 2))) ⟨by omega, by omega⟩ ((sx (ii + 3))) ⟨by omega, by omega⟩ ((sx (ii + 4))) ⟨by omega, by omega⟩ ((sx (ii + 5))) ⟨by omega, by omega⟩) (cwV 5 hts gv_L_13 rfl rfl rfl hd_X9_tower ⟨Nat.le_trans (by decide) hR1, Nat.le_trans (by decide) hR2⟩) (tf_preV hk hW hax (ci := 9) rfl rfl trivial) rfl rfl hl.1 rfl (lv_room (Nat.le_of_ble_eq_true rfl)) dL_law_234 ⟨Nat.le_trans (by omega) hR3, Nat.le_trans (by omega) hR4⟩) hW (by decide) (fun z6 H6 locs6 hW hF6 hp6 => ?_)
  have hs7 := tf_keepF hF6 hax rfl rfl (by decide) hf0
  have hs8 := tf_keepF hF6 hax rfl rfl (by decide) hf1
  have hs9 := tf_keepF hF6 hax rfl rfl (by decide) hf2
  have hs10 := tf_keepF hF6 hax rfl rfl (by decide) hf3
  have hs11 := tf_keepF hF6 hax rfl rfl (by decide) hf4
  have hs12 := tf_keepF hF6 hax rfl rfl (by decide) hf5
  have hs13 := tf_keepF hF6 hax rfl rfl (by decide) hf6
  have hs14 := tf_keepF hF6 hsq rfl rfl (by decide) hf7
  have hs15 := tf_keepF hF6 hsq rfl rfl (by decide) hf8
  have hs16 := tf_keepF hF6 hsq rfl rfl (by decide) hf9
  have hs17 := tf_keepF hF6 hsq rfl rfl (by decide) hf10
  have hs18 := tf_keepC hF6 hlp rfl (by decide) hf11
  have hs19 := tf_keepC hF6 hlh rfl (by decide) hf12
  have hs20 := tf_keepC hF6 hyr rfl (by decide) hf13
  have hs21 := tf_keepC hF6 hwh rfl (by decide) hf14
  have hs22 := tf_keepC hF6 hta rfl (by decide) hf15
  have hs23 := tf_keepC hF6 hdh rfl (by decide) hf16
  have hs24 := tf_keepF hF6 ham rfl rfl (by decide) hf17
  have hs25 := tf_keepF hF6 ham rfl rfl (by decide) hf18
  have hs26 := tf_keepF hF6 ham rfl rfl (by decide) hf19
  have hs27 := tf_keepF hF6 ham rfl rfl (by decide) hf20
  have hs28 := tf_keepF hF6 ham rfl rfl (by decide) hf21
  have hs29 := tf_keepF hF6 ham rfl rfl (by decide) hf22
  have hs30 := tf_keepF hF6 ham rfl rfl (by decide) hf23
  have hs31 := tf_keepF hF6 ham rfl rfl (by decide) hf24
  have hs32 := tf_keepC hF6 hro rfl (by decide) hf25
  have hs33 := tf_keepC hF6 hiz rfl (by decide) hf26
  have hs34 := tf_keepC hF6 hkp rfl (by decide) hf27
  have hs35 := tf_keepC hF6 htm rfl (by decide) hf28
  have hs36 := tf_keepC hF6 hdw rfl (by decide) hf29
  have hI0 := tf_IS1_keep hF6 him (by decide) (by decide) hI0
  have hI1 := tf_IS2_keep hF6 him (by decide) (by decide) hI1
  obtain ⟨hp6_0, hp6_1⟩ := hp6
  refine lv_pop hx hb dL_law_237 rfl ?_
  refine lv_aload_n hx hb dL_law_238 rfl (lv_at hl 1 rfl) ?_
  refine lv_aload_n hx hb dL_law_239 rfl (lv_at hl 3 rfl) ?_
  refine lv_iload_n hx hb dL_law_240 rfl (lv_at hl 0 rfl) ?_
  refine tf_iconst hx hb dL_law_241 ?_
  refine tf_iadd hx hb dL_law_242 ?_
  refine lw_sld (sx := sx) hx hb hX hbl hBs hL hW (by omega) (by omega) dL_law_243 ?_
  have hsx37 := hsx (ii + 1)
  refine lv_aload_n hx hb dL_law_244 rfl (lv_at hl 3 rfl) ?_
  refine lv_iload_n hx hb dL_law_245 rfl (lv_at hl 0 rfl) ?_
  refine tf_iconst hx hb dL_law_246 ?_
  refine tf_iadd hx hb dL_law_247 ?_
  refine lw_sld (sx := sx) hx hb hX hbl hBs hL hW (by omega) (by omega) dL_law_248 ?_
  have hsx38 := hsx (ii + 2)
  refine lv_aload_n hx hb dL_law_249 rfl (lv_at hl 3 rfl) ?_
  refine lv_iload_n hx hb dL_law_250 rfl (lv_at hl 0 rfl) ?_
  refine tf_iconst hx hb dL_law_251 ?_
  refine tf_iadd hx hb dL_law_252 ?_
  refine lw_sld (sx := sx) hx hb hX hbl hBs hL hW (by omega) (by omega) dL_law_253 ?_
  have hsx39 := hsx (ii + 3)
  refine lv_aload_n hx hb dL_law_254 rfl (lv_at hl 3 rfl) ?_
  refine lv_iload_n hx hb dL_law_255 rfl (lv_at hl 0 rfl) ?_
  refine tf_iconst hx hb dL_law_256 ?_
  refine tf_iadd hx hb dL_law_257 ?_
  refine lw_sld (sx := sx) hx hb hX hbl hBs hL hW (by omega) (by omega) dL_law_258 ?_
  have hsx40 := hsx (ii + 4)
  refine lv_aload_n hx hb dL_law_259 rfl (lv_at hl 3 rfl) ?_
  refine lv_iload_n hx hb dL_law_260 rfl (lv_at hl 0 rfl) ?_
  refine tf_iconst hx hb dL_law_261 ?_
  refine tf_iadd hx hb dL_law_262 ?_
  refine lw_sld (sx := sx) hx hb hX hbl hBs hL hW (by omega) (by omega) dL_law_263 ?_
  have hsx41 := hsx (ii + 5)
  refine tf_calli (va_runV (As := [.int (Int32.ofInt ((sx (ii + 1)))), .int (Int32.ofInt ((sx (ii + 2)))), .int (Int32.ofInt ((sx (ii + 3)))), .int (Int32.ofInt ((sx (ii + 4)))), .int (Int32.ofInt ((sx (ii + 5))))]) (rest := []) ⟨hx, hb, hml, hown, hts⟩ (c_X10_tower l g T am ham ((sx (ii + 1))) ⟨by omega, by omega⟩ ((sx (ii + 2))) ⟨by omega, by omega⟩ ((sx (ii + 3))) ⟨by omega, by omega⟩ ((sx (ii + 4))) ⟨by omega, by omega⟩ ((sx (ii + 5))) ⟨by omega, by omega⟩ ro hro rr) (cwV 5 hts gv_L_17 rfl rfl rfl hd_X10_tower ⟨Nat.le_trans (by decide) hR1, Nat.le_trans (by decide) hR2⟩) (tf_preV hk hW ham (ci := 10) rfl rfl ⟨hs24, hs32⟩) rfl rfl hl.1 rfl (lv_room (Nat.le_of_ble_eq_true rfl)) dL_law_264 ⟨Nat.le_trans (by omega) hR3, Nat.le_trans (by omega) hR4⟩) hW (by decide) (fun z42 H42 locs42 hW hF42 hp42 => ?_)
  have hs43 := tf_keepF hF42 hax rfl rfl (by decide) hs7
  have hs44 := tf_keepF hF42 hax rfl rfl (by decide) hs8
  have hs45 := tf_keepF hF42 hax rfl rfl (by decide) hs9
  have hs46 := tf_keepF hF42 hax rfl rfl (by decide) hs10
  have hs47 := tf_keepF hF42 hax rfl rfl (by decide) hs11
  have hs48 := tf_keepF hF42 hax rfl rfl (by decide) hs12
  have hs49 := tf_keepF hF42 hax rfl rfl (by decide) hs13
  have hs50 := tf_keepF hF42 hsq rfl rfl (by decide) hs14
  have hs51 := tf_keepF hF42 hsq rfl rfl (by decide) hs15
  have hs52 := tf_keepF hF42 hsq rfl rfl (by decide) hs16
  have hs53 := tf_keepF hF42 hsq rfl rfl (by decide) hs17
  have hs54 := tf_keepC hF42 hlp rfl (by decide) hs18
  have hs55 := tf_keepC hF42 hlh rfl (by decide) hs19
  have hs56 := tf_keepC hF42 hyr rfl (by decide) hs20
  have hs57 := tf_keepC hF42 hwh rfl (by decide) hs21
  have hs58 := tf_keepC hF42 hta rfl (by decide) hs22
  have hs59 := tf_keepC hF42 hdh rfl (by decide) hs23
  have hs60 := tf_keepF hF42 ham rfl rfl (by decide) hs24
  have hs61 := tf_keepF hF42 ham rfl rfl (by decide) hs25
  have hs62 := tf_keepF hF42 ham rfl rfl (by decide) hs26
  have hs63 := tf_keepF hF42 ham rfl rfl (by decide) hs27
  have hs64 := tf_keepF hF42 ham rfl rfl (by decide) hs28
  have hs65 := tf_keepF hF42 ham rfl rfl (by decide) hs29
  have hs66 := tf_keepF hF42 ham rfl rfl (by decide) hs30
  have hs67 := tf_keepF hF42 ham rfl rfl (by decide) hs31
  have hs68 := tf_keepC hF42 hiz rfl (by decide) hs33
  have hs69 := tf_keepC hF42 hkp rfl (by decide) hs34
  have hs70 := tf_keepC hF42 htm rfl (by decide) hs35
  have hs71 := tf_keepC hF42 hdw rfl (by decide) hs36
  have hI0 := tf_IS1_keep hF42 him (by decide) (by decide) hI0
  have hI1 := tf_IS2_keep hF42 him (by decide) (by decide) hI1
  obtain ⟨hp42_0, hp42_1, hp42_2⟩ := hp42
  obtain ⟨r1_42, hX42_0, hR42_0⟩ := hp42_2
  have hRL := tf_RL_kp hRL hR42_0
  refine lv_pop hx hb dL_law_267 rfl ?_
  refine lv_goto (tgt := 1498) hx hb dL_law_268 (by decide) ?_
  refine W.widen (k := 130 + 30 * jj) (n := 31200 + 1200 * jj) (by omega) (by omega) ?_
  exact hnx _ _ _ hW hax ham ⟨sq, im, ta, dh, lp, lh, yr, wh, ro, iz, kp, tm, dw, (tt), (uu), (dd), gl, gh, gy, gw, tp, gd, r1_42, qq, rk, tq, gm, hsq, him, hta, hdh, hlp, hlh, hyr, hwh, hro, hiz, hkp, htm, hdw, ⟨by omega, by omega⟩, ⟨by omega, by omega⟩, ⟨by omega, by omega⟩, hs43, hs44, hs45, hs46, hs47, hs48, hs49, hs50, hs51, hs52, hs53, hs54, hs55, hs56, hs57, hs58, hs59, hs60, hs61, hs62, tf_eqv hs63 (by omega), hs64, tf_eqv hs65 (by omega), hs66, tf_eqv hs67 (by omega), hX42_0, hs68, hs69, hs70, hs71, hRL, hDD, hTP, hI0, hI1⟩ _ (lv_sub hl [0, 1, 2, 3] rfl)

set_option maxHeartbeats 4000000 in
set_option maxRecDepth 100000 in
theorem lc_271 {p : Program} {l : Launch} {e : Env} {s : State} {m : MethodId} {below : List Frame} {meth : Method} {c : Code} {b L : Nat} {g : tf_G} {sx : Int → Int} {Q : State → Prop} (E : lw_E p s m c b L g sx) (ax am jj : Nat) (ii : Int) (hii : ii = 6 * (jj : Int)) (hij : ii + 6 ≤ (L : Int)) (hnx : lw_nx p l e s m below meth c b g ax am jj ii Q) (T : tf_T) (H : Heap) (locs : List Loc) (hW : tf_n tf_kt g M_law (fun _ => none) s.heap T H locs) (hax : T ax = some (39, 0)) (ham : T am = some (63, 0)) (hI : lw_I g T H ax am) (ls : Array Slot) (hl : lv_has ls 4 [(3, .int (Int32.ofInt ii)), (2, .ref am), (1, .ref ax), (0, .ref b)]) : W p l e room_1 s m #[Value.ref b] below meth c H locs (100 + 30 * jj) (30000 + 1200 * jj) Q (F0 m 271 ls []) := by
  obtain ⟨hx, hb, hml, hown, hts, hbl, hk, hBs, hsx, hX, hL⟩ := id E
  have hR1 := lw_R1
  have hR2 := lw_R2
  have hR3 := lw_R3
  have hR4 := lw_R4
  have hK := hk.1
  have hE : tf_E g T := trivial
  obtain ⟨sq, im, ta, dh, lp, lh, yr, wh, ro, iz, kp, tm, dw, tt, uu, dd, gl, gh, gy, gw, tp, gd, rr, qq, rk, tq, gm, hsq, him, hta, hdh, hlp, hlh, hyr, hwh, hro, hiz, hkp, htm, hdw, htt, huu, hdd, hf0, hf1, hf2, hf3, hf4, hf5, hf6, hf7, hf8, hf9, hf10, hf11, hf12, hf13, hf14, hf15, hf16, hf17, hf18, hf19, hf20, hf21, hf22, hf23, hf24, hf25, hf26, hf27, hf28, hf29, hRL, hDD, hTP, hI0, hI1⟩ := hI
  have hWS : tf_WS gy gw := hRL.2.2
  refine lv_aload_n hx hb dL_law_271 rfl (lv_at hl 2 rfl) ?_
  refine lv_aload_n hx hb dL_law_272 rfl (lv_at hl 3 rfl) ?_
  refine lv_iload_n hx hb dL_law_273 rfl (lv_at hl 0 rfl) ?_
  refine tf_iconst hx hb dL_law_274 ?_
  refine tf_iadd hx hb dL_law_275 ?_
  refine lw_sld (sx := sx) hx hb hX hbl hBs hL hW (by omega) (by omega) dL_law_276 ?_
  have hsx1 := hsx (ii + 1)
  refine lv_aload_n hx hb dL_law_277 rfl (lv_at hl 3 rfl) ?_
  refine lv_iload_n hx hb dL_law_278 rfl (lv_at hl 0 rfl) ?_
  refine tf_iconst hx hb dL_law_279 ?_
  refine tf_iadd hx hb dL_law_280 ?_
  refine lw_sld (sx := sx) hx hb hX hbl hBs hL hW (by omega) (by omega) dL_law_281 ?_
  have hsx2 := hsx (ii + 2)
  refine tf_calli (va_runV (As := [.int (Int32.ofInt ((sx (ii + 1)))), .int (Int32.ofInt ((sx (ii + 2))))]) (rest := []) ⟨hx, hb, hml, hown, hts⟩ (c_X9_high l g T ax hax ((sx (ii + 1))) ⟨by omega, by omega⟩ ((sx (ii + 2))) ⟨by omega, by omega⟩) (cwV 2 hts gv_L_18 rfl rfl rfl hd_X9_high ⟨Nat.le_trans (by decide) hR1, Nat.le_trans (by decide) hR2⟩) (tf_preV hk hW hax (ci := 9) rfl rfl trivial) rfl rfl hl.1 rfl (lv_room (Nat.le_of_ble_eq_true rfl)) dL_law_282 ⟨Nat.le_trans (by omega) hR3, Nat.le_trans (by omega) hR4⟩) hW (by decide) (fun z3 H3 locs3 hW hF3 hp3 => ?_)
  have hs4 := tf_keepF hF3 hax rfl rfl (by decide) hf0
  have hs5 := tf_keepF hF3 hax rfl rfl (by decide) hf1
  have hs6 := tf_keepF hF3 hax rfl rfl (by decide) hf2
  have hs7 := tf_keepF hF3 hax rfl rfl (by decide) hf3
  have hs8 := tf_keepF hF3 hax rfl rfl (by decide) hf4
  have hs9 := tf_keepF hF3 hax rfl rfl (by decide) hf5
  have hs10 := tf_keepF hF3 hax rfl rfl (by decide) hf6
  have hs11 := tf_keepF hF3 hsq rfl rfl (by decide) hf7
  have hs12 := tf_keepF hF3 hsq rfl rfl (by decide) hf8
  have hs13 := tf_keepF hF3 hsq rfl rfl (by decide) hf9
  have hs14 := tf_keepF hF3 hsq rfl rfl (by decide) hf10
  have hs15 := tf_keepC hF3 hlp rfl (by decide) hf11
  have hs16 := tf_keepC hF3 hlh rfl (by decide) hf12
  have hs17 := tf_keepC hF3 hyr rfl (by decide) hf13
  have hs18 := tf_keepC hF3 hwh rfl (by decide) hf14
  have hs19 := tf_keepC hF3 hta rfl (by decide) hf15
  have hs20 := tf_keepC hF3 hdh rfl (by decide) hf16
  have hs21 := tf_keepF hF3 ham rfl rfl (by decide) hf17
  have hs22 := tf_keepF hF3 ham rfl rfl (by decide) hf18
  have hs23 := tf_keepF hF3 ham rfl rfl (by decide) hf19
  have hs24 := tf_keepF hF3 ham rfl rfl (by decide) hf20
  have hs25 := tf_keepF hF3 ham rfl rfl (by decide) hf21
  have hs26 := tf_keepF hF3 ham rfl rfl (by decide) hf22
  have hs27 := tf_keepF hF3 ham rfl rfl (by decide) hf23
  have hs28 := tf_keepF hF3 ham rfl rfl (by decide) hf24
  have hs29 := tf_keepC hF3 hro rfl (by decide) hf25
  have hs30 := tf_keepC hF3 hiz rfl (by decide) hf26
  have hs31 := tf_keepC hF3 hkp rfl (by decide) hf27
  have hs32 := tf_keepC hF3 htm rfl (by decide) hf28
  have hs33 := tf_keepC hF3 hdw rfl (by decide) hf29
  have hI0 := tf_IS1_keep hF3 him (by decide) (by decide) hI0
  have hI1 := tf_IS2_keep hF3 him (by decide) (by decide) hI1
  obtain ⟨hp3_0, hp3_1⟩ := hp3
  refine lv_pop hx hb dL_law_285 rfl ?_
  refine lv_aload_n hx hb dL_law_286 rfl (lv_at hl 1 rfl) ?_
  refine lv_aload_n hx hb dL_law_287 rfl (lv_at hl 3 rfl) ?_
  refine lv_iload_n hx hb dL_law_288 rfl (lv_at hl 0 rfl) ?_
  refine tf_iconst hx hb dL_law_289 ?_
  refine tf_iadd hx hb dL_law_290 ?_
  refine lw_sld (sx := sx) hx hb hX hbl hBs hL hW (by omega) (by omega) dL_law_291 ?_
  have hsx34 := hsx (ii + 1)
  refine lv_aload_n hx hb dL_law_292 rfl (lv_at hl 3 rfl) ?_
  refine lv_iload_n hx hb dL_law_293 rfl (lv_at hl 0 rfl) ?_
  refine tf_iconst hx hb dL_law_294 ?_
  refine tf_iadd hx hb dL_law_295 ?_
  refine lw_sld (sx := sx) hx hb hX hbl hBs hL hW (by omega) (by omega) dL_law_296 ?_
  have hsx35 := hsx (ii + 2)
  refine tf_calli (va_runV (As := [.int (Int32.ofInt ((sx (ii + 1)))), .int (Int32.ofInt ((sx (ii + 2))))]) (rest := []) ⟨hx, hb, hml, hown, hts⟩ (c_X10_high l g T am ham ((sx (ii + 1))) ⟨by omega, by omega⟩ ((sx (ii + 2))) ⟨by omega, by omega⟩ ro hro rr) (cwV 2 hts gv_L_22 rfl rfl rfl hd_X10_high ⟨Nat.le_trans (by decide) hR1, Nat.le_trans (by decide) hR2⟩) (tf_preV hk hW ham (ci := 10) rfl rfl ⟨hs21, hs29⟩) rfl rfl hl.1 rfl (lv_room (Nat.le_of_ble_eq_true rfl)) dL_law_297 ⟨Nat.le_trans (by omega) hR3, Nat.le_trans (by omega) hR4⟩) hW (by decide) (fun z36 H36 locs36 hW hF36 hp36 => ?_)
  have hs37 := tf_keepF hF36 hax rfl rfl (by decide) hs4
  have hs38 := tf_keepF hF36 hax rfl rfl (by decide) hs5
  have hs39 := tf_keepF hF36 hax rfl rfl (by decide) hs6
  have hs40 := tf_keepF hF36 hax rfl rfl (by decide) hs7
  have hs41 := tf_keepF hF36 hax rfl rfl (by decide) hs8
  have hs42 := tf_keepF hF36 hax rfl rfl (by decide) hs9
  have hs43 := tf_keepF hF36 hax rfl rfl (by decide) hs10
  have hs44 := tf_keepF hF36 hsq rfl rfl (by decide) hs11
  have hs45 := tf_keepF hF36 hsq rfl rfl (by decide) hs12
  have hs46 := tf_keepF hF36 hsq rfl rfl (by decide) hs13
  have hs47 := tf_keepF hF36 hsq rfl rfl (by decide) hs14
  have hs48 := tf_keepC hF36 hlp rfl (by decide) hs15
  have hs49 := tf_keepC hF36 hlh rfl (by decide) hs16
  have hs50 := tf_keepC hF36 hyr rfl (by decide) hs17
  have hs51 := tf_keepC hF36 hwh rfl (by decide) hs18
  have hs52 := tf_keepC hF36 hta rfl (by decide) hs19
  have hs53 := tf_keepC hF36 hdh rfl (by decide) hs20
  have hs54 := tf_keepF hF36 ham rfl rfl (by decide) hs21
  have hs55 := tf_keepF hF36 ham rfl rfl (by decide) hs22
  have hs56 := tf_keepF hF36 ham rfl rfl (by decide) hs23
  have hs57 := tf_keepF hF36 ham rfl rfl (by decide) hs24
  have hs58 := tf_keepF hF36 ham rfl rfl (by decide) hs25
  have hs59 := tf_keepF hF36 ham rfl rfl (by decide) hs26
  have hs60 := tf_keepF hF36 ham rfl rfl (by decide) hs27
  have hs61 := tf_keepF hF36 ham rfl rfl (by decide) hs28
  have hs62 := tf_keepC hF36 hiz rfl (by decide) hs30
  have hs63 := tf_keepC hF36 hkp rfl (by decide) hs31
  have hs64 := tf_keepC hF36 htm rfl (by decide) hs32
  have hs65 := tf_keepC hF36 hdw rfl (by decide) hs33
  have hI0 := tf_IS1_keep hF36 him (by decide) (by decide) hI0
  have hI1 := tf_IS2_keep hF36 him (by decide) (by decide) hI1
  obtain ⟨hp36_0, hp36_1, hp36_2⟩ := hp36
  obtain ⟨r1_36, hX36_0, hR36_0⟩ := hp36_2
  have hRL := tf_RL_kp hRL hR36_0
  refine lv_pop hx hb dL_law_300 rfl ?_
  refine lv_goto (tgt := 1498) hx hb dL_law_301 (by decide) ?_
  refine W.widen (k := 130 + 30 * jj) (n := 31200 + 1200 * jj) (by omega) (by omega) ?_
  exact hnx _ _ _ hW hax ham ⟨sq, im, ta, dh, lp, lh, yr, wh, ro, iz, kp, tm, dw, (tt), (uu), (dd), gl, gh, gy, gw, tp, gd, r1_36, qq, rk, tq, gm, hsq, him, hta, hdh, hlp, hlh, hyr, hwh, hro, hiz, hkp, htm, hdw, ⟨by omega, by omega⟩, ⟨by omega, by omega⟩, ⟨by omega, by omega⟩, hs37, hs38, hs39, hs40, hs41, hs42, hs43, hs44, hs45, hs46, hs47, hs48, hs49, hs50, hs51, hs52, hs53, hs54, hs55, hs56, tf_eqv hs57 (by omega), hs58, tf_eqv hs59 (by omega), hs60, tf_eqv hs61 (by omega), hX36_0, hs62, hs63, hs64, hs65, hRL, hDD, hTP, hI0, hI1⟩ _ (lv_sub hl [0, 1, 2, 3] rfl)

set_option maxHeartbeats 4000000 in
set_option maxRecDepth 100000 in
theorem lc_304 {p : Program} {l : Launch} {e : Env} {s : State} {m : MethodId} {below : List Frame} {meth : Method} {c : Code} {b L : Nat} {g : tf_G} {sx : Int → Int} {Q : State → Prop} (E : lw_E p s m c b L g sx) (ax am jj : Nat) (ii : Int) (hii : ii = 6 * (jj : Int)) (hij : ii + 6 ≤ (L : Int)) (hnx : lw_nx p l e s m below meth c b g ax am jj ii Q) (T : tf_T) (H : Heap) (locs : List Loc) (hW : tf_n tf_kt g M_law (fun _ => none) s.heap T H locs) (hax : T ax = some (39, 0)) (ham : T am = some (63, 0)) (hI : lw_I g T H ax am) (ls : Array Slot) (hl : lv_has ls 4 [(3, .int (Int32.ofInt ii)), (2, .ref am), (1, .ref ax), (0, .ref b)]) : W p l e room_1 s m #[Value.ref b] below meth c H locs (100 + 30 * jj) (30000 + 1200 * jj) Q (F0 m 304 ls []) := by
  obtain ⟨hx, hb, hml, hown, hts, hbl, hk, hBs, hsx, hX, hL⟩ := id E
  have hR1 := lw_R1
  have hR2 := lw_R2
  have hR3 := lw_R3
  have hR4 := lw_R4
  have hK := hk.1
  have hE : tf_E g T := trivial
  obtain ⟨sq, im, ta, dh, lp, lh, yr, wh, ro, iz, kp, tm, dw, tt, uu, dd, gl, gh, gy, gw, tp, gd, rr, qq, rk, tq, gm, hsq, him, hta, hdh, hlp, hlh, hyr, hwh, hro, hiz, hkp, htm, hdw, htt, huu, hdd, hf0, hf1, hf2, hf3, hf4, hf5, hf6, hf7, hf8, hf9, hf10, hf11, hf12, hf13, hf14, hf15, hf16, hf17, hf18, hf19, hf20, hf21, hf22, hf23, hf24, hf25, hf26, hf27, hf28, hf29, hRL, hDD, hTP, hI0, hI1⟩ := hI
  have hWS : tf_WS gy gw := hRL.2.2
  refine lv_aload_n hx hb dL_law_304 rfl (lv_at hl 2 rfl) ?_
  refine lv_aload_n hx hb dL_law_305 rfl (lv_at hl 3 rfl) ?_
  refine lv_iload_n hx hb dL_law_306 rfl (lv_at hl 0 rfl) ?_
  refine tf_iconst hx hb dL_law_307 ?_
  refine tf_iadd hx hb dL_law_308 ?_
  refine lw_sld (sx := sx) hx hb hX hbl hBs hL hW (by omega) (by omega) dL_law_309 ?_
  have hsx1 := hsx (ii + 1)
  refine tf_calli (va_runV (As := [.int (Int32.ofInt ((sx (ii + 1))))]) (rest := []) ⟨hx, hb, hml, hown, hts⟩ (c_X9_at l g T ax hax ((sx (ii + 1))) ⟨by omega, by omega⟩) (cwV 1 hts gv_L_23 rfl rfl rfl hd_X9_at ⟨Nat.le_trans (by decide) hR1, Nat.le_trans (by decide) hR2⟩) (tf_preV hk hW hax (ci := 9) rfl rfl trivial) rfl rfl hl.1 rfl (lv_room (Nat.le_of_ble_eq_true rfl)) dL_law_310 ⟨Nat.le_trans (by omega) hR3, Nat.le_trans (by omega) hR4⟩) hW (by decide) (fun z2 H2 locs2 hW hF2 hp2 => ?_)
  have hs3 := tf_keepF hF2 hax rfl rfl (by decide) hf0
  have hs4 := tf_keepF hF2 hax rfl rfl (by decide) hf1
  have hs5 := tf_keepF hF2 hax rfl rfl (by decide) hf2
  have hs6 := tf_keepF hF2 hax rfl rfl (by decide) hf3
  have hs7 := tf_keepF hF2 hax rfl rfl (by decide) hf4
  have hs8 := tf_keepF hF2 hax rfl rfl (by decide) hf5
  have hs9 := tf_keepF hF2 hax rfl rfl (by decide) hf6
  have hs10 := tf_keepF hF2 hsq rfl rfl (by decide) hf7
  have hs11 := tf_keepF hF2 hsq rfl rfl (by decide) hf8
  have hs12 := tf_keepF hF2 hsq rfl rfl (by decide) hf9
  have hs13 := tf_keepF hF2 hsq rfl rfl (by decide) hf10
  have hs14 := tf_keepC hF2 hlp rfl (by decide) hf11
  have hs15 := tf_keepC hF2 hlh rfl (by decide) hf12
  have hs16 := tf_keepC hF2 hyr rfl (by decide) hf13
  have hs17 := tf_keepC hF2 hwh rfl (by decide) hf14
  have hs18 := tf_keepC hF2 hta rfl (by decide) hf15
  have hs19 := tf_keepC hF2 hdh rfl (by decide) hf16
  have hs20 := tf_keepF hF2 ham rfl rfl (by decide) hf17
  have hs21 := tf_keepF hF2 ham rfl rfl (by decide) hf18
  have hs22 := tf_keepF hF2 ham rfl rfl (by decide) hf19
  have hs23 := tf_keepF hF2 ham rfl rfl (by decide) hf20
  have hs24 := tf_keepF hF2 ham rfl rfl (by decide) hf21
  have hs25 := tf_keepF hF2 ham rfl rfl (by decide) hf22
  have hs26 := tf_keepF hF2 ham rfl rfl (by decide) hf23
  have hs27 := tf_keepF hF2 ham rfl rfl (by decide) hf24
  have hs28 := tf_keepC hF2 hro rfl (by decide) hf25
  have hs29 := tf_keepC hF2 hiz rfl (by decide) hf26
  have hs30 := tf_keepC hF2 hkp rfl (by decide) hf27
  have hs31 := tf_keepC hF2 htm rfl (by decide) hf28
  have hs32 := tf_keepC hF2 hdw rfl (by decide) hf29
  have hI0 := tf_IS1_keep hF2 him (by decide) (by decide) hI0
  have hI1 := tf_IS2_keep hF2 him (by decide) (by decide) hI1
  obtain ⟨hp2_0, hp2_1⟩ := hp2
  refine lv_pop hx hb dL_law_313 rfl ?_
  refine lv_aload_n hx hb dL_law_314 rfl (lv_at hl 1 rfl) ?_
  refine lv_aload_n hx hb dL_law_315 rfl (lv_at hl 3 rfl) ?_
  refine lv_iload_n hx hb dL_law_316 rfl (lv_at hl 0 rfl) ?_
  refine tf_iconst hx hb dL_law_317 ?_
  refine tf_iadd hx hb dL_law_318 ?_
  refine lw_sld (sx := sx) hx hb hX hbl hBs hL hW (by omega) (by omega) dL_law_319 ?_
  have hsx33 := hsx (ii + 1)
  refine tf_calli (va_runV (As := [.int (Int32.ofInt ((sx (ii + 1))))]) (rest := []) ⟨hx, hb, hml, hown, hts⟩ (c_X10_at l g T am ham ((sx (ii + 1))) ⟨by omega, by omega⟩) (cwV 1 hts gv_L_27 rfl rfl rfl hd_X10_at ⟨Nat.le_trans (by decide) hR1, Nat.le_trans (by decide) hR2⟩) (tf_preV hk hW ham (ci := 10) rfl rfl trivial) rfl rfl hl.1 rfl (lv_room (Nat.le_of_ble_eq_true rfl)) dL_law_320 ⟨Nat.le_trans (by omega) hR3, Nat.le_trans (by omega) hR4⟩) hW (by decide) (fun z34 H34 locs34 hW hF34 hp34 => ?_)
  have hs35 := tf_keepF hF34 hax rfl rfl (by decide) hs3
  have hs36 := tf_keepF hF34 hax rfl rfl (by decide) hs4
  have hs37 := tf_keepF hF34 hax rfl rfl (by decide) hs5
  have hs38 := tf_keepF hF34 hax rfl rfl (by decide) hs6
  have hs39 := tf_keepF hF34 hax rfl rfl (by decide) hs7
  have hs40 := tf_keepF hF34 hax rfl rfl (by decide) hs8
  have hs41 := tf_keepF hF34 hax rfl rfl (by decide) hs9
  have hs42 := tf_keepF hF34 hsq rfl rfl (by decide) hs10
  have hs43 := tf_keepF hF34 hsq rfl rfl (by decide) hs11
  have hs44 := tf_keepF hF34 hsq rfl rfl (by decide) hs12
  have hs45 := tf_keepF hF34 hsq rfl rfl (by decide) hs13
  have hs46 := tf_keepC hF34 hlp rfl (by decide) hs14
  have hs47 := tf_keepC hF34 hlh rfl (by decide) hs15
  have hs48 := tf_keepC hF34 hyr rfl (by decide) hs16
  have hs49 := tf_keepC hF34 hwh rfl (by decide) hs17
  have hs50 := tf_keepC hF34 hta rfl (by decide) hs18
  have hs51 := tf_keepC hF34 hdh rfl (by decide) hs19
  have hs52 := tf_keepF hF34 ham rfl rfl (by decide) hs20
  have hs53 := tf_keepF hF34 ham rfl rfl (by decide) hs21
  have hs54 := tf_keepF hF34 ham rfl rfl (by decide) hs22
  have hs55 := tf_keepF hF34 ham rfl rfl (by decide) hs23
  have hs56 := tf_keepF hF34 ham rfl rfl (by decide) hs24
  have hs57 := tf_keepF hF34 ham rfl rfl (by decide) hs25
  have hs58 := tf_keepF hF34 ham rfl rfl (by decide) hs26
  have hs59 := tf_keepF hF34 ham rfl rfl (by decide) hs27
  have hs60 := tf_keepC hF34 hro rfl (by decide) hs28
  have hs61 := tf_keepC hF34 hiz rfl (by decide) hs29
  have hs62 := tf_keepC hF34 hkp rfl (by decide) hs30
  have hs63 := tf_keepC hF34 htm rfl (by decide) hs31
  have hs64 := tf_keepC hF34 hdw rfl (by decide) hs32
  have hI0 := tf_IS1_keep hF34 him (by decide) (by decide) hI0
  have hI1 := tf_IS2_keep hF34 him (by decide) (by decide) hI1
  obtain ⟨hp34_0, hp34_1⟩ := hp34
  refine lv_pop hx hb dL_law_323 rfl ?_
  refine lv_goto (tgt := 1498) hx hb dL_law_324 (by decide) ?_
  refine W.widen (k := 130 + 30 * jj) (n := 31200 + 1200 * jj) (by omega) (by omega) ?_
  exact hnx _ _ _ hW hax ham ⟨sq, im, ta, dh, lp, lh, yr, wh, ro, iz, kp, tm, dw, (tt), (uu), (dd), gl, gh, gy, gw, tp, gd, rr, qq, rk, tq, gm, hsq, him, hta, hdh, hlp, hlh, hyr, hwh, hro, hiz, hkp, htm, hdw, ⟨by omega, by omega⟩, ⟨by omega, by omega⟩, ⟨by omega, by omega⟩, hs35, hs36, hs37, hs38, hs39, hs40, hs41, hs42, hs43, hs44, hs45, hs46, hs47, hs48, hs49, hs50, hs51, hs52, hs53, hs54, tf_eqv hs55 (by omega), hs56, tf_eqv hs57 (by omega), hs58, tf_eqv hs59 (by omega), hs60, hs61, hs62, hs63, hs64, hRL, hDD, hTP, hI0, hI1⟩ _ (lv_sub hl [0, 1, 2, 3] rfl)

set_option maxHeartbeats 4000000 in
set_option maxRecDepth 100000 in
theorem lc_327 {p : Program} {l : Launch} {e : Env} {s : State} {m : MethodId} {below : List Frame} {meth : Method} {c : Code} {b L : Nat} {g : tf_G} {sx : Int → Int} {Q : State → Prop} (E : lw_E p s m c b L g sx) (ax am jj : Nat) (ii : Int) (hii : ii = 6 * (jj : Int)) (hij : ii + 6 ≤ (L : Int)) (hnx : lw_nx p l e s m below meth c b g ax am jj ii Q) (T : tf_T) (H : Heap) (locs : List Loc) (hW : tf_n tf_kt g M_law (fun _ => none) s.heap T H locs) (hax : T ax = some (39, 0)) (ham : T am = some (63, 0)) (hI : lw_I g T H ax am) (ls : Array Slot) (hl : lv_has ls 4 [(3, .int (Int32.ofInt ii)), (2, .ref am), (1, .ref ax), (0, .ref b)]) : W p l e room_1 s m #[Value.ref b] below meth c H locs (100 + 30 * jj) (30000 + 1200 * jj) Q (F0 m 327 ls []) := by
  obtain ⟨hx, hb, hml, hown, hts, hbl, hk, hBs, hsx, hX, hL⟩ := id E
  have hR1 := lw_R1
  have hR2 := lw_R2
  have hR3 := lw_R3
  have hR4 := lw_R4
  have hK := hk.1
  have hE : tf_E g T := trivial
  obtain ⟨sq, im, ta, dh, lp, lh, yr, wh, ro, iz, kp, tm, dw, tt, uu, dd, gl, gh, gy, gw, tp, gd, rr, qq, rk, tq, gm, hsq, him, hta, hdh, hlp, hlh, hyr, hwh, hro, hiz, hkp, htm, hdw, htt, huu, hdd, hf0, hf1, hf2, hf3, hf4, hf5, hf6, hf7, hf8, hf9, hf10, hf11, hf12, hf13, hf14, hf15, hf16, hf17, hf18, hf19, hf20, hf21, hf22, hf23, hf24, hf25, hf26, hf27, hf28, hf29, hRL, hDD, hTP, hI0, hI1⟩ := hI
  have hWS : tf_WS gy gw := hRL.2.2
  refine lv_aload_n hx hb dL_law_327 rfl (lv_at hl 2 rfl) ?_
  refine lv_aload_n hx hb dL_law_328 rfl (lv_at hl 3 rfl) ?_
  refine lv_iload_n hx hb dL_law_329 rfl (lv_at hl 0 rfl) ?_
  refine tf_iconst hx hb dL_law_330 ?_
  refine tf_iadd hx hb dL_law_331 ?_
  refine lw_sld (sx := sx) hx hb hX hbl hBs hL hW (by omega) (by omega) dL_law_332 ?_
  have hsx1 := hsx (ii + 1)
  refine lv_aload_n hx hb dL_law_333 rfl (lv_at hl 3 rfl) ?_
  refine lv_iload_n hx hb dL_law_334 rfl (lv_at hl 0 rfl) ?_
  refine tf_iconst hx hb dL_law_335 ?_
  refine tf_iadd hx hb dL_law_336 ?_
  refine lw_sld (sx := sx) hx hb hX hbl hBs hL hW (by omega) (by omega) dL_law_337 ?_
  have hsx2 := hsx (ii + 2)
  refine lv_aload_n hx hb dL_law_338 rfl (lv_at hl 3 rfl) ?_
  refine lv_iload_n hx hb dL_law_339 rfl (lv_at hl 0 rfl) ?_
  refine tf_iconst hx hb dL_law_340 ?_
  refine tf_iadd hx hb dL_law_341 ?_
  refine lw_sld (sx := sx) hx hb hX hbl hBs hL hW (by omega) (by omega) dL_law_342 ?_
  have hsx3 := hsx (ii + 3)
  refine tf_calli (va_runV (As := [.int (Int32.ofInt ((sx (ii + 1)))), .int (Int32.ofInt ((sx (ii + 2)))), .int (Int32.ofInt ((sx (ii + 3))))]) (rest := []) ⟨hx, hb, hml, hown, hts⟩ (c_X9_put l g T ax hax ((sx (ii + 1))) ⟨by omega, by omega⟩ ((sx (ii + 2))) ⟨by omega, by omega⟩ ((sx (ii + 3))) ⟨by omega, by omega⟩) (cwV 3 hts gv_L_28 rfl rfl rfl hd_X9_put ⟨Nat.le_trans (by decide) hR1, Nat.le_trans (by decide) hR2⟩) (tf_preV hk hW hax (ci := 9) rfl rfl trivial) rfl rfl hl.1 rfl (lv_room (Nat.le_of_ble_eq_true rfl)) dL_law_343 ⟨Nat.le_trans (by omega) hR3, Nat.le_trans (by omega) hR4⟩) hW (by decide) (fun z4 H4 locs4 hW hF4 hp4 => ?_)
  have hs5 := tf_keepF hF4 hax rfl rfl (by decide) hf0
  have hs6 := tf_keepF hF4 hax rfl rfl (by decide) hf1
  have hs7 := tf_keepF hF4 hax rfl rfl (by decide) hf2
  have hs8 := tf_keepF hF4 hax rfl rfl (by decide) hf3
  have hs9 := tf_keepF hF4 hax rfl rfl (by decide) hf4
  have hs10 := tf_keepF hF4 hax rfl rfl (by decide) hf5
  have hs11 := tf_keepF hF4 hax rfl rfl (by decide) hf6
  have hs12 := tf_keepF hF4 hsq rfl rfl (by decide) hf7
  have hs13 := tf_keepF hF4 hsq rfl rfl (by decide) hf8
  have hs14 := tf_keepF hF4 hsq rfl rfl (by decide) hf9
  have hs15 := tf_keepF hF4 hsq rfl rfl (by decide) hf10
  have hs16 := tf_keepC hF4 hlp rfl (by decide) hf11
  have hs17 := tf_keepC hF4 hlh rfl (by decide) hf12
  have hs18 := tf_keepC hF4 hyr rfl (by decide) hf13
  have hs19 := tf_keepC hF4 hwh rfl (by decide) hf14
  have hs20 := tf_keepC hF4 hta rfl (by decide) hf15
  have hs21 := tf_keepC hF4 hdh rfl (by decide) hf16
  have hs22 := tf_keepF hF4 ham rfl rfl (by decide) hf17
  have hs23 := tf_keepF hF4 ham rfl rfl (by decide) hf18
  have hs24 := tf_keepF hF4 ham rfl rfl (by decide) hf19
  have hs25 := tf_keepF hF4 ham rfl rfl (by decide) hf20
  have hs26 := tf_keepF hF4 ham rfl rfl (by decide) hf21
  have hs27 := tf_keepF hF4 ham rfl rfl (by decide) hf22
  have hs28 := tf_keepF hF4 ham rfl rfl (by decide) hf23
  have hs29 := tf_keepF hF4 ham rfl rfl (by decide) hf24
  have hs30 := tf_keepC hF4 hro rfl (by decide) hf25
  have hs31 := tf_keepC hF4 hiz rfl (by decide) hf26
  have hs32 := tf_keepC hF4 hkp rfl (by decide) hf27
  have hs33 := tf_keepC hF4 htm rfl (by decide) hf28
  have hs34 := tf_keepC hF4 hdw rfl (by decide) hf29
  have hI0 := tf_IS1_keep hF4 him (by decide) (by decide) hI0
  have hI1 := tf_IS2_keep hF4 him (by decide) (by decide) hI1
  obtain ⟨hp4_0, hp4_1⟩ := hp4
  refine lv_pop hx hb dL_law_346 rfl ?_
  refine lv_aload_n hx hb dL_law_347 rfl (lv_at hl 1 rfl) ?_
  refine lv_aload_n hx hb dL_law_348 rfl (lv_at hl 3 rfl) ?_
  refine lv_iload_n hx hb dL_law_349 rfl (lv_at hl 0 rfl) ?_
  refine tf_iconst hx hb dL_law_350 ?_
  refine tf_iadd hx hb dL_law_351 ?_
  refine lw_sld (sx := sx) hx hb hX hbl hBs hL hW (by omega) (by omega) dL_law_352 ?_
  have hsx35 := hsx (ii + 1)
  refine lv_aload_n hx hb dL_law_353 rfl (lv_at hl 3 rfl) ?_
  refine lv_iload_n hx hb dL_law_354 rfl (lv_at hl 0 rfl) ?_
  refine tf_iconst hx hb dL_law_355 ?_
  refine tf_iadd hx hb dL_law_356 ?_
  refine lw_sld (sx := sx) hx hb hX hbl hBs hL hW (by omega) (by omega) dL_law_357 ?_
  have hsx36 := hsx (ii + 2)
  refine lv_aload_n hx hb dL_law_358 rfl (lv_at hl 3 rfl) ?_
  refine lv_iload_n hx hb dL_law_359 rfl (lv_at hl 0 rfl) ?_
  refine tf_iconst hx hb dL_law_360 ?_
  refine tf_iadd hx hb dL_law_361 ?_
  refine lw_sld (sx := sx) hx hb hX hbl hBs hL hW (by omega) (by omega) dL_law_362 ?_
  have hsx37 := hsx (ii + 3)
  refine tf_calli (va_runV (As := [.int (Int32.ofInt ((sx (ii + 1)))), .int (Int32.ofInt ((sx (ii + 2)))), .int (Int32.ofInt ((sx (ii + 3))))]) (rest := []) ⟨hx, hb, hml, hown, hts⟩ (c_X10_put l g T am ham ((sx (ii + 1))) ⟨by omega, by omega⟩ ((sx (ii + 2))) ⟨by omega, by omega⟩ ((sx (ii + 3))) ⟨by omega, by omega⟩ ro hro rr) (cwV 3 hts gv_L_32 rfl rfl rfl hd_X10_put ⟨Nat.le_trans (by decide) hR1, Nat.le_trans (by decide) hR2⟩) (tf_preV hk hW ham (ci := 10) rfl rfl ⟨hs22, hs30⟩) rfl rfl hl.1 rfl (lv_room (Nat.le_of_ble_eq_true rfl)) dL_law_363 ⟨Nat.le_trans (by omega) hR3, Nat.le_trans (by omega) hR4⟩) hW (by decide) (fun z38 H38 locs38 hW hF38 hp38 => ?_)
  have hs39 := tf_keepF hF38 hax rfl rfl (by decide) hs5
  have hs40 := tf_keepF hF38 hax rfl rfl (by decide) hs6
  have hs41 := tf_keepF hF38 hax rfl rfl (by decide) hs7
  have hs42 := tf_keepF hF38 hax rfl rfl (by decide) hs8
  have hs43 := tf_keepF hF38 hax rfl rfl (by decide) hs9
  have hs44 := tf_keepF hF38 hax rfl rfl (by decide) hs10
  have hs45 := tf_keepF hF38 hax rfl rfl (by decide) hs11
  have hs46 := tf_keepF hF38 hsq rfl rfl (by decide) hs12
  have hs47 := tf_keepF hF38 hsq rfl rfl (by decide) hs13
  have hs48 := tf_keepF hF38 hsq rfl rfl (by decide) hs14
  have hs49 := tf_keepF hF38 hsq rfl rfl (by decide) hs15
  have hs50 := tf_keepC hF38 hlp rfl (by decide) hs16
  have hs51 := tf_keepC hF38 hlh rfl (by decide) hs17
  have hs52 := tf_keepC hF38 hyr rfl (by decide) hs18
  have hs53 := tf_keepC hF38 hwh rfl (by decide) hs19
  have hs54 := tf_keepC hF38 hta rfl (by decide) hs20
  have hs55 := tf_keepC hF38 hdh rfl (by decide) hs21
  have hs56 := tf_keepF hF38 ham rfl rfl (by decide) hs22
  have hs57 := tf_keepF hF38 ham rfl rfl (by decide) hs23
  have hs58 := tf_keepF hF38 ham rfl rfl (by decide) hs24
  have hs59 := tf_keepF hF38 ham rfl rfl (by decide) hs25
  have hs60 := tf_keepF hF38 ham rfl rfl (by decide) hs26
  have hs61 := tf_keepF hF38 ham rfl rfl (by decide) hs27
  have hs62 := tf_keepF hF38 ham rfl rfl (by decide) hs28
  have hs63 := tf_keepF hF38 ham rfl rfl (by decide) hs29
  have hs64 := tf_keepC hF38 hiz rfl (by decide) hs31
  have hs65 := tf_keepC hF38 hkp rfl (by decide) hs32
  have hs66 := tf_keepC hF38 htm rfl (by decide) hs33
  have hs67 := tf_keepC hF38 hdw rfl (by decide) hs34
  have hI0 := tf_IS1_keep hF38 him (by decide) (by decide) hI0
  have hI1 := tf_IS2_keep hF38 him (by decide) (by decide) hI1
  obtain ⟨hp38_0, hp38_1, hp38_2⟩ := hp38
  obtain ⟨r1_38, hX38_0, hR38_0⟩ := hp38_2
  have hRL := tf_RL_kp hRL hR38_0
  refine lv_pop hx hb dL_law_366 rfl ?_
  refine lv_goto (tgt := 1498) hx hb dL_law_367 (by decide) ?_
  refine W.widen (k := 130 + 30 * jj) (n := 31200 + 1200 * jj) (by omega) (by omega) ?_
  exact hnx _ _ _ hW hax ham ⟨sq, im, ta, dh, lp, lh, yr, wh, ro, iz, kp, tm, dw, (tt), (uu), (dd), gl, gh, gy, gw, tp, gd, r1_38, qq, rk, tq, gm, hsq, him, hta, hdh, hlp, hlh, hyr, hwh, hro, hiz, hkp, htm, hdw, ⟨by omega, by omega⟩, ⟨by omega, by omega⟩, ⟨by omega, by omega⟩, hs39, hs40, hs41, hs42, hs43, hs44, hs45, hs46, hs47, hs48, hs49, hs50, hs51, hs52, hs53, hs54, hs55, hs56, hs57, hs58, tf_eqv hs59 (by omega), hs60, tf_eqv hs61 (by omega), hs62, tf_eqv hs63 (by omega), hX38_0, hs64, hs65, hs66, hs67, hRL, hDD, hTP, hI0, hI1⟩ _ (lv_sub hl [0, 1, 2, 3] rfl)

set_option maxHeartbeats 4000000 in
set_option maxRecDepth 100000 in
theorem lc_370 {p : Program} {l : Launch} {e : Env} {s : State} {m : MethodId} {below : List Frame} {meth : Method} {c : Code} {b L : Nat} {g : tf_G} {sx : Int → Int} {Q : State → Prop} (E : lw_E p s m c b L g sx) (ax am jj : Nat) (ii : Int) (hii : ii = 6 * (jj : Int)) (hij : ii + 6 ≤ (L : Int)) (hnx : lw_nx p l e s m below meth c b g ax am jj ii Q) (T : tf_T) (H : Heap) (locs : List Loc) (hW : tf_n tf_kt g M_law (fun _ => none) s.heap T H locs) (hax : T ax = some (39, 0)) (ham : T am = some (63, 0)) (hI : lw_I g T H ax am) (ls : Array Slot) (hl : lv_has ls 4 [(3, .int (Int32.ofInt ii)), (2, .ref am), (1, .ref ax), (0, .ref b)]) : W p l e room_1 s m #[Value.ref b] below meth c H locs (100 + 30 * jj) (30000 + 1200 * jj) Q (F0 m 370 ls []) := by
  obtain ⟨hx, hb, hml, hown, hts, hbl, hk, hBs, hsx, hX, hL⟩ := id E
  have hR1 := lw_R1
  have hR2 := lw_R2
  have hR3 := lw_R3
  have hR4 := lw_R4
  have hK := hk.1
  have hE : tf_E g T := trivial
  obtain ⟨sq, im, ta, dh, lp, lh, yr, wh, ro, iz, kp, tm, dw, tt, uu, dd, gl, gh, gy, gw, tp, gd, rr, qq, rk, tq, gm, hsq, him, hta, hdh, hlp, hlh, hyr, hwh, hro, hiz, hkp, htm, hdw, htt, huu, hdd, hf0, hf1, hf2, hf3, hf4, hf5, hf6, hf7, hf8, hf9, hf10, hf11, hf12, hf13, hf14, hf15, hf16, hf17, hf18, hf19, hf20, hf21, hf22, hf23, hf24, hf25, hf26, hf27, hf28, hf29, hRL, hDD, hTP, hI0, hI1⟩ := hI
  have hWS : tf_WS gy gw := hRL.2.2
  refine lv_aload_n hx hb dL_law_370 rfl (lv_at hl 2 rfl) ?_
  refine lv_aload_n hx hb dL_law_371 rfl (lv_at hl 3 rfl) ?_
  refine lv_iload_n hx hb dL_law_372 rfl (lv_at hl 0 rfl) ?_
  refine tf_iconst hx hb dL_law_373 ?_
  refine tf_iadd hx hb dL_law_374 ?_
  refine lw_sld (sx := sx) hx hb hX hbl hBs hL hW (by omega) (by omega) dL_law_375 ?_
  have hsx1 := hsx (ii + 1)
  refine lv_aload_n hx hb dL_law_376 rfl (lv_at hl 3 rfl) ?_
  refine lv_iload_n hx hb dL_law_377 rfl (lv_at hl 0 rfl) ?_
  refine tf_iconst hx hb dL_law_378 ?_
  refine tf_iadd hx hb dL_law_379 ?_
  refine lw_sld (sx := sx) hx hb hX hbl hBs hL hW (by omega) (by omega) dL_law_380 ?_
  have hsx2 := hsx (ii + 2)
  refine tf_calli (va_runV (As := [.int (Int32.ofInt ((sx (ii + 1)))), .int (Int32.ofInt ((sx (ii + 2))))]) (rest := []) ⟨hx, hb, hml, hown, hts⟩ (c_X9_of l g T ax hax ((sx (ii + 1))) ⟨by omega, by omega⟩ ((sx (ii + 2))) ⟨by omega, by omega⟩) (cwV 2 hts gv_L_33 rfl rfl rfl hd_X9_of ⟨Nat.le_trans (by decide) hR1, Nat.le_trans (by decide) hR2⟩) (tf_preV hk hW hax (ci := 9) rfl rfl trivial) rfl rfl hl.1 rfl (lv_room (Nat.le_of_ble_eq_true rfl)) dL_law_381 ⟨Nat.le_trans (by omega) hR3, Nat.le_trans (by omega) hR4⟩) hW (by decide) (fun z3 H3 locs3 hW hF3 hp3 => ?_)
  have hs4 := tf_keepF hF3 hax rfl rfl (by decide) hf0
  have hs5 := tf_keepF hF3 hax rfl rfl (by decide) hf1
  have hs6 := tf_keepF hF3 hax rfl rfl (by decide) hf2
  have hs7 := tf_keepF hF3 hax rfl rfl (by decide) hf3
  have hs8 := tf_keepF hF3 hax rfl rfl (by decide) hf4
  have hs9 := tf_keepF hF3 hax rfl rfl (by decide) hf5
  have hs10 := tf_keepF hF3 hax rfl rfl (by decide) hf6
  have hs11 := tf_keepF hF3 hsq rfl rfl (by decide) hf7
  have hs12 := tf_keepF hF3 hsq rfl rfl (by decide) hf8
  have hs13 := tf_keepF hF3 hsq rfl rfl (by decide) hf9
  have hs14 := tf_keepF hF3 hsq rfl rfl (by decide) hf10
  have hs15 := tf_keepC hF3 hlp rfl (by decide) hf11
  have hs16 := tf_keepC hF3 hlh rfl (by decide) hf12
  have hs17 := tf_keepC hF3 hyr rfl (by decide) hf13
  have hs18 := tf_keepC hF3 hwh rfl (by decide) hf14
  have hs19 := tf_keepC hF3 hta rfl (by decide) hf15
  have hs20 := tf_keepC hF3 hdh rfl (by decide) hf16
  have hs21 := tf_keepF hF3 ham rfl rfl (by decide) hf17
  have hs22 := tf_keepF hF3 ham rfl rfl (by decide) hf18
  have hs23 := tf_keepF hF3 ham rfl rfl (by decide) hf19
  have hs24 := tf_keepF hF3 ham rfl rfl (by decide) hf20
  have hs25 := tf_keepF hF3 ham rfl rfl (by decide) hf21
  have hs26 := tf_keepF hF3 ham rfl rfl (by decide) hf22
  have hs27 := tf_keepF hF3 ham rfl rfl (by decide) hf23
  have hs28 := tf_keepF hF3 ham rfl rfl (by decide) hf24
  have hs29 := tf_keepC hF3 hro rfl (by decide) hf25
  have hs30 := tf_keepC hF3 hiz rfl (by decide) hf26
  have hs31 := tf_keepC hF3 hkp rfl (by decide) hf27
  have hs32 := tf_keepC hF3 htm rfl (by decide) hf28
  have hs33 := tf_keepC hF3 hdw rfl (by decide) hf29
  have hI0 := tf_IS1_keep hF3 him (by decide) (by decide) hI0
  have hI1 := tf_IS2_keep hF3 him (by decide) (by decide) hI1
  obtain ⟨hp3_0, hp3_1⟩ := hp3
  refine lv_pop hx hb dL_law_384 rfl ?_
  refine lv_aload_n hx hb dL_law_385 rfl (lv_at hl 1 rfl) ?_
  refine lv_aload_n hx hb dL_law_386 rfl (lv_at hl 3 rfl) ?_
  refine lv_iload_n hx hb dL_law_387 rfl (lv_at hl 0 rfl) ?_
  refine tf_iconst hx hb dL_law_388 ?_
  refine tf_iadd hx hb dL_law_389 ?_
  refine lw_sld (sx := sx) hx hb hX hbl hBs hL hW (by omega) (by omega) dL_law_390 ?_
  have hsx34 := hsx (ii + 1)
  refine lv_aload_n hx hb dL_law_391 rfl (lv_at hl 3 rfl) ?_
  refine lv_iload_n hx hb dL_law_392 rfl (lv_at hl 0 rfl) ?_
  refine tf_iconst hx hb dL_law_393 ?_
  refine tf_iadd hx hb dL_law_394 ?_
  refine lw_sld (sx := sx) hx hb hX hbl hBs hL hW (by omega) (by omega) dL_law_395 ?_
  have hsx35 := hsx (ii + 2)
  refine tf_calli (va_runV (As := [.int (Int32.ofInt ((sx (ii + 1)))), .int (Int32.ofInt ((sx (ii + 2))))]) (rest := []) ⟨hx, hb, hml, hown, hts⟩ (c_X10_of l g T am ham ((sx (ii + 1))) ⟨by omega, by omega⟩ ((sx (ii + 2))) ⟨by omega, by omega⟩) (cwV 2 hts gv_L_36 rfl rfl rfl hd_X10_of ⟨Nat.le_trans (by decide) hR1, Nat.le_trans (by decide) hR2⟩) (tf_preV hk hW ham (ci := 10) rfl rfl trivial) rfl rfl hl.1 rfl (lv_room (Nat.le_of_ble_eq_true rfl)) dL_law_396 ⟨Nat.le_trans (by omega) hR3, Nat.le_trans (by omega) hR4⟩) hW (by decide) (fun z36 H36 locs36 hW hF36 hp36 => ?_)
  have hs37 := tf_keepF hF36 hax rfl rfl (by decide) hs4
  have hs38 := tf_keepF hF36 hax rfl rfl (by decide) hs5
  have hs39 := tf_keepF hF36 hax rfl rfl (by decide) hs6
  have hs40 := tf_keepF hF36 hax rfl rfl (by decide) hs7
  have hs41 := tf_keepF hF36 hax rfl rfl (by decide) hs8
  have hs42 := tf_keepF hF36 hax rfl rfl (by decide) hs9
  have hs43 := tf_keepF hF36 hax rfl rfl (by decide) hs10
  have hs44 := tf_keepF hF36 hsq rfl rfl (by decide) hs11
  have hs45 := tf_keepF hF36 hsq rfl rfl (by decide) hs12
  have hs46 := tf_keepF hF36 hsq rfl rfl (by decide) hs13
  have hs47 := tf_keepF hF36 hsq rfl rfl (by decide) hs14
  have hs48 := tf_keepC hF36 hlp rfl (by decide) hs15
  have hs49 := tf_keepC hF36 hlh rfl (by decide) hs16
  have hs50 := tf_keepC hF36 hyr rfl (by decide) hs17
  have hs51 := tf_keepC hF36 hwh rfl (by decide) hs18
  have hs52 := tf_keepC hF36 hta rfl (by decide) hs19
  have hs53 := tf_keepC hF36 hdh rfl (by decide) hs20
  have hs54 := tf_keepF hF36 ham rfl rfl (by decide) hs21
  have hs55 := tf_keepF hF36 ham rfl rfl (by decide) hs22
  have hs56 := tf_keepF hF36 ham rfl rfl (by decide) hs23
  have hs57 := tf_keepF hF36 ham rfl rfl (by decide) hs24
  have hs58 := tf_keepF hF36 ham rfl rfl (by decide) hs25
  have hs59 := tf_keepF hF36 ham rfl rfl (by decide) hs26
  have hs60 := tf_keepF hF36 ham rfl rfl (by decide) hs27
  have hs61 := tf_keepF hF36 ham rfl rfl (by decide) hs28
  have hs62 := tf_keepC hF36 hro rfl (by decide) hs29
  have hs63 := tf_keepC hF36 hiz rfl (by decide) hs30
  have hs64 := tf_keepC hF36 hkp rfl (by decide) hs31
  have hs65 := tf_keepC hF36 htm rfl (by decide) hs32
  have hs66 := tf_keepC hF36 hdw rfl (by decide) hs33
  have hI0 := tf_IS1_keep hF36 him (by decide) (by decide) hI0
  have hI1 := tf_IS2_keep hF36 him (by decide) (by decide) hI1
  obtain ⟨hp36_0, hp36_1⟩ := hp36
  refine lv_pop hx hb dL_law_399 rfl ?_
  refine lv_goto (tgt := 1498) hx hb dL_law_400 (by decide) ?_
  refine W.widen (k := 130 + 30 * jj) (n := 31200 + 1200 * jj) (by omega) (by omega) ?_
  exact hnx _ _ _ hW hax ham ⟨sq, im, ta, dh, lp, lh, yr, wh, ro, iz, kp, tm, dw, (tt), (uu), (dd), gl, gh, gy, gw, tp, gd, rr, qq, rk, tq, gm, hsq, him, hta, hdh, hlp, hlh, hyr, hwh, hro, hiz, hkp, htm, hdw, ⟨by omega, by omega⟩, ⟨by omega, by omega⟩, ⟨by omega, by omega⟩, hs37, hs38, hs39, hs40, hs41, hs42, hs43, hs44, hs45, hs46, hs47, hs48, hs49, hs50, hs51, hs52, hs53, hs54, hs55, hs56, tf_eqv hs57 (by omega), hs58, tf_eqv hs59 (by omega), hs60, tf_eqv hs61 (by omega), hs62, hs63, hs64, hs65, hs66, hRL, hDD, hTP, hI0, hI1⟩ _ (lv_sub hl [0, 1, 2, 3] rfl)

set_option maxHeartbeats 4000000 in
set_option maxRecDepth 100000 in
theorem lc_403 {p : Program} {l : Launch} {e : Env} {s : State} {m : MethodId} {below : List Frame} {meth : Method} {c : Code} {b L : Nat} {g : tf_G} {sx : Int → Int} {Q : State → Prop} (E : lw_E p s m c b L g sx) (ax am jj : Nat) (ii : Int) (hii : ii = 6 * (jj : Int)) (hij : ii + 6 ≤ (L : Int)) (hnx : lw_nx p l e s m below meth c b g ax am jj ii Q) (T : tf_T) (H : Heap) (locs : List Loc) (hW : tf_n tf_kt g M_law (fun _ => none) s.heap T H locs) (hax : T ax = some (39, 0)) (ham : T am = some (63, 0)) (hI : lw_I g T H ax am) (ls : Array Slot) (hl : lv_has ls 4 [(3, .int (Int32.ofInt ii)), (2, .ref am), (1, .ref ax), (0, .ref b)]) : W p l e room_1 s m #[Value.ref b] below meth c H locs (100 + 30 * jj) (30000 + 1200 * jj) Q (F0 m 403 ls []) := by
  obtain ⟨hx, hb, hml, hown, hts, hbl, hk, hBs, hsx, hX, hL⟩ := id E
  have hR1 := lw_R1
  have hR2 := lw_R2
  have hR3 := lw_R3
  have hR4 := lw_R4
  have hK := hk.1
  have hE : tf_E g T := trivial
  obtain ⟨sq, im, ta, dh, lp, lh, yr, wh, ro, iz, kp, tm, dw, tt, uu, dd, gl, gh, gy, gw, tp, gd, rr, qq, rk, tq, gm, hsq, him, hta, hdh, hlp, hlh, hyr, hwh, hro, hiz, hkp, htm, hdw, htt, huu, hdd, hf0, hf1, hf2, hf3, hf4, hf5, hf6, hf7, hf8, hf9, hf10, hf11, hf12, hf13, hf14, hf15, hf16, hf17, hf18, hf19, hf20, hf21, hf22, hf23, hf24, hf25, hf26, hf27, hf28, hf29, hRL, hDD, hTP, hI0, hI1⟩ := hI
  have hWS : tf_WS gy gw := hRL.2.2
  refine lv_aload_n hx hb dL_law_403 rfl (lv_at hl 2 rfl) ?_
  refine lv_aload_n hx hb dL_law_404 rfl (lv_at hl 3 rfl) ?_
  refine lv_iload_n hx hb dL_law_405 rfl (lv_at hl 0 rfl) ?_
  refine tf_iconst hx hb dL_law_406 ?_
  refine tf_iadd hx hb dL_law_407 ?_
  refine lw_sld (sx := sx) hx hb hX hbl hBs hL hW (by omega) (by omega) dL_law_408 ?_
  have hsx1 := hsx (ii + 1)
  refine lv_aload_n hx hb dL_law_409 rfl (lv_at hl 3 rfl) ?_
  refine lv_iload_n hx hb dL_law_410 rfl (lv_at hl 0 rfl) ?_
  refine tf_iconst hx hb dL_law_411 ?_
  refine tf_iadd hx hb dL_law_412 ?_
  refine lw_sld (sx := sx) hx hb hX hbl hBs hL hW (by omega) (by omega) dL_law_413 ?_
  have hsx2 := hsx (ii + 2)
  refine lv_aload_n hx hb dL_law_414 rfl (lv_at hl 3 rfl) ?_
  refine lv_iload_n hx hb dL_law_415 rfl (lv_at hl 0 rfl) ?_
  refine tf_iconst hx hb dL_law_416 ?_
  refine tf_iadd hx hb dL_law_417 ?_
  refine lw_sld (sx := sx) hx hb hX hbl hBs hL hW (by omega) (by omega) dL_law_418 ?_
  have hsx3 := hsx (ii + 3)
  refine tf_calli (va_runV (As := [.int (Int32.ofInt ((sx (ii + 1)))), .int (Int32.ofInt ((sx (ii + 2)))), .int (Int32.ofInt ((sx (ii + 3))))]) (rest := []) ⟨hx, hb, hml, hown, hts⟩ (c_X9_line l g T ax hax ((sx (ii + 1))) ⟨by omega, by omega⟩ ((sx (ii + 2))) ⟨by omega, by omega⟩ ((sx (ii + 3))) ⟨by omega, by omega⟩ sq hsq lp hlp lh hlh gl gh) (cwV 3 hts gv_L_37 rfl rfl rfl hd_X9_line ⟨Nat.le_trans (by decide) hR1, Nat.le_trans (by decide) hR2⟩) (tf_preV hk hW hax (ci := 9) rfl rfl ⟨hf0, hf7, hf8, hf11, hf12⟩) rfl rfl hl.1 rfl (lv_room (Nat.le_of_ble_eq_true rfl)) dL_law_419 ⟨Nat.le_trans (by omega) hR3, Nat.le_trans (by omega) hR4⟩) hW (by decide) (fun z4 H4 locs4 hW hF4 hp4 => ?_)
  have hs5 := tf_keepF hF4 hax rfl rfl (by decide) hf0
  have hs6 := tf_keepF hF4 hax rfl rfl (by decide) hf1
  have hs7 := tf_keepF hF4 hax rfl rfl (by decide) hf2
  have hs8 := tf_keepF hF4 hax rfl rfl (by decide) hf3
  have hs9 := tf_keepF hF4 hax rfl rfl (by decide) hf4
  have hs10 := tf_keepF hF4 hax rfl rfl (by decide) hf5
  have hs11 := tf_keepF hF4 hax rfl rfl (by decide) hf6
  have hs12 := tf_keepF hF4 hsq rfl rfl (by decide) hf7
  have hs13 := tf_keepF hF4 hsq rfl rfl (by decide) hf8
  have hs14 := tf_keepF hF4 hsq rfl rfl (by decide) hf9
  have hs15 := tf_keepF hF4 hsq rfl rfl (by decide) hf10
  have hs16 := tf_keepC hF4 hyr rfl (by decide) hf13
  have hs17 := tf_keepC hF4 hwh rfl (by decide) hf14
  have hs18 := tf_keepC hF4 hta rfl (by decide) hf15
  have hs19 := tf_keepC hF4 hdh rfl (by decide) hf16
  have hs20 := tf_keepF hF4 ham rfl rfl (by decide) hf17
  have hs21 := tf_keepF hF4 ham rfl rfl (by decide) hf18
  have hs22 := tf_keepF hF4 ham rfl rfl (by decide) hf19
  have hs23 := tf_keepF hF4 ham rfl rfl (by decide) hf20
  have hs24 := tf_keepF hF4 ham rfl rfl (by decide) hf21
  have hs25 := tf_keepF hF4 ham rfl rfl (by decide) hf22
  have hs26 := tf_keepF hF4 ham rfl rfl (by decide) hf23
  have hs27 := tf_keepF hF4 ham rfl rfl (by decide) hf24
  have hs28 := tf_keepC hF4 hro rfl (by decide) hf25
  have hs29 := tf_keepC hF4 hiz rfl (by decide) hf26
  have hs30 := tf_keepC hF4 hkp rfl (by decide) hf27
  have hs31 := tf_keepC hF4 htm rfl (by decide) hf28
  have hs32 := tf_keepC hF4 hdw rfl (by decide) hf29
  have hI0 := tf_IS1_keep hF4 him (by decide) (by decide) hI0
  have hI1 := tf_IS2_keep hF4 him (by decide) (by decide) hI1
  obtain ⟨hp4_0, hp4_1, hp4_2⟩ := hp4
  obtain ⟨gl1_4, gh1_4, hX4_0, hX4_1, hR4_0⟩ := hp4_2
  refine lv_pop hx hb dL_law_422 rfl ?_
  refine lv_aload_n hx hb dL_law_423 rfl (lv_at hl 1 rfl) ?_
  refine lv_aload_n hx hb dL_law_424 rfl (lv_at hl 3 rfl) ?_
  refine lv_iload_n hx hb dL_law_425 rfl (lv_at hl 0 rfl) ?_
  refine tf_iconst hx hb dL_law_426 ?_
  refine tf_iadd hx hb dL_law_427 ?_
  refine lw_sld (sx := sx) hx hb hX hbl hBs hL hW (by omega) (by omega) dL_law_428 ?_
  have hsx33 := hsx (ii + 1)
  refine lv_aload_n hx hb dL_law_429 rfl (lv_at hl 3 rfl) ?_
  refine lv_iload_n hx hb dL_law_430 rfl (lv_at hl 0 rfl) ?_
  refine tf_iconst hx hb dL_law_431 ?_
  refine tf_iadd hx hb dL_law_432 ?_
  refine lw_sld (sx := sx) hx hb hX hbl hBs hL hW (by omega) (by omega) dL_law_433 ?_
  have hsx34 := hsx (ii + 2)
  refine lv_aload_n hx hb dL_law_434 rfl (lv_at hl 3 rfl) ?_
  refine lv_iload_n hx hb dL_law_435 rfl (lv_at hl 0 rfl) ?_
  refine tf_iconst hx hb dL_law_436 ?_
  refine tf_iadd hx hb dL_law_437 ?_
  refine lw_sld (sx := sx) hx hb hX hbl hBs hL hW (by omega) (by omega) dL_law_438 ?_
  have hsx35 := hsx (ii + 3)
  refine tf_calli (va_runV (As := [.int (Int32.ofInt ((sx (ii + 1)))), .int (Int32.ofInt ((sx (ii + 2)))), .int (Int32.ofInt ((sx (ii + 3))))]) (rest := []) ⟨hx, hb, hml, hown, hts⟩ (c_X10_line l g T am ham ((sx (ii + 1))) ⟨by omega, by omega⟩ ((sx (ii + 2))) ⟨by omega, by omega⟩ ((sx (ii + 3))) ⟨by omega, by omega⟩ ro hro rr) (cwV 3 hts gv_L_40 rfl rfl rfl hd_X10_line ⟨Nat.le_trans (by decide) hR1, Nat.le_trans (by decide) hR2⟩) (tf_preV hk hW ham (ci := 10) rfl rfl ⟨hs20, hs28⟩) rfl rfl hl.1 rfl (lv_room (Nat.le_of_ble_eq_true rfl)) dL_law_439 ⟨Nat.le_trans (by omega) hR3, Nat.le_trans (by omega) hR4⟩) hW (by decide) (fun z36 H36 locs36 hW hF36 hp36 => ?_)
  have hs37 := tf_keepF hF36 hax rfl rfl (by decide) hs5
  have hs38 := tf_keepF hF36 hax rfl rfl (by decide) hs6
  have hs39 := tf_keepF hF36 hax rfl rfl (by decide) hs7
  have hs40 := tf_keepF hF36 hax rfl rfl (by decide) hs8
  have hs41 := tf_keepF hF36 hax rfl rfl (by decide) hs9
  have hs42 := tf_keepF hF36 hax rfl rfl (by decide) hs10
  have hs43 := tf_keepF hF36 hax rfl rfl (by decide) hs11
  have hs44 := tf_keepF hF36 hsq rfl rfl (by decide) hs12
  have hs45 := tf_keepF hF36 hsq rfl rfl (by decide) hs13
  have hs46 := tf_keepF hF36 hsq rfl rfl (by decide) hs14
  have hs47 := tf_keepF hF36 hsq rfl rfl (by decide) hs15
  have hs48 := tf_keepC hF36 hyr rfl (by decide) hs16
  have hs49 := tf_keepC hF36 hwh rfl (by decide) hs17
  have hs50 := tf_keepC hF36 hta rfl (by decide) hs18
  have hs51 := tf_keepC hF36 hdh rfl (by decide) hs19
  have hs52 := tf_keepF hF36 ham rfl rfl (by decide) hs20
  have hs53 := tf_keepF hF36 ham rfl rfl (by decide) hs21
  have hs54 := tf_keepF hF36 ham rfl rfl (by decide) hs22
  have hs55 := tf_keepF hF36 ham rfl rfl (by decide) hs23
  have hs56 := tf_keepF hF36 ham rfl rfl (by decide) hs24
  have hs57 := tf_keepF hF36 ham rfl rfl (by decide) hs25
  have hs58 := tf_keepF hF36 ham rfl rfl (by decide) hs26
  have hs59 := tf_keepF hF36 ham rfl rfl (by decide) hs27
  have hs60 := tf_keepC hF36 hiz rfl (by decide) hs29
  have hs61 := tf_keepC hF36 hkp rfl (by decide) hs30
  have hs62 := tf_keepC hF36 htm rfl (by decide) hs31
  have hs63 := tf_keepC hF36 hdw rfl (by decide) hs32
  have hs64 := tf_keepC hF36 hlp rfl (by decide) hX4_0
  have hs65 := tf_keepC hF36 hlh rfl (by decide) hX4_1
  have hI0 := tf_IS1_keep hF36 him (by decide) (by decide) hI0
  have hI1 := tf_IS2_keep hF36 him (by decide) (by decide) hI1
  obtain ⟨hp36_0, hp36_1, hp36_2⟩ := hp36
  obtain ⟨r1_36, hX36_0, hR36_0⟩ := hp36_2
  obtain ⟨hzz, hRL⟩ := tf_line_eq hRL hR4_0 hR36_0
  refine lv_pop hx hb dL_law_442 rfl ?_
  refine lv_goto (tgt := 1498) hx hb dL_law_443 (by decide) ?_
  refine W.widen (k := 130 + 30 * jj) (n := 31200 + 1200 * jj) (by omega) (by omega) ?_
  exact hnx _ _ _ hW hax ham ⟨sq, im, ta, dh, lp, lh, yr, wh, ro, iz, kp, tm, dw, (tt), (uu), (dd), gl1_4, gh1_4, gy, gw, tp, gd, r1_36, qq, rk, tq, gm, hsq, him, hta, hdh, hlp, hlh, hyr, hwh, hro, hiz, hkp, htm, hdw, ⟨by omega, by omega⟩, ⟨by omega, by omega⟩, ⟨by omega, by omega⟩, hs37, hs38, hs39, hs40, hs41, hs42, hs43, hs44, hs45, hs46, hs47, hs64, hs65, hs48, hs49, hs50, hs51, hs52, hs53, hs54, tf_eqv hs55 (by omega), hs56, tf_eqv hs57 (by omega), hs58, tf_eqv hs59 (by omega), hX36_0, hs60, hs61, hs62, hs63, hRL, hDD, hTP, hI0, hI1⟩ _ (lv_sub hl [0, 1, 2, 3] rfl)

set_option maxHeartbeats 4000000 in
set_option maxRecDepth 100000 in
theorem lc_446 {p : Program} {l : Launch} {e : Env} {s : State} {m : MethodId} {below : List Frame} {meth : Method} {c : Code} {b L : Nat} {g : tf_G} {sx : Int → Int} {Q : State → Prop} (E : lw_E p s m c b L g sx) (ax am jj : Nat) (ii : Int) (hii : ii = 6 * (jj : Int)) (hij : ii + 6 ≤ (L : Int)) (hnx : lw_nx p l e s m below meth c b g ax am jj ii Q) (T : tf_T) (H : Heap) (locs : List Loc) (hW : tf_n tf_kt g M_law (fun _ => none) s.heap T H locs) (hax : T ax = some (39, 0)) (ham : T am = some (63, 0)) (hI : lw_I g T H ax am) (ls : Array Slot) (hl : lv_has ls 4 [(3, .int (Int32.ofInt ii)), (2, .ref am), (1, .ref ax), (0, .ref b)]) : W p l e room_1 s m #[Value.ref b] below meth c H locs (100 + 30 * jj) (30000 + 1200 * jj) Q (F0 m 446 ls []) := by
  obtain ⟨hx, hb, hml, hown, hts, hbl, hk, hBs, hsx, hX, hL⟩ := id E
  have hR1 := lw_R1
  have hR2 := lw_R2
  have hR3 := lw_R3
  have hR4 := lw_R4
  have hK := hk.1
  have hE : tf_E g T := trivial
  obtain ⟨sq, im, ta, dh, lp, lh, yr, wh, ro, iz, kp, tm, dw, tt, uu, dd, gl, gh, gy, gw, tp, gd, rr, qq, rk, tq, gm, hsq, him, hta, hdh, hlp, hlh, hyr, hwh, hro, hiz, hkp, htm, hdw, htt, huu, hdd, hf0, hf1, hf2, hf3, hf4, hf5, hf6, hf7, hf8, hf9, hf10, hf11, hf12, hf13, hf14, hf15, hf16, hf17, hf18, hf19, hf20, hf21, hf22, hf23, hf24, hf25, hf26, hf27, hf28, hf29, hRL, hDD, hTP, hI0, hI1⟩ := hI
  have hWS : tf_WS gy gw := hRL.2.2
  refine lv_aload_n hx hb dL_law_446 rfl (lv_at hl 2 rfl) ?_
  refine lv_aload_n hx hb dL_law_447 rfl (lv_at hl 3 rfl) ?_
  refine lv_iload_n hx hb dL_law_448 rfl (lv_at hl 0 rfl) ?_
  refine tf_iconst hx hb dL_law_449 ?_
  refine tf_iadd hx hb dL_law_450 ?_
  refine lw_sld (sx := sx) hx hb hX hbl hBs hL hW (by omega) (by omega) dL_law_451 ?_
  have hsx1 := hsx (ii + 1)
  refine lv_aload_n hx hb dL_law_452 rfl (lv_at hl 3 rfl) ?_
  refine lv_iload_n hx hb dL_law_453 rfl (lv_at hl 0 rfl) ?_
  refine tf_iconst hx hb dL_law_454 ?_
  refine tf_iadd hx hb dL_law_455 ?_
  refine lw_sld (sx := sx) hx hb hX hbl hBs hL hW (by omega) (by omega) dL_law_456 ?_
  have hsx2 := hsx (ii + 2)
  refine lv_aload_n hx hb dL_law_457 rfl (lv_at hl 3 rfl) ?_
  refine lv_iload_n hx hb dL_law_458 rfl (lv_at hl 0 rfl) ?_
  refine tf_iconst hx hb dL_law_459 ?_
  refine tf_iadd hx hb dL_law_460 ?_
  refine lw_sld (sx := sx) hx hb hX hbl hBs hL hW (by omega) (by omega) dL_law_461 ?_
  have hsx3 := hsx (ii + 3)
  refine tf_calli (va_runV (As := [.int (Int32.ofInt ((sx (ii + 1)))), .int (Int32.ofInt ((sx (ii + 2)))), .int (Int32.ofInt ((sx (ii + 3))))]) (rest := []) ⟨hx, hb, hml, hown, hts⟩ (c_X9_hours l g T ax hax ((sx (ii + 1))) ⟨by omega, by omega⟩ ((sx (ii + 2))) ⟨by omega, by omega⟩ ((sx (ii + 3))) ⟨by omega, by omega⟩ sq hsq yr hyr wh hwh gy gw (by first | omega | assumption)) (cwV 3 hts gv_L_41 rfl rfl rfl hd_X9_hours ⟨Nat.le_trans (by decide) hR1, Nat.le_trans (by decide) hR2⟩) (tf_preV hk hW hax (ci := 9) rfl rfl ⟨hf0, hf9, hf10, hf13, hf14⟩) rfl rfl hl.1 rfl (lv_room (Nat.le_of_ble_eq_true rfl)) dL_law_462 ⟨Nat.le_trans (by omega) hR3, Nat.le_trans (by omega) hR4⟩) hW (by decide) (fun z4 H4 locs4 hW hF4 hp4 => ?_)
  have hs5 := tf_keepF hF4 hax rfl rfl (by decide) hf0
  have hs6 := tf_keepF hF4 hax rfl rfl (by decide) hf1
  have hs7 := tf_keepF hF4 hax rfl rfl (by decide) hf2
  have hs8 := tf_keepF hF4 hax rfl rfl (by decide) hf3
  have hs9 := tf_keepF hF4 hax rfl rfl (by decide) hf4
  have hs10 := tf_keepF hF4 hax rfl rfl (by decide) hf5
  have hs11 := tf_keepF hF4 hax rfl rfl (by decide) hf6
  have hs12 := tf_keepF hF4 hsq rfl rfl (by decide) hf7
  have hs13 := tf_keepF hF4 hsq rfl rfl (by decide) hf8
  have hs14 := tf_keepF hF4 hsq rfl rfl (by decide) hf9
  have hs15 := tf_keepF hF4 hsq rfl rfl (by decide) hf10
  have hs16 := tf_keepC hF4 hlp rfl (by decide) hf11
  have hs17 := tf_keepC hF4 hlh rfl (by decide) hf12
  have hs18 := tf_keepC hF4 hta rfl (by decide) hf15
  have hs19 := tf_keepC hF4 hdh rfl (by decide) hf16
  have hs20 := tf_keepF hF4 ham rfl rfl (by decide) hf17
  have hs21 := tf_keepF hF4 ham rfl rfl (by decide) hf18
  have hs22 := tf_keepF hF4 ham rfl rfl (by decide) hf19
  have hs23 := tf_keepF hF4 ham rfl rfl (by decide) hf20
  have hs24 := tf_keepF hF4 ham rfl rfl (by decide) hf21
  have hs25 := tf_keepF hF4 ham rfl rfl (by decide) hf22
  have hs26 := tf_keepF hF4 ham rfl rfl (by decide) hf23
  have hs27 := tf_keepF hF4 ham rfl rfl (by decide) hf24
  have hs28 := tf_keepC hF4 hro rfl (by decide) hf25
  have hs29 := tf_keepC hF4 hiz rfl (by decide) hf26
  have hs30 := tf_keepC hF4 hkp rfl (by decide) hf27
  have hs31 := tf_keepC hF4 htm rfl (by decide) hf28
  have hs32 := tf_keepC hF4 hdw rfl (by decide) hf29
  have hI0 := tf_IS1_keep hF4 him (by decide) (by decide) hI0
  have hI1 := tf_IS2_keep hF4 him (by decide) (by decide) hI1
  obtain ⟨hp4_0, hp4_1, hp4_2⟩ := hp4
  obtain ⟨gy1_4, gw1_4, hX4_0, hX4_1, hR4_0, hR4_1⟩ := hp4_2
  refine lv_pop hx hb dL_law_465 rfl ?_
  refine lv_aload_n hx hb dL_law_466 rfl (lv_at hl 1 rfl) ?_
  refine lv_aload_n hx hb dL_law_467 rfl (lv_at hl 3 rfl) ?_
  refine lv_iload_n hx hb dL_law_468 rfl (lv_at hl 0 rfl) ?_
  refine tf_iconst hx hb dL_law_469 ?_
  refine tf_iadd hx hb dL_law_470 ?_
  refine lw_sld (sx := sx) hx hb hX hbl hBs hL hW (by omega) (by omega) dL_law_471 ?_
  have hsx33 := hsx (ii + 1)
  refine lv_aload_n hx hb dL_law_472 rfl (lv_at hl 3 rfl) ?_
  refine lv_iload_n hx hb dL_law_473 rfl (lv_at hl 0 rfl) ?_
  refine tf_iconst hx hb dL_law_474 ?_
  refine tf_iadd hx hb dL_law_475 ?_
  refine lw_sld (sx := sx) hx hb hX hbl hBs hL hW (by omega) (by omega) dL_law_476 ?_
  have hsx34 := hsx (ii + 2)
  refine lv_aload_n hx hb dL_law_477 rfl (lv_at hl 3 rfl) ?_
  refine lv_iload_n hx hb dL_law_478 rfl (lv_at hl 0 rfl) ?_
  refine tf_iconst hx hb dL_law_479 ?_
  refine tf_iadd hx hb dL_law_480 ?_
  refine lw_sld (sx := sx) hx hb hX hbl hBs hL hW (by omega) (by omega) dL_law_481 ?_
  have hsx35 := hsx (ii + 3)
  refine tf_calli (va_runV (As := [.int (Int32.ofInt ((sx (ii + 1)))), .int (Int32.ofInt ((sx (ii + 2)))), .int (Int32.ofInt ((sx (ii + 3))))]) (rest := []) ⟨hx, hb, hml, hown, hts⟩ (c_X10_hours l g T am ham ((sx (ii + 1))) ⟨by omega, by omega⟩ ((sx (ii + 2))) ⟨by omega, by omega⟩ ((sx (ii + 3))) ⟨by omega, by omega⟩ ro hro rr) (cwV 3 hts gv_L_44 rfl rfl rfl hd_X10_hours ⟨Nat.le_trans (by decide) hR1, Nat.le_trans (by decide) hR2⟩) (tf_preV hk hW ham (ci := 10) rfl rfl ⟨hs20, hs28⟩) rfl rfl hl.1 rfl (lv_room (Nat.le_of_ble_eq_true rfl)) dL_law_482 ⟨Nat.le_trans (by omega) hR3, Nat.le_trans (by omega) hR4⟩) hW (by decide) (fun z36 H36 locs36 hW hF36 hp36 => ?_)
  have hs37 := tf_keepF hF36 hax rfl rfl (by decide) hs5
  have hs38 := tf_keepF hF36 hax rfl rfl (by decide) hs6
  have hs39 := tf_keepF hF36 hax rfl rfl (by decide) hs7
  have hs40 := tf_keepF hF36 hax rfl rfl (by decide) hs8
  have hs41 := tf_keepF hF36 hax rfl rfl (by decide) hs9
  have hs42 := tf_keepF hF36 hax rfl rfl (by decide) hs10
  have hs43 := tf_keepF hF36 hax rfl rfl (by decide) hs11
  have hs44 := tf_keepF hF36 hsq rfl rfl (by decide) hs12
  have hs45 := tf_keepF hF36 hsq rfl rfl (by decide) hs13
  have hs46 := tf_keepF hF36 hsq rfl rfl (by decide) hs14
  have hs47 := tf_keepF hF36 hsq rfl rfl (by decide) hs15
  have hs48 := tf_keepC hF36 hlp rfl (by decide) hs16
  have hs49 := tf_keepC hF36 hlh rfl (by decide) hs17
  have hs50 := tf_keepC hF36 hta rfl (by decide) hs18
  have hs51 := tf_keepC hF36 hdh rfl (by decide) hs19
  have hs52 := tf_keepF hF36 ham rfl rfl (by decide) hs20
  have hs53 := tf_keepF hF36 ham rfl rfl (by decide) hs21
  have hs54 := tf_keepF hF36 ham rfl rfl (by decide) hs22
  have hs55 := tf_keepF hF36 ham rfl rfl (by decide) hs23
  have hs56 := tf_keepF hF36 ham rfl rfl (by decide) hs24
  have hs57 := tf_keepF hF36 ham rfl rfl (by decide) hs25
  have hs58 := tf_keepF hF36 ham rfl rfl (by decide) hs26
  have hs59 := tf_keepF hF36 ham rfl rfl (by decide) hs27
  have hs60 := tf_keepC hF36 hiz rfl (by decide) hs29
  have hs61 := tf_keepC hF36 hkp rfl (by decide) hs30
  have hs62 := tf_keepC hF36 htm rfl (by decide) hs31
  have hs63 := tf_keepC hF36 hdw rfl (by decide) hs32
  have hs64 := tf_keepC hF36 hyr rfl (by decide) hX4_0
  have hs65 := tf_keepC hF36 hwh rfl (by decide) hX4_1
  have hI0 := tf_IS1_keep hF36 him (by decide) (by decide) hI0
  have hI1 := tf_IS2_keep hF36 him (by decide) (by decide) hI1
  obtain ⟨hp36_0, hp36_1, hp36_2⟩ := hp36
  obtain ⟨r1_36, hX36_0, hR36_0⟩ := hp36_2
  obtain ⟨hzz, hRL⟩ := tf_hours_eq hRL hR4_0 hR4_1 hR36_0
  refine lv_pop hx hb dL_law_485 rfl ?_
  refine lv_goto (tgt := 1498) hx hb dL_law_486 (by decide) ?_
  refine W.widen (k := 130 + 30 * jj) (n := 31200 + 1200 * jj) (by omega) (by omega) ?_
  exact hnx _ _ _ hW hax ham ⟨sq, im, ta, dh, lp, lh, yr, wh, ro, iz, kp, tm, dw, (tt), (uu), (dd), gl, gh, gy1_4, gw1_4, tp, gd, r1_36, qq, rk, tq, gm, hsq, him, hta, hdh, hlp, hlh, hyr, hwh, hro, hiz, hkp, htm, hdw, ⟨by omega, by omega⟩, ⟨by omega, by omega⟩, ⟨by omega, by omega⟩, hs37, hs38, hs39, hs40, hs41, hs42, hs43, hs44, hs45, hs46, hs47, hs48, hs49, hs64, hs65, hs50, hs51, hs52, hs53, hs54, tf_eqv hs55 (by omega), hs56, tf_eqv hs57 (by omega), hs58, tf_eqv hs59 (by omega), hX36_0, hs60, hs61, hs62, hs63, hRL, hDD, hTP, hI0, hI1⟩ _ (lv_sub hl [0, 1, 2, 3] rfl)

set_option maxHeartbeats 4000000 in
set_option maxRecDepth 100000 in
theorem lc_489 {p : Program} {l : Launch} {e : Env} {s : State} {m : MethodId} {below : List Frame} {meth : Method} {c : Code} {b L : Nat} {g : tf_G} {sx : Int → Int} {Q : State → Prop} (E : lw_E p s m c b L g sx) (ax am jj : Nat) (ii : Int) (hii : ii = 6 * (jj : Int)) (hij : ii + 6 ≤ (L : Int)) (hnx : lw_nx p l e s m below meth c b g ax am jj ii Q) (T : tf_T) (H : Heap) (locs : List Loc) (hW : tf_n tf_kt g M_law (fun _ => none) s.heap T H locs) (hax : T ax = some (39, 0)) (ham : T am = some (63, 0)) (hI : lw_I g T H ax am) (ls : Array Slot) (hl : lv_has ls 4 [(3, .int (Int32.ofInt ii)), (2, .ref am), (1, .ref ax), (0, .ref b)]) : W p l e room_1 s m #[Value.ref b] below meth c H locs (100 + 30 * jj) (30000 + 1200 * jj) Q (F0 m 489 ls []) := by
  obtain ⟨hx, hb, hml, hown, hts, hbl, hk, hBs, hsx, hX, hL⟩ := id E
  have hR1 := lw_R1
  have hR2 := lw_R2
  have hR3 := lw_R3
  have hR4 := lw_R4
  have hK := hk.1
  have hE : tf_E g T := trivial
  obtain ⟨sq, im, ta, dh, lp, lh, yr, wh, ro, iz, kp, tm, dw, tt, uu, dd, gl, gh, gy, gw, tp, gd, rr, qq, rk, tq, gm, hsq, him, hta, hdh, hlp, hlh, hyr, hwh, hro, hiz, hkp, htm, hdw, htt, huu, hdd, hf0, hf1, hf2, hf3, hf4, hf5, hf6, hf7, hf8, hf9, hf10, hf11, hf12, hf13, hf14, hf15, hf16, hf17, hf18, hf19, hf20, hf21, hf22, hf23, hf24, hf25, hf26, hf27, hf28, hf29, hRL, hDD, hTP, hI0, hI1⟩ := hI
  have hWS : tf_WS gy gw := hRL.2.2
  refine lv_aload_n hx hb dL_law_489 rfl (lv_at hl 2 rfl) ?_
  refine lv_aload_n hx hb dL_law_490 rfl (lv_at hl 3 rfl) ?_
  refine lv_iload_n hx hb dL_law_491 rfl (lv_at hl 0 rfl) ?_
  refine tf_iconst hx hb dL_law_492 ?_
  refine tf_iadd hx hb dL_law_493 ?_
  refine lw_sld (sx := sx) hx hb hX hbl hBs hL hW (by omega) (by omega) dL_law_494 ?_
  have hsx1 := hsx (ii + 1)
  refine lv_aload_n hx hb dL_law_495 rfl (lv_at hl 3 rfl) ?_
  refine lv_iload_n hx hb dL_law_496 rfl (lv_at hl 0 rfl) ?_
  refine tf_iconst hx hb dL_law_497 ?_
  refine tf_iadd hx hb dL_law_498 ?_
  refine lw_sld (sx := sx) hx hb hX hbl hBs hL hW (by omega) (by omega) dL_law_499 ?_
  have hsx2 := hsx (ii + 2)
  refine lv_aload_n hx hb dL_law_500 rfl (lv_at hl 3 rfl) ?_
  refine lv_iload_n hx hb dL_law_501 rfl (lv_at hl 0 rfl) ?_
  refine tf_iconst hx hb dL_law_502 ?_
  refine tf_iadd hx hb dL_law_503 ?_
  refine lw_sld (sx := sx) hx hb hX hbl hBs hL hW (by omega) (by omega) dL_law_504 ?_
  have hsx3 := hsx (ii + 3)
  refine lv_aload_n hx hb dL_law_505 rfl (lv_at hl 3 rfl) ?_
  refine lv_iload_n hx hb dL_law_506 rfl (lv_at hl 0 rfl) ?_
  refine tf_iconst hx hb dL_law_507 ?_
  refine tf_iadd hx hb dL_law_508 ?_
  refine lw_sld (sx := sx) hx hb hX hbl hBs hL hW (by omega) (by omega) dL_law_509 ?_
  have hsx4 := hsx (ii + 4)
  refine lv_aload_n hx hb dL_law_510 rfl (lv_at hl 3 rfl) ?_
  refine lv_iload_n hx hb dL_law_511 rfl (lv_at hl 0 rfl) ?_
  refine tf_iconst hx hb dL_law_512 ?_
  refine tf_iadd hx hb dL_law_513 ?_
  refine lw_sld (sx := sx) hx hb hX hbl hBs hL hW (by omega) (by omega) dL_law_514 ?_
  have hsx5 := hsx (ii + 5)
  refine tf_calli (va_runV (As := [.int (Int32.ofInt ((sx (ii + 1)))), .int (Int32.ofInt ((sx (ii + 2)))), .int (Int32.ofInt ((sx (ii + 3)))), .int (Int32.ofInt ((sx (ii + 4)))), .int (Int32.ofInt ((sx (ii + 5))))]) (rest := []) ⟨hx, hb, hml, hown, hts⟩ (c_X9_feed l g T ax hax ((sx (ii + 1))) ⟨by omega, by omega⟩ ((sx (ii + 2))) ⟨by omega, by omega⟩ ((sx (ii + 3))) ⟨by omega, by omega⟩ ((sx (ii + 4))) ⟨by omega, by omega⟩ ((sx (ii + 5))) ⟨by omega, by omega⟩ ta hta (tt) ⟨by omega, by omega⟩ tp) (cwV 5 hts gv_L_45 rfl rfl rfl hd_X9_feed ⟨Nat.le_trans (by decide) hR1, Nat.le_trans (by decide) hR2⟩) (tf_preV hk hW hax (ci := 9) rfl rfl ⟨hf2, hf3, hf15⟩) rfl rfl hl.1 rfl (lv_room (Nat.le_of_ble_eq_true rfl)) dL_law_515 ⟨Nat.le_trans (by omega) hR3, Nat.le_trans (by omega) hR4⟩) hW (by decide) (fun z6 H6 locs6 hW hF6 hp6 => ?_)
  have hs7 := tf_keepF hF6 hax rfl rfl (by decide) hf0
  have hs8 := tf_keepF hF6 hax rfl rfl (by decide) hf1
  have hs9 := tf_keepF hF6 hax rfl rfl (by decide) hf2
  have hs10 := tf_keepF hF6 hax rfl rfl (by decide) hf4
  have hs11 := tf_keepF hF6 hax rfl rfl (by decide) hf5
  have hs12 := tf_keepF hF6 hax rfl rfl (by decide) hf6
  have hs13 := tf_keepF hF6 hsq rfl rfl (by decide) hf7
  have hs14 := tf_keepF hF6 hsq rfl rfl (by decide) hf8
  have hs15 := tf_keepF hF6 hsq rfl rfl (by decide) hf9
  have hs16 := tf_keepF hF6 hsq rfl rfl (by decide) hf10
  have hs17 := tf_keepC hF6 hlp rfl (by decide) hf11
  have hs18 := tf_keepC hF6 hlh rfl (by decide) hf12
  have hs19 := tf_keepC hF6 hyr rfl (by decide) hf13
  have hs20 := tf_keepC hF6 hwh rfl (by decide) hf14
  have hs21 := tf_keepC hF6 hdh rfl (by decide) hf16
  have hs22 := tf_keepF hF6 ham rfl rfl (by decide) hf17
  have hs23 := tf_keepF hF6 ham rfl rfl (by decide) hf18
  have hs24 := tf_keepF hF6 ham rfl rfl (by decide) hf19
  have hs25 := tf_keepF hF6 ham rfl rfl (by decide) hf20
  have hs26 := tf_keepF hF6 ham rfl rfl (by decide) hf21
  have hs27 := tf_keepF hF6 ham rfl rfl (by decide) hf22
  have hs28 := tf_keepF hF6 ham rfl rfl (by decide) hf23
  have hs29 := tf_keepF hF6 ham rfl rfl (by decide) hf24
  have hs30 := tf_keepC hF6 hro rfl (by decide) hf25
  have hs31 := tf_keepC hF6 hiz rfl (by decide) hf26
  have hs32 := tf_keepC hF6 hkp rfl (by decide) hf27
  have hs33 := tf_keepC hF6 htm rfl (by decide) hf28
  have hs34 := tf_keepC hF6 hdw rfl (by decide) hf29
  have hI0 := tf_IS1_keep hF6 him (by decide) (by decide) hI0
  have hI1 := tf_IS2_keep hF6 him (by decide) (by decide) hI1
  obtain ⟨hp6_0, hp6_1, hp6_2⟩ := hp6
  obtain ⟨t1_6, tp1_6, hX6_0, hX6_1, hB6_0, hR6_0, hR6_1⟩ := hp6_2
  refine lv_pop hx hb dL_law_518 rfl ?_
  refine lv_aload_n hx hb dL_law_519 rfl (lv_at hl 1 rfl) ?_
  refine lv_aload_n hx hb dL_law_520 rfl (lv_at hl 3 rfl) ?_
  refine lv_iload_n hx hb dL_law_521 rfl (lv_at hl 0 rfl) ?_
  refine tf_iconst hx hb dL_law_522 ?_
  refine tf_iadd hx hb dL_law_523 ?_
  refine lw_sld (sx := sx) hx hb hX hbl hBs hL hW (by omega) (by omega) dL_law_524 ?_
  have hsx35 := hsx (ii + 1)
  refine lv_aload_n hx hb dL_law_525 rfl (lv_at hl 3 rfl) ?_
  refine lv_iload_n hx hb dL_law_526 rfl (lv_at hl 0 rfl) ?_
  refine tf_iconst hx hb dL_law_527 ?_
  refine tf_iadd hx hb dL_law_528 ?_
  refine lw_sld (sx := sx) hx hb hX hbl hBs hL hW (by omega) (by omega) dL_law_529 ?_
  have hsx36 := hsx (ii + 2)
  refine lv_aload_n hx hb dL_law_530 rfl (lv_at hl 3 rfl) ?_
  refine lv_iload_n hx hb dL_law_531 rfl (lv_at hl 0 rfl) ?_
  refine tf_iconst hx hb dL_law_532 ?_
  refine tf_iadd hx hb dL_law_533 ?_
  refine lw_sld (sx := sx) hx hb hX hbl hBs hL hW (by omega) (by omega) dL_law_534 ?_
  have hsx37 := hsx (ii + 3)
  refine lv_aload_n hx hb dL_law_535 rfl (lv_at hl 3 rfl) ?_
  refine lv_iload_n hx hb dL_law_536 rfl (lv_at hl 0 rfl) ?_
  refine tf_iconst hx hb dL_law_537 ?_
  refine tf_iadd hx hb dL_law_538 ?_
  refine lw_sld (sx := sx) hx hb hX hbl hBs hL hW (by omega) (by omega) dL_law_539 ?_
  have hsx38 := hsx (ii + 4)
  refine lv_aload_n hx hb dL_law_540 rfl (lv_at hl 3 rfl) ?_
  refine lv_iload_n hx hb dL_law_541 rfl (lv_at hl 0 rfl) ?_
  refine tf_iconst hx hb dL_law_542 ?_
  refine tf_iadd hx hb dL_law_543 ?_
  refine lw_sld (sx := sx) hx hb hX hbl hBs hL hW (by omega) (by omega) dL_law_544 ?_
  have hsx39 := hsx (ii + 5)
  refine tf_calli (va_runV (As := [.int (Int32.ofInt ((sx (ii + 1)))), .int (Int32.ofInt ((sx (ii + 2)))), .int (Int32.ofInt ((sx (ii + 3)))), .int (Int32.ofInt ((sx (ii + 4)))), .int (Int32.ofInt ((sx (ii + 5))))]) (rest := []) ⟨hx, hb, hml, hown, hts⟩ (c_X10_feed l g T am ham ((sx (ii + 1))) ⟨by omega, by omega⟩ ((sx (ii + 2))) ⟨by omega, by omega⟩ ((sx (ii + 3))) ⟨by omega, by omega⟩ ((sx (ii + 4))) ⟨by omega, by omega⟩ ((sx (ii + 5))) ⟨by omega, by omega⟩ tm htm (tt) ⟨by omega, by omega⟩ tq) (cwV 5 hts gv_L_48 rfl rfl rfl hd_X10_feed ⟨Nat.le_trans (by decide) hR1, Nat.le_trans (by decide) hR2⟩) (tf_preV hk hW ham (ci := 10) rfl rfl ⟨hs26, hs27, hs33⟩) rfl rfl hl.1 rfl (lv_room (Nat.le_of_ble_eq_true rfl)) dL_law_545 ⟨Nat.le_trans (by omega) hR3, Nat.le_trans (by omega) hR4⟩) hW (by decide) (fun z40 H40 locs40 hW hF40 hp40 => ?_)
  have hs41 := tf_keepF hF40 hax rfl rfl (by decide) hs7
  have hs42 := tf_keepF hF40 hax rfl rfl (by decide) hs8
  have hs43 := tf_keepF hF40 hax rfl rfl (by decide) hs9
  have hs44 := tf_keepF hF40 hax rfl rfl (by decide) hs10
  have hs45 := tf_keepF hF40 hax rfl rfl (by decide) hs11
  have hs46 := tf_keepF hF40 hax rfl rfl (by decide) hs12
  have hs47 := tf_keepF hF40 hsq rfl rfl (by decide) hs13
  have hs48 := tf_keepF hF40 hsq rfl rfl (by decide) hs14
  have hs49 := tf_keepF hF40 hsq rfl rfl (by decide) hs15
  have hs50 := tf_keepF hF40 hsq rfl rfl (by decide) hs16
  have hs51 := tf_keepC hF40 hlp rfl (by decide) hs17
  have hs52 := tf_keepC hF40 hlh rfl (by decide) hs18
  have hs53 := tf_keepC hF40 hyr rfl (by decide) hs19
  have hs54 := tf_keepC hF40 hwh rfl (by decide) hs20
  have hs55 := tf_keepC hF40 hdh rfl (by decide) hs21
  have hs56 := tf_keepF hF40 ham rfl rfl (by decide) hs22
  have hs57 := tf_keepF hF40 ham rfl rfl (by decide) hs23
  have hs58 := tf_keepF hF40 ham rfl rfl (by decide) hs24
  have hs59 := tf_keepF hF40 ham rfl rfl (by decide) hs25
  have hs60 := tf_keepF hF40 ham rfl rfl (by decide) hs26
  have hs61 := tf_keepF hF40 ham rfl rfl (by decide) hs28
  have hs62 := tf_keepF hF40 ham rfl rfl (by decide) hs29
  have hs63 := tf_keepC hF40 hro rfl (by decide) hs30
  have hs64 := tf_keepC hF40 hiz rfl (by decide) hs31
  have hs65 := tf_keepC hF40 hkp rfl (by decide) hs32
  have hs66 := tf_keepC hF40 hdw rfl (by decide) hs34
  have hs67 := tf_keepF hF40 hax rfl rfl (by decide) hX6_0
  have hs68 := tf_keepC hF40 hta rfl (by decide) hX6_1
  have hI0 := tf_IS1_keep hF40 him (by decide) (by decide) hI0
  have hI1 := tf_IS2_keep hF40 him (by decide) (by decide) hI1
  obtain ⟨hp40_0, hp40_1, hp40_2⟩ := hp40
  obtain ⟨t1_40, tp1_40, hX40_0, hX40_1, hB40_0, hR40_0, hR40_1⟩ := hp40_2
  have hTP := tf_feed_eq hTP hR6_1 hR40_1
  refine lv_pop hx hb dL_law_548 rfl ?_
  refine lv_goto (tgt := 1498) hx hb dL_law_549 (by decide) ?_
  refine W.widen (k := 130 + 30 * jj) (n := 31200 + 1200 * jj) (by omega) (by omega) ?_
  exact hnx _ _ _ hW hax ham ⟨sq, im, ta, dh, lp, lh, yr, wh, ro, iz, kp, tm, dw, (t1_6), (uu), (dd), gl, gh, gy, gw, tp1_6, gd, rr, qq, rk, tp1_40, gm, hsq, him, hta, hdh, hlp, hlh, hyr, hwh, hro, hiz, hkp, htm, hdw, ⟨by omega, by omega⟩, ⟨by omega, by omega⟩, ⟨by omega, by omega⟩, hs41, hs42, hs43, hs67, hs44, hs45, hs46, hs47, hs48, hs49, hs50, hs51, hs52, hs53, hs54, hs68, hs55, hs56, hs57, hs58, tf_eqv hs59 (by omega), hs60, tf_eqv hX40_0 (by omega), hs61, tf_eqv hs62 (by omega), hs63, hs64, hs65, hX40_1, hs66, hRL, hDD, hTP, hI0, hI1⟩ _ (lv_sub hl [0, 1, 2, 3] rfl)

set_option maxHeartbeats 4000000 in
set_option maxRecDepth 100000 in
theorem lc_552 {p : Program} {l : Launch} {e : Env} {s : State} {m : MethodId} {below : List Frame} {meth : Method} {c : Code} {b L : Nat} {g : tf_G} {sx : Int → Int} {Q : State → Prop} (E : lw_E p s m c b L g sx) (ax am jj : Nat) (ii : Int) (hii : ii = 6 * (jj : Int)) (hij : ii + 6 ≤ (L : Int)) (hnx : lw_nx p l e s m below meth c b g ax am jj ii Q) (T : tf_T) (H : Heap) (locs : List Loc) (hW : tf_n tf_kt g M_law (fun _ => none) s.heap T H locs) (hax : T ax = some (39, 0)) (ham : T am = some (63, 0)) (hI : lw_I g T H ax am) (ls : Array Slot) (hl : lv_has ls 4 [(3, .int (Int32.ofInt ii)), (2, .ref am), (1, .ref ax), (0, .ref b)]) : W p l e room_1 s m #[Value.ref b] below meth c H locs (100 + 30 * jj) (30000 + 1200 * jj) Q (F0 m 552 ls []) := by
  obtain ⟨hx, hb, hml, hown, hts, hbl, hk, hBs, hsx, hX, hL⟩ := id E
  have hR1 := lw_R1
  have hR2 := lw_R2
  have hR3 := lw_R3
  have hR4 := lw_R4
  have hK := hk.1
  have hE : tf_E g T := trivial
  obtain ⟨sq, im, ta, dh, lp, lh, yr, wh, ro, iz, kp, tm, dw, tt, uu, dd, gl, gh, gy, gw, tp, gd, rr, qq, rk, tq, gm, hsq, him, hta, hdh, hlp, hlh, hyr, hwh, hro, hiz, hkp, htm, hdw, htt, huu, hdd, hf0, hf1, hf2, hf3, hf4, hf5, hf6, hf7, hf8, hf9, hf10, hf11, hf12, hf13, hf14, hf15, hf16, hf17, hf18, hf19, hf20, hf21, hf22, hf23, hf24, hf25, hf26, hf27, hf28, hf29, hRL, hDD, hTP, hI0, hI1⟩ := hI
  have hWS : tf_WS gy gw := hRL.2.2
  refine lv_aload_n hx hb dL_law_552 rfl (lv_at hl 2 rfl) ?_
  refine lv_aload_n hx hb dL_law_553 rfl (lv_at hl 3 rfl) ?_
  refine lv_iload_n hx hb dL_law_554 rfl (lv_at hl 0 rfl) ?_
  refine tf_iconst hx hb dL_law_555 ?_
  refine tf_iadd hx hb dL_law_556 ?_
  refine lw_sld (sx := sx) hx hb hX hbl hBs hL hW (by omega) (by omega) dL_law_557 ?_
  have hsx1 := hsx (ii + 1)
  refine tf_calli (va_runV (As := [.int (Int32.ofInt ((sx (ii + 1))))]) (rest := []) ⟨hx, hb, hml, hown, hts⟩ (c_X9_end l g T ax hax ((sx (ii + 1))) ⟨by omega, by omega⟩ (tt) ⟨by omega, by omega⟩) (cwV 1 hts gv_L_49 rfl rfl rfl hd_X9_end ⟨Nat.le_trans (by decide) hR1, Nat.le_trans (by decide) hR2⟩) (tf_preV hk hW hax (ci := 9) rfl rfl hf3) rfl rfl hl.1 rfl (lv_room (Nat.le_of_ble_eq_true rfl)) dL_law_558 ⟨Nat.le_trans (by omega) hR3, Nat.le_trans (by omega) hR4⟩) hW (by decide) (fun z2 H2 locs2 hW hF2 hp2 => ?_)
  have hs3 := tf_keepF hF2 hax rfl rfl (by decide) hf0
  have hs4 := tf_keepF hF2 hax rfl rfl (by decide) hf1
  have hs5 := tf_keepF hF2 hax rfl rfl (by decide) hf2
  have hs6 := tf_keepF hF2 hax rfl rfl (by decide) hf4
  have hs7 := tf_keepF hF2 hax rfl rfl (by decide) hf5
  have hs8 := tf_keepF hF2 hax rfl rfl (by decide) hf6
  have hs9 := tf_keepF hF2 hsq rfl rfl (by decide) hf7
  have hs10 := tf_keepF hF2 hsq rfl rfl (by decide) hf8
  have hs11 := tf_keepF hF2 hsq rfl rfl (by decide) hf9
  have hs12 := tf_keepF hF2 hsq rfl rfl (by decide) hf10
  have hs13 := tf_keepC hF2 hlp rfl (by decide) hf11
  have hs14 := tf_keepC hF2 hlh rfl (by decide) hf12
  have hs15 := tf_keepC hF2 hyr rfl (by decide) hf13
  have hs16 := tf_keepC hF2 hwh rfl (by decide) hf14
  have hs17 := tf_keepC hF2 hta rfl (by decide) hf15
  have hs18 := tf_keepC hF2 hdh rfl (by decide) hf16
  have hs19 := tf_keepF hF2 ham rfl rfl (by decide) hf17
  have hs20 := tf_keepF hF2 ham rfl rfl (by decide) hf18
  have hs21 := tf_keepF hF2 ham rfl rfl (by decide) hf19
  have hs22 := tf_keepF hF2 ham rfl rfl (by decide) hf20
  have hs23 := tf_keepF hF2 ham rfl rfl (by decide) hf21
  have hs24 := tf_keepF hF2 ham rfl rfl (by decide) hf22
  have hs25 := tf_keepF hF2 ham rfl rfl (by decide) hf23
  have hs26 := tf_keepF hF2 ham rfl rfl (by decide) hf24
  have hs27 := tf_keepC hF2 hro rfl (by decide) hf25
  have hs28 := tf_keepC hF2 hiz rfl (by decide) hf26
  have hs29 := tf_keepC hF2 hkp rfl (by decide) hf27
  have hs30 := tf_keepC hF2 htm rfl (by decide) hf28
  have hs31 := tf_keepC hF2 hdw rfl (by decide) hf29
  have hI0 := tf_IS1_keep hF2 him (by decide) (by decide) hI0
  have hI1 := tf_IS2_keep hF2 him (by decide) (by decide) hI1
  obtain ⟨hp2_0, hp2_1, hp2_2⟩ := hp2
  obtain ⟨t1_2, hX2_0, hB2_0, hR2_0⟩ := hp2_2
  refine lv_pop hx hb dL_law_561 rfl ?_
  refine lv_aload_n hx hb dL_law_562 rfl (lv_at hl 1 rfl) ?_
  refine lv_aload_n hx hb dL_law_563 rfl (lv_at hl 3 rfl) ?_
  refine lv_iload_n hx hb dL_law_564 rfl (lv_at hl 0 rfl) ?_
  refine tf_iconst hx hb dL_law_565 ?_
  refine tf_iadd hx hb dL_law_566 ?_
  refine lw_sld (sx := sx) hx hb hX hbl hBs hL hW (by omega) (by omega) dL_law_567 ?_
  have hsx32 := hsx (ii + 1)
  refine tf_calli (va_runV (As := [.int (Int32.ofInt ((sx (ii + 1))))]) (rest := []) ⟨hx, hb, hml, hown, hts⟩ (c_X10_end l g T am ham ((sx (ii + 1))) ⟨by omega, by omega⟩ (tt) ⟨by omega, by omega⟩) (cwV 1 hts gv_L_52 rfl rfl rfl hd_X10_end ⟨Nat.le_trans (by decide) hR1, Nat.le_trans (by decide) hR2⟩) (tf_preV hk hW ham (ci := 10) rfl rfl hs24) rfl rfl hl.1 rfl (lv_room (Nat.le_of_ble_eq_true rfl)) dL_law_568 ⟨Nat.le_trans (by omega) hR3, Nat.le_trans (by omega) hR4⟩) hW (by decide) (fun z33 H33 locs33 hW hF33 hp33 => ?_)
  have hs34 := tf_keepF hF33 hax rfl rfl (by decide) hs3
  have hs35 := tf_keepF hF33 hax rfl rfl (by decide) hs4
  have hs36 := tf_keepF hF33 hax rfl rfl (by decide) hs5
  have hs37 := tf_keepF hF33 hax rfl rfl (by decide) hs6
  have hs38 := tf_keepF hF33 hax rfl rfl (by decide) hs7
  have hs39 := tf_keepF hF33 hax rfl rfl (by decide) hs8
  have hs40 := tf_keepF hF33 hsq rfl rfl (by decide) hs9
  have hs41 := tf_keepF hF33 hsq rfl rfl (by decide) hs10
  have hs42 := tf_keepF hF33 hsq rfl rfl (by decide) hs11
  have hs43 := tf_keepF hF33 hsq rfl rfl (by decide) hs12
  have hs44 := tf_keepC hF33 hlp rfl (by decide) hs13
  have hs45 := tf_keepC hF33 hlh rfl (by decide) hs14
  have hs46 := tf_keepC hF33 hyr rfl (by decide) hs15
  have hs47 := tf_keepC hF33 hwh rfl (by decide) hs16
  have hs48 := tf_keepC hF33 hta rfl (by decide) hs17
  have hs49 := tf_keepC hF33 hdh rfl (by decide) hs18
  have hs50 := tf_keepF hF33 ham rfl rfl (by decide) hs19
  have hs51 := tf_keepF hF33 ham rfl rfl (by decide) hs20
  have hs52 := tf_keepF hF33 ham rfl rfl (by decide) hs21
  have hs53 := tf_keepF hF33 ham rfl rfl (by decide) hs22
  have hs54 := tf_keepF hF33 ham rfl rfl (by decide) hs23
  have hs55 := tf_keepF hF33 ham rfl rfl (by decide) hs25
  have hs56 := tf_keepF hF33 ham rfl rfl (by decide) hs26
  have hs57 := tf_keepC hF33 hro rfl (by decide) hs27
  have hs58 := tf_keepC hF33 hiz rfl (by decide) hs28
  have hs59 := tf_keepC hF33 hkp rfl (by decide) hs29
  have hs60 := tf_keepC hF33 htm rfl (by decide) hs30
  have hs61 := tf_keepC hF33 hdw rfl (by decide) hs31
  have hs62 := tf_keepF hF33 hax rfl rfl (by decide) hX2_0
  have hI0 := tf_IS1_keep hF33 him (by decide) (by decide) hI0
  have hI1 := tf_IS2_keep hF33 him (by decide) (by decide) hI1
  obtain ⟨hp33_0, hp33_1, hp33_2⟩ := hp33
  obtain ⟨t1_33, hX33_0, hB33_0, hR33_0⟩ := hp33_2
  refine lv_pop hx hb dL_law_571 rfl ?_
  refine lv_goto (tgt := 1498) hx hb dL_law_572 (by decide) ?_
  refine W.widen (k := 130 + 30 * jj) (n := 31200 + 1200 * jj) (by omega) (by omega) ?_
  exact hnx _ _ _ hW hax ham ⟨sq, im, ta, dh, lp, lh, yr, wh, ro, iz, kp, tm, dw, (t1_2), (uu), (dd), gl, gh, gy, gw, tp, gd, rr, qq, rk, tq, gm, hsq, him, hta, hdh, hlp, hlh, hyr, hwh, hro, hiz, hkp, htm, hdw, ⟨by omega, by omega⟩, ⟨by omega, by omega⟩, ⟨by omega, by omega⟩, hs34, hs35, hs36, hs62, hs37, hs38, hs39, hs40, hs41, hs42, hs43, hs44, hs45, hs46, hs47, hs48, hs49, hs50, hs51, hs52, tf_eqv hs53 (by omega), hs54, tf_eqv hX33_0 (by omega), hs55, tf_eqv hs56 (by omega), hs57, hs58, hs59, hs60, hs61, hRL, hDD, hTP, hI0, hI1⟩ _ (lv_sub hl [0, 1, 2, 3] rfl)

set_option maxHeartbeats 4000000 in
set_option maxRecDepth 100000 in
theorem lc_575 {p : Program} {l : Launch} {e : Env} {s : State} {m : MethodId} {below : List Frame} {meth : Method} {c : Code} {b L : Nat} {g : tf_G} {sx : Int → Int} {Q : State → Prop} (E : lw_E p s m c b L g sx) (ax am jj : Nat) (ii : Int) (hii : ii = 6 * (jj : Int)) (hij : ii + 6 ≤ (L : Int)) (hnx : lw_nx p l e s m below meth c b g ax am jj ii Q) (T : tf_T) (H : Heap) (locs : List Loc) (hW : tf_n tf_kt g M_law (fun _ => none) s.heap T H locs) (hax : T ax = some (39, 0)) (ham : T am = some (63, 0)) (hI : lw_I g T H ax am) (ls : Array Slot) (hl : lv_has ls 4 [(3, .int (Int32.ofInt ii)), (2, .ref am), (1, .ref ax), (0, .ref b)]) : W p l e room_1 s m #[Value.ref b] below meth c H locs (100 + 30 * jj) (30000 + 1200 * jj) Q (F0 m 575 ls []) := by
  obtain ⟨hx, hb, hml, hown, hts, hbl, hk, hBs, hsx, hX, hL⟩ := id E
  have hR1 := lw_R1
  have hR2 := lw_R2
  have hR3 := lw_R3
  have hR4 := lw_R4
  have hK := hk.1
  have hE : tf_E g T := trivial
  obtain ⟨sq, im, ta, dh, lp, lh, yr, wh, ro, iz, kp, tm, dw, tt, uu, dd, gl, gh, gy, gw, tp, gd, rr, qq, rk, tq, gm, hsq, him, hta, hdh, hlp, hlh, hyr, hwh, hro, hiz, hkp, htm, hdw, htt, huu, hdd, hf0, hf1, hf2, hf3, hf4, hf5, hf6, hf7, hf8, hf9, hf10, hf11, hf12, hf13, hf14, hf15, hf16, hf17, hf18, hf19, hf20, hf21, hf22, hf23, hf24, hf25, hf26, hf27, hf28, hf29, hRL, hDD, hTP, hI0, hI1⟩ := hI
  have hWS : tf_WS gy gw := hRL.2.2
  refine lv_aload_n hx hb dL_law_575 rfl (lv_at hl 2 rfl) ?_
  refine tf_calli (va_runV (As := []) (rest := []) ⟨hx, hb, hml, hown, hts⟩ (c_X9_row l g T ax hax sq hsq yr hyr wh hwh ta hta gy gw (tt) ⟨by omega, by omega⟩ (uu) ⟨by omega, by omega⟩ tp (by first | omega | assumption)) (cwV 0 hts gv_L_53 rfl rfl rfl hd_X9_row ⟨Nat.le_trans (by decide) hR1, Nat.le_trans (by decide) hR2⟩) (tf_preV hk hW hax (ci := 9) rfl rfl ⟨hf0, hf9, hf10, hf13, hf14, hf2, hf3, hf4, hf15⟩) rfl rfl hl.1 rfl (lv_room (Nat.le_of_ble_eq_true rfl)) dL_law_576 ⟨Nat.le_trans (by omega) hR3, Nat.le_trans (by omega) hR4⟩) hW (by decide) (fun z1 H1 locs1 hW hF1 hp1 => ?_)
  have hs2 := tf_keepF hF1 hax rfl rfl (by decide) hf0
  have hs3 := tf_keepF hF1 hax rfl rfl (by decide) hf1
  have hs4 := tf_keepF hF1 hax rfl rfl (by decide) hf2
  have hs5 := tf_keepF hF1 hax rfl rfl (by decide) hf5
  have hs6 := tf_keepF hF1 hax rfl rfl (by decide) hf6
  have hs7 := tf_keepF hF1 hsq rfl rfl (by decide) hf7
  have hs8 := tf_keepF hF1 hsq rfl rfl (by decide) hf8
  have hs9 := tf_keepF hF1 hsq rfl rfl (by decide) hf9
  have hs10 := tf_keepF hF1 hsq rfl rfl (by decide) hf10
  have hs11 := tf_keepC hF1 hlp rfl (by decide) hf11
  have hs12 := tf_keepC hF1 hlh rfl (by decide) hf12
  have hs13 := tf_keepC hF1 hta rfl (by decide) hf15
  have hs14 := tf_keepC hF1 hdh rfl (by decide) hf16
  have hs15 := tf_keepF hF1 ham rfl rfl (by decide) hf17
  have hs16 := tf_keepF hF1 ham rfl rfl (by decide) hf18
  have hs17 := tf_keepF hF1 ham rfl rfl (by decide) hf19
  have hs18 := tf_keepF hF1 ham rfl rfl (by decide) hf20
  have hs19 := tf_keepF hF1 ham rfl rfl (by decide) hf21
  have hs20 := tf_keepF hF1 ham rfl rfl (by decide) hf22
  have hs21 := tf_keepF hF1 ham rfl rfl (by decide) hf23
  have hs22 := tf_keepF hF1 ham rfl rfl (by decide) hf24
  have hs23 := tf_keepC hF1 hro rfl (by decide) hf25
  have hs24 := tf_keepC hF1 hiz rfl (by decide) hf26
  have hs25 := tf_keepC hF1 hkp rfl (by decide) hf27
  have hs26 := tf_keepC hF1 htm rfl (by decide) hf28
  have hs27 := tf_keepC hF1 hdw rfl (by decide) hf29
  have hI0 := tf_IS1_keep hF1 him (by decide) (by decide) hI0
  have hI1 := tf_IS2_keep hF1 him (by decide) (by decide) hI1
  obtain ⟨hp1_0, hp1_1, hp1_2⟩ := hp1
  obtain ⟨t1_1, u1_1, gy1_1, gw1_1, hX1_0, hX1_1, hX1_2, hX1_3, hB1_0, hB1_1, hR1_0, hR1_1, hR1_2⟩ := hp1_2
  refine lv_pop hx hb dL_law_579 rfl ?_
  refine lv_aload_n hx hb dL_law_580 rfl (lv_at hl 1 rfl) ?_
  refine tf_calli (va_runV (As := []) (rest := []) ⟨hx, hb, hml, hown, hts⟩ (c_X10_row l g T am ham ro hro tm htm rr (tt) ⟨by omega, by omega⟩ (uu) ⟨by omega, by omega⟩ tq) (cwV 0 hts gv_L_57 rfl rfl rfl hd_X10_row ⟨Nat.le_trans (by decide) hR1, Nat.le_trans (by decide) hR2⟩) (tf_preV hk hW ham (ci := 10) rfl rfl ⟨hs15, hs23, hs19, hs20, hs18, hs26⟩) rfl rfl hl.1 rfl (lv_room (Nat.le_of_ble_eq_true rfl)) dL_law_581 ⟨Nat.le_trans (by omega) hR3, Nat.le_trans (by omega) hR4⟩) hW (by decide) (fun z28 H28 locs28 hW hF28 hp28 => ?_)
  have hs29 := tf_keepF hF28 hax rfl rfl (by decide) hs2
  have hs30 := tf_keepF hF28 hax rfl rfl (by decide) hs3
  have hs31 := tf_keepF hF28 hax rfl rfl (by decide) hs4
  have hs32 := tf_keepF hF28 hax rfl rfl (by decide) hs5
  have hs33 := tf_keepF hF28 hax rfl rfl (by decide) hs6
  have hs34 := tf_keepF hF28 hsq rfl rfl (by decide) hs7
  have hs35 := tf_keepF hF28 hsq rfl rfl (by decide) hs8
  have hs36 := tf_keepF hF28 hsq rfl rfl (by decide) hs9
  have hs37 := tf_keepF hF28 hsq rfl rfl (by decide) hs10
  have hs38 := tf_keepC hF28 hlp rfl (by decide) hs11
  have hs39 := tf_keepC hF28 hlh rfl (by decide) hs12
  have hs40 := tf_keepC hF28 hta rfl (by decide) hs13
  have hs41 := tf_keepC hF28 hdh rfl (by decide) hs14
  have hs42 := tf_keepF hF28 ham rfl rfl (by decide) hs15
  have hs43 := tf_keepF hF28 ham rfl rfl (by decide) hs16
  have hs44 := tf_keepF hF28 ham rfl rfl (by decide) hs17
  have hs45 := tf_keepF hF28 ham rfl rfl (by decide) hs19
  have hs46 := tf_keepF hF28 ham rfl rfl (by decide) hs21
  have hs47 := tf_keepF hF28 ham rfl rfl (by decide) hs22
  have hs48 := tf_keepC hF28 hiz rfl (by decide) hs24
  have hs49 := tf_keepC hF28 hkp rfl (by decide) hs25
  have hs50 := tf_keepC hF28 htm rfl (by decide) hs26
  have hs51 := tf_keepC hF28 hdw rfl (by decide) hs27
  have hs52 := tf_keepF hF28 hax rfl rfl (by decide) hX1_0
  have hs53 := tf_keepF hF28 hax rfl rfl (by decide) hX1_1
  have hs54 := tf_keepC hF28 hyr rfl (by decide) hX1_2
  have hs55 := tf_keepC hF28 hwh rfl (by decide) hX1_3
  have hI0 := tf_IS1_keep hF28 him (by decide) (by decide) hI0
  have hI1 := tf_IS2_keep hF28 him (by decide) (by decide) hI1
  obtain ⟨hp28_0, hp28_1, hp28_2⟩ := hp28
  obtain ⟨t1_28, u1_28, r1_28, hX28_0, hX28_1, hX28_2, hB28_0, hB28_1, hR28_0, hR28_1⟩ := hp28_2
  obtain ⟨hzz, hRL⟩ := tf_row_eq hRL hTP (by omega) hR1_1 hR1_2 hR28_1
  refine lv_pop hx hb dL_law_584 rfl ?_
  refine lv_goto (tgt := 1498) hx hb dL_law_585 (by decide) ?_
  refine W.widen (k := 130 + 30 * jj) (n := 31200 + 1200 * jj) (by omega) (by omega) ?_
  exact hnx _ _ _ hW hax ham ⟨sq, im, ta, dh, lp, lh, yr, wh, ro, iz, kp, tm, dw, (t1_1), (u1_1), (dd), gl, gh, gy1_1, gw1_1, tp, gd, r1_28, qq, rk, tq, gm, hsq, him, hta, hdh, hlp, hlh, hyr, hwh, hro, hiz, hkp, htm, hdw, ⟨by omega, by omega⟩, ⟨by omega, by omega⟩, ⟨by omega, by omega⟩, hs29, hs30, hs31, hs52, hs53, hs32, hs33, hs34, hs35, hs36, hs37, hs38, hs39, hs54, hs55, hs40, hs41, hs42, hs43, hs44, tf_eqv hX28_1 (by omega), hs45, tf_eqv hX28_0 (by omega), hs46, tf_eqv hs47 (by omega), hX28_2, hs48, hs49, hs50, hs51, hRL, hDD, hTP, hI0, hI1⟩ _ (lv_sub hl [0, 1, 2, 3] rfl)

set_option maxHeartbeats 4000000 in
set_option maxRecDepth 100000 in
theorem lc_1208 {p : Program} {l : Launch} {e : Env} {s : State} {m : MethodId} {below : List Frame} {meth : Method} {c : Code} {b L : Nat} {g : tf_G} {sx : Int → Int} {Q : State → Prop} (E : lw_E p s m c b L g sx) (ax am jj : Nat) (ii : Int) (hii : ii = 6 * (jj : Int)) (hij : ii + 6 ≤ (L : Int)) (hnx : lw_nx p l e s m below meth c b g ax am jj ii Q) (T : tf_T) (H : Heap) (locs : List Loc) (hW : tf_n tf_kt g M_law (fun _ => none) s.heap T H locs) (hax : T ax = some (39, 0)) (ham : T am = some (63, 0)) (hI : lw_I g T H ax am) (ls : Array Slot) (hl : lv_has ls 4 [(3, .int (Int32.ofInt ii)), (2, .ref am), (1, .ref ax), (0, .ref b)]) : W p l e room_1 s m #[Value.ref b] below meth c H locs (100 + 30 * jj) (30000 + 1200 * jj) Q (F0 m 1208 ls []) := by
  obtain ⟨hx, hb, hml, hown, hts, hbl, hk, hBs, hsx, hX, hL⟩ := id E
  have hR1 := lw_R1
  have hR2 := lw_R2
  have hR3 := lw_R3
  have hR4 := lw_R4
  have hK := hk.1
  have hE : tf_E g T := trivial
  obtain ⟨sq, im, ta, dh, lp, lh, yr, wh, ro, iz, kp, tm, dw, wd, tt, uu, dd, lm, fo, fp, gl, gh, gy, gw, tp, gd, rr, qq, rk, tq, gm, gW, hsq, him, hta, hdh, hlp, hlh, hyr, hwh, hro, hiz, hkp, htm, hdw, hwd, htt, huu, hdd, hlm, hfo, hfp, hf0, hf1, hf2, hf3, hf4, hf5, hf6, hf7, hf8, hf9, hf10, hf11, hf12, hf13, hf14, hf15, hf16, hf17, hf18, hf19, hf20, hf21, hf22, hf23, hf24, hf25, hf26, hf27, hf28, hf29, hf30, hf31, hf32, hf33, hf34, hf35, hRL, hDD, hTP, hWW, hLM, hI0, hI1⟩ := hI
  have hWS : tf_WS gy gw := hRL.2.2
  refine lv_aload_n hx hb dL_law_1208 rfl (lv_at hl 2 rfl) ?_
  refine lv_aload_n hx hb dL_law_1209 rfl (lv_at hl 3 rfl) ?_
  refine lv_iload_n hx hb dL_law_1210 rfl (lv_at hl 0 rfl) ?_
  refine tf_iconst hx hb dL_law_1211 ?_
  refine tf_iadd hx hb dL_law_1212 ?_
  refine lw_sld (sx := sx) hx hb hX hbl hBs hL hW (by omega) (by omega) dL_law_1213 ?_
  have hsx1 := hsx (ii + 1)
  refine tf_calli (va_runV (As := [.int (Int32.ofInt ((sx (ii + 1))))]) (rest := []) ⟨hx, hb, hml, hown, hts⟩ (c_X9_place l g T ax hax ((sx (ii + 1))) ⟨by omega, by omega⟩) (cwV 1 hts gv_L_140 rfl rfl rfl hd_X9_place ⟨Nat.le_trans (by decide) hR1, Nat.le_trans (by decide) hR2⟩) (tf_preV hk hW hax (ci := 9) rfl rfl trivial) rfl rfl hl.1 rfl (lv_room (Nat.le_of_ble_eq_true rfl)) dL_law_1214 ⟨Nat.le_trans (by omega) hR3, Nat.le_trans (by omega) hR4⟩) hW (by decide) (fun z2 H2 locs2 hW hF2 hp2 => ?_)
  have hs3 := tf_keepF hF2 hax rfl rfl (by decide) hf0
  have hs4 := tf_keepF hF2 hax rfl rfl (by decide) hf1
  have hs5 := tf_keepF hF2 hax rfl rfl (by decide) hf2
  have hs6 := tf_keepF hF2 hax rfl rfl (by decide) hf3
  have hs7 := tf_keepF hF2 hax rfl rfl (by decide) hf4
  have hs8 := tf_keepF hF2 hax rfl rfl (by decide) hf5
  have hs9 := tf_keepF hF2 hax rfl rfl (by decide) hf6
  have hs10 := tf_keepF hF2 hax rfl rfl (by decide) hf7
  have hs11 := tf_keepF hF2 hsq rfl rfl (by decide) hf8
  have hs12 := tf_keepF hF2 hsq rfl rfl (by decide) hf9
  have hs13 := tf_keepF hF2 hsq rfl rfl (by decide) hf10
  have hs14 := tf_keepF hF2 hsq rfl rfl (by decide) hf11
  have hs15 := tf_keepF hF2 hsq rfl rfl (by decide) hf12
  have hs16 := tf_keepF hF2 hsq rfl rfl (by decide) hf13
  have hs17 := tf_keepC hF2 hlp rfl (by decide) hf14
  have hs18 := tf_keepC hF2 hlh rfl (by decide) hf15
  have hs19 := tf_keepC hF2 hyr rfl (by decide) hf16
  have hs20 := tf_keepC hF2 hwh rfl (by decide) hf17
  have hs21 := tf_keepC hF2 hta rfl (by decide) hf18
  have hs22 := tf_keepC hF2 hdh rfl (by decide) hf19
  have hs23 := tf_keepF hF2 ham rfl rfl (by decide) hf20
  have hs24 := tf_keepF hF2 ham rfl rfl (by decide) hf21
  have hs25 := tf_keepF hF2 ham rfl rfl (by decide) hf22
  have hs26 := tf_keepF hF2 ham rfl rfl (by decide) hf23
  have hs27 := tf_keepF hF2 ham rfl rfl (by decide) hf24
  have hs28 := tf_keepF hF2 ham rfl rfl (by decide) hf25
  have hs29 := tf_keepF hF2 ham rfl rfl (by decide) hf26
  have hs30 := tf_keepF hF2 ham rfl rfl (by decide) hf27
  have hs31 := tf_keepF hF2 ham rfl rfl (by decide) hf28
  have hs32 := tf_keepF hF2 ham rfl rfl (by decide) hf29
  have hs33 := tf_keepC hF2 hro rfl (by decide) hf30
  have hs34 := tf_keepC hF2 hiz rfl (by decide) hf31
  have hs35 := tf_keepC hF2 hkp rfl (by decide) hf32
  have hs36 := tf_keepC hF2 htm rfl (by decide) hf33
  have hs37 := tf_keepC hF2 hdw rfl (by decide) hf34
  have hs38 := tf_keepC hF2 hwd rfl (by decide) hf35
  have hI0 := tf_IS1_keep hF2 him (by decide) (by decide) hI0
  have hI1 := tf_IS2_keep hF2 him (by decide) (by decide) hI1
  obtain ⟨hp2_0, hp2_1⟩ := hp2
  refine lv_pop hx hb dL_law_1217 rfl ?_
  refine lv_aload_n hx hb dL_law_1218 rfl (lv_at hl 1 rfl) ?_
  refine lv_aload_n hx hb dL_law_1219 rfl (lv_at hl 3 rfl) ?_
  refine lv_iload_n hx hb dL_law_1220 rfl (lv_at hl 0 rfl) ?_
  refine tf_iconst hx hb dL_law_1221 ?_
  refine tf_iadd hx hb dL_law_1222 ?_
  refine lw_sld (sx := sx) hx hb hX hbl hBs hL hW (by omega) (by omega) dL_law_1223 ?_
  have hsx39 := hsx (ii + 1)
  refine tf_calli (va_runV (As := [.int (Int32.ofInt ((sx (ii + 1))))]) (rest := []) ⟨hx, hb, hml, hown, hts⟩ (c_X10_place l g T am ham ((sx (ii + 1))) ⟨by omega, by omega⟩ ro hro rr) (cwV 1 hts gv_L_143 rfl rfl rfl hd_X10_place ⟨Nat.le_trans (by decide) hR1, Nat.le_trans (by decide) hR2⟩) (tf_preV hk hW ham (ci := 10) rfl rfl ⟨hs23, hs33⟩) rfl rfl hl.1 rfl (lv_room (Nat.le_of_ble_eq_true rfl)) dL_law_1224 ⟨Nat.le_trans (by omega) hR3, Nat.le_trans (by omega) hR4⟩) hW (by decide) (fun z40 H40 locs40 hW hF40 hp40 => ?_)
  have hs41 := tf_keepF hF40 hax rfl rfl (by decide) hs3
  have hs42 := tf_keepF hF40 hax rfl rfl (by decide) hs4
  have hs43 := tf_keepF hF40 hax rfl rfl (by decide) hs5
  have hs44 := tf_keepF hF40 hax rfl rfl (by decide) hs6
  have hs45 := tf_keepF hF40 hax rfl rfl (by decide) hs7
  have hs46 := tf_keepF hF40 hax rfl rfl (by decide) hs8
  have hs47 := tf_keepF hF40 hax rfl rfl (by decide) hs9
  have hs48 := tf_keepF hF40 hax rfl rfl (by decide) hs10
  have hs49 := tf_keepF hF40 hsq rfl rfl (by decide) hs11
  have hs50 := tf_keepF hF40 hsq rfl rfl (by decide) hs12
  have hs51 := tf_keepF hF40 hsq rfl rfl (by decide) hs13
  have hs52 := tf_keepF hF40 hsq rfl rfl (by decide) hs14
  have hs53 := tf_keepF hF40 hsq rfl rfl (by decide) hs15
  have hs54 := tf_keepF hF40 hsq rfl rfl (by decide) hs16
  have hs55 := tf_keepC hF40 hlp rfl (by decide) hs17
  have hs56 := tf_keepC hF40 hlh rfl (by decide) hs18
  have hs57 := tf_keepC hF40 hyr rfl (by decide) hs19
  have hs58 := tf_keepC hF40 hwh rfl (by decide) hs20
  have hs59 := tf_keepC hF40 hta rfl (by decide) hs21
  have hs60 := tf_keepC hF40 hdh rfl (by decide) hs22
  have hs61 := tf_keepF hF40 ham rfl rfl (by decide) hs23
  have hs62 := tf_keepF hF40 ham rfl rfl (by decide) hs24
  have hs63 := tf_keepF hF40 ham rfl rfl (by decide) hs25
  have hs64 := tf_keepF hF40 ham rfl rfl (by decide) hs26
  have hs65 := tf_keepF hF40 ham rfl rfl (by decide) hs27
  have hs66 := tf_keepF hF40 ham rfl rfl (by decide) hs28
  have hs67 := tf_keepF hF40 ham rfl rfl (by decide) hs29
  have hs68 := tf_keepF hF40 ham rfl rfl (by decide) hs30
  have hs69 := tf_keepF hF40 ham rfl rfl (by decide) hs31
  have hs70 := tf_keepF hF40 ham rfl rfl (by decide) hs32
  have hs71 := tf_keepC hF40 hiz rfl (by decide) hs34
  have hs72 := tf_keepC hF40 hkp rfl (by decide) hs35
  have hs73 := tf_keepC hF40 htm rfl (by decide) hs36
  have hs74 := tf_keepC hF40 hdw rfl (by decide) hs37
  have hs75 := tf_keepC hF40 hwd rfl (by decide) hs38
  have hI0 := tf_IS1_keep hF40 him (by decide) (by decide) hI0
  have hI1 := tf_IS2_keep hF40 him (by decide) (by decide) hI1
  obtain ⟨hp40_0, hp40_1, hp40_2⟩ := hp40
  obtain ⟨r1_40, hX40_0, hR40_0⟩ := hp40_2
  have hRL := tf_RL_kp hRL hR40_0
  have hLM := tf_LM_kp hLM hR40_0
  refine lv_pop hx hb dL_law_1227 rfl ?_
  refine lv_goto (tgt := 1498) hx hb dL_law_1228 (by decide) ?_
  refine W.widen (k := 130 + 30 * jj) (n := 31200 + 1200 * jj) (by omega) (by omega) ?_
  exact hnx _ _ _ hW hax ham ⟨sq, im, ta, dh, lp, lh, yr, wh, ro, iz, kp, tm, dw, wd, (tt), (uu), (dd), (lm), (fo), (fp), gl, gh, gy, gw, tp, gd, r1_40, qq, rk, tq, gm, gW, hsq, him, hta, hdh, hlp, hlh, hyr, hwh, hro, hiz, hkp, htm, hdw, hwd, ⟨by omega, by omega⟩, ⟨by omega, by omega⟩, ⟨by omega, by omega⟩, ⟨by omega, by omega⟩, ⟨by omega, by omega⟩, ⟨by omega, by omega⟩, hs41, hs42, hs43, hs44, hs45, hs46, hs47, hs48, hs49, hs50, hs51, hs52, hs53, hs54, hs55, hs56, hs57, hs58, hs59, hs60, hs61, hs62, hs63, tf_eqv hs64 (by omega), hs65, tf_eqv hs66 (by omega), tf_eqv hs67 (by omega), hs68, hs69, tf_eqv hs70 (by omega), hX40_0, hs71, hs72, hs73, hs74, hs75, hRL, hDD, hTP, hWW, hLM, hI0, hI1⟩ _ (lv_sub hl [0, 1, 2, 3] rfl)

set_option maxHeartbeats 4000000 in
set_option maxRecDepth 100000 in
theorem lc_1231 {p : Program} {l : Launch} {e : Env} {s : State} {m : MethodId} {below : List Frame} {meth : Method} {c : Code} {b L : Nat} {g : tf_G} {sx : Int → Int} {Q : State → Prop} (E : lw_E p s m c b L g sx) (ax am jj : Nat) (ii : Int) (hii : ii = 6 * (jj : Int)) (hij : ii + 6 ≤ (L : Int)) (hnx : lw_nx p l e s m below meth c b g ax am jj ii Q) (T : tf_T) (H : Heap) (locs : List Loc) (hW : tf_n tf_kt g M_law (fun _ => none) s.heap T H locs) (hax : T ax = some (39, 0)) (ham : T am = some (63, 0)) (hI : lw_I g T H ax am) (ls : Array Slot) (hl : lv_has ls 4 [(3, .int (Int32.ofInt ii)), (2, .ref am), (1, .ref ax), (0, .ref b)]) : W p l e room_1 s m #[Value.ref b] below meth c H locs (100 + 30 * jj) (30000 + 1200 * jj) Q (F0 m 1231 ls []) := by
  obtain ⟨hx, hb, hml, hown, hts, hbl, hk, hBs, hsx, hX, hL⟩ := id E
  have hR1 := lw_R1
  have hR2 := lw_R2
  have hR3 := lw_R3
  have hR4 := lw_R4
  have hK := hk.1
  have hE : tf_E g T := trivial
  obtain ⟨sq, im, ta, dh, lp, lh, yr, wh, ro, iz, kp, tm, dw, wd, tt, uu, dd, lm, fo, fp, gl, gh, gy, gw, tp, gd, rr, qq, rk, tq, gm, gW, hsq, him, hta, hdh, hlp, hlh, hyr, hwh, hro, hiz, hkp, htm, hdw, hwd, htt, huu, hdd, hlm, hfo, hfp, hf0, hf1, hf2, hf3, hf4, hf5, hf6, hf7, hf8, hf9, hf10, hf11, hf12, hf13, hf14, hf15, hf16, hf17, hf18, hf19, hf20, hf21, hf22, hf23, hf24, hf25, hf26, hf27, hf28, hf29, hf30, hf31, hf32, hf33, hf34, hf35, hRL, hDD, hTP, hWW, hLM, hI0, hI1⟩ := hI
  have hWS : tf_WS gy gw := hRL.2.2
  refine lv_aload_n hx hb dL_law_1231 rfl (lv_at hl 2 rfl) ?_
  refine lv_aload_n hx hb dL_law_1232 rfl (lv_at hl 3 rfl) ?_
  refine lv_iload_n hx hb dL_law_1233 rfl (lv_at hl 0 rfl) ?_
  refine tf_iconst hx hb dL_law_1234 ?_
  refine tf_iadd hx hb dL_law_1235 ?_
  refine lw_sld (sx := sx) hx hb hX hbl hBs hL hW (by omega) (by omega) dL_law_1236 ?_
  have hsx1 := hsx (ii + 1)
  refine tf_calli (va_runV (As := [.int (Int32.ofInt ((sx (ii + 1))))]) (rest := []) ⟨hx, hb, hml, hown, hts⟩ (c_X9_glass l g T ax hax ((sx (ii + 1))) ⟨by omega, by omega⟩ hE) (cwV 1 hts gv_L_144 rfl rfl rfl hd_X9_glass ⟨Nat.le_trans (by decide) hR1, Nat.le_trans (by decide) hR2⟩) (tf_preV hk hW hax (ci := 9) rfl rfl trivial) rfl rfl hl.1 rfl (lv_room (Nat.le_of_ble_eq_true rfl)) dL_law_1237 ⟨Nat.le_trans (by omega) hR3, Nat.le_trans (by omega) hR4⟩) hW (by decide) (fun z2 H2 locs2 hW hF2 hp2 => ?_)
  have hs3 := tf_keepF hF2 hax rfl rfl (by decide) hf0
  have hs4 := tf_keepF hF2 hax rfl rfl (by decide) hf1
  have hs5 := tf_keepF hF2 hax rfl rfl (by decide) hf2
  have hs6 := tf_keepF hF2 hax rfl rfl (by decide) hf3
  have hs7 := tf_keepF hF2 hax rfl rfl (by decide) hf4
  have hs8 := tf_keepF hF2 hax rfl rfl (by decide) hf5
  have hs9 := tf_keepF hF2 hax rfl rfl (by decide) hf6
  have hs10 := tf_keepF hF2 hax rfl rfl (by decide) hf7
  have hs11 := tf_keepF hF2 hsq rfl rfl (by decide) hf8
  have hs12 := tf_keepF hF2 hsq rfl rfl (by decide) hf9
  have hs13 := tf_keepF hF2 hsq rfl rfl (by decide) hf10
  have hs14 := tf_keepF hF2 hsq rfl rfl (by decide) hf11
  have hs15 := tf_keepF hF2 hsq rfl rfl (by decide) hf12
  have hs16 := tf_keepF hF2 hsq rfl rfl (by decide) hf13
  have hs17 := tf_keepC hF2 hlp rfl (by decide) hf14
  have hs18 := tf_keepC hF2 hlh rfl (by decide) hf15
  have hs19 := tf_keepC hF2 hyr rfl (by decide) hf16
  have hs20 := tf_keepC hF2 hwh rfl (by decide) hf17
  have hs21 := tf_keepC hF2 hta rfl (by decide) hf18
  have hs22 := tf_keepC hF2 hdh rfl (by decide) hf19
  have hs23 := tf_keepF hF2 ham rfl rfl (by decide) hf20
  have hs24 := tf_keepF hF2 ham rfl rfl (by decide) hf21
  have hs25 := tf_keepF hF2 ham rfl rfl (by decide) hf22
  have hs26 := tf_keepF hF2 ham rfl rfl (by decide) hf23
  have hs27 := tf_keepF hF2 ham rfl rfl (by decide) hf24
  have hs28 := tf_keepF hF2 ham rfl rfl (by decide) hf25
  have hs29 := tf_keepF hF2 ham rfl rfl (by decide) hf26
  have hs30 := tf_keepF hF2 ham rfl rfl (by decide) hf27
  have hs31 := tf_keepF hF2 ham rfl rfl (by decide) hf28
  have hs32 := tf_keepF hF2 ham rfl rfl (by decide) hf29
  have hs33 := tf_keepC hF2 hro rfl (by decide) hf30
  have hs34 := tf_keepC hF2 hiz rfl (by decide) hf31
  have hs35 := tf_keepC hF2 hkp rfl (by decide) hf32
  have hs36 := tf_keepC hF2 htm rfl (by decide) hf33
  have hs37 := tf_keepC hF2 hdw rfl (by decide) hf34
  have hs38 := tf_keepC hF2 hwd rfl (by decide) hf35
  have hI0 := tf_IS1_keep hF2 him (by decide) (by decide) hI0
  have hI1 := tf_IS2_keep hF2 him (by decide) (by decide) hI1
  obtain ⟨hp2_0, hp2_1⟩ := hp2
  refine lv_pop hx hb dL_law_1240 rfl ?_
  refine lv_aload_n hx hb dL_law_1241 rfl (lv_at hl 1 rfl) ?_
  refine lv_aload_n hx hb dL_law_1242 rfl (lv_at hl 3 rfl) ?_
  refine lv_iload_n hx hb dL_law_1243 rfl (lv_at hl 0 rfl) ?_
  refine tf_iconst hx hb dL_law_1244 ?_
  refine tf_iadd hx hb dL_law_1245 ?_
  refine lw_sld (sx := sx) hx hb hX hbl hBs hL hW (by omega) (by omega) dL_law_1246 ?_
  have hsx39 := hsx (ii + 1)
  refine tf_calli (va_runV (As := [.int (Int32.ofInt ((sx (ii + 1))))]) (rest := []) ⟨hx, hb, hml, hown, hts⟩ (c_X10_glass l g T am ham ((sx (ii + 1))) ⟨by omega, by omega⟩) (cwV 1 hts gv_L_147 rfl rfl rfl hd_X10_glass ⟨Nat.le_trans (by decide) hR1, Nat.le_trans (by decide) hR2⟩) (tf_preV hk hW ham (ci := 10) rfl rfl trivial) rfl rfl hl.1 rfl (lv_room (Nat.le_of_ble_eq_true rfl)) dL_law_1247 ⟨Nat.le_trans (by omega) hR3, Nat.le_trans (by omega) hR4⟩) hW (by decide) (fun z40 H40 locs40 hW hF40 hp40 => ?_)
  have hs41 := tf_keepF hF40 hax rfl rfl (by decide) hs3
  have hs42 := tf_keepF hF40 hax rfl rfl (by decide) hs4
  have hs43 := tf_keepF hF40 hax rfl rfl (by decide) hs5
  have hs44 := tf_keepF hF40 hax rfl rfl (by decide) hs6
  have hs45 := tf_keepF hF40 hax rfl rfl (by decide) hs7
  have hs46 := tf_keepF hF40 hax rfl rfl (by decide) hs8
  have hs47 := tf_keepF hF40 hax rfl rfl (by decide) hs9
  have hs48 := tf_keepF hF40 hax rfl rfl (by decide) hs10
  have hs49 := tf_keepF hF40 hsq rfl rfl (by decide) hs11
  have hs50 := tf_keepF hF40 hsq rfl rfl (by decide) hs12
  have hs51 := tf_keepF hF40 hsq rfl rfl (by decide) hs13
  have hs52 := tf_keepF hF40 hsq rfl rfl (by decide) hs14
  have hs53 := tf_keepF hF40 hsq rfl rfl (by decide) hs15
  have hs54 := tf_keepF hF40 hsq rfl rfl (by decide) hs16
  have hs55 := tf_keepC hF40 hlp rfl (by decide) hs17
  have hs56 := tf_keepC hF40 hlh rfl (by decide) hs18
  have hs57 := tf_keepC hF40 hyr rfl (by decide) hs19
  have hs58 := tf_keepC hF40 hwh rfl (by decide) hs20
  have hs59 := tf_keepC hF40 hta rfl (by decide) hs21
  have hs60 := tf_keepC hF40 hdh rfl (by decide) hs22
  have hs61 := tf_keepF hF40 ham rfl rfl (by decide) hs23
  have hs62 := tf_keepF hF40 ham rfl rfl (by decide) hs24
  have hs63 := tf_keepF hF40 ham rfl rfl (by decide) hs25
  have hs64 := tf_keepF hF40 ham rfl rfl (by decide) hs26
  have hs65 := tf_keepF hF40 ham rfl rfl (by decide) hs27
  have hs66 := tf_keepF hF40 ham rfl rfl (by decide) hs28
  have hs67 := tf_keepF hF40 ham rfl rfl (by decide) hs29
  have hs68 := tf_keepF hF40 ham rfl rfl (by decide) hs30
  have hs69 := tf_keepF hF40 ham rfl rfl (by decide) hs31
  have hs70 := tf_keepF hF40 ham rfl rfl (by decide) hs32
  have hs71 := tf_keepC hF40 hro rfl (by decide) hs33
  have hs72 := tf_keepC hF40 hiz rfl (by decide) hs34
  have hs73 := tf_keepC hF40 hkp rfl (by decide) hs35
  have hs74 := tf_keepC hF40 htm rfl (by decide) hs36
  have hs75 := tf_keepC hF40 hdw rfl (by decide) hs37
  have hs76 := tf_keepC hF40 hwd rfl (by decide) hs38
  have hI0 := tf_IS1_keep hF40 him (by decide) (by decide) hI0
  have hI1 := tf_IS2_keep hF40 him (by decide) (by decide) hI1
  obtain ⟨hp40_0, hp40_1⟩ := hp40
  refine lv_pop hx hb dL_law_1250 rfl ?_
  refine lv_goto (tgt := 1498) hx hb dL_law_1251 (by decide) ?_
  refine W.widen (k := 130 + 30 * jj) (n := 31200 + 1200 * jj) (by omega) (by omega) ?_
  exact hnx _ _ _ hW hax ham ⟨sq, im, ta, dh, lp, lh, yr, wh, ro, iz, kp, tm, dw, wd, (tt), (uu), (dd), (lm), (fo), (fp), gl, gh, gy, gw, tp, gd, rr, qq, rk, tq, gm, gW, hsq, him, hta, hdh, hlp, hlh, hyr, hwh, hro, hiz, hkp, htm, hdw, hwd, ⟨by omega, by omega⟩, ⟨by omega, by omega⟩, ⟨by omega, by omega⟩, ⟨by omega, by omega⟩, ⟨by omega, by omega⟩, ⟨by omega, by omega⟩, hs41, hs42, hs43, hs44, hs45, hs46, hs47, hs48, hs49, hs50, hs51, hs52, hs53, hs54, hs55, hs56, hs57, hs58, hs59, hs60, hs61, hs62, hs63, tf_eqv hs64 (by omega), hs65, tf_eqv hs66 (by omega), tf_eqv hs67 (by omega), hs68, hs69, tf_eqv hs70 (by omega), hs71, hs72, hs73, hs74, hs75, hs76, hRL, hDD, hTP, hWW, hLM, hI0, hI1⟩ _ (lv_sub hl [0, 1, 2, 3] rfl)

set_option maxHeartbeats 4000000 in
set_option maxRecDepth 100000 in
theorem lc_1254 {p : Program} {l : Launch} {e : Env} {s : State} {m : MethodId} {below : List Frame} {meth : Method} {c : Code} {b L : Nat} {g : tf_G} {sx : Int → Int} {Q : State → Prop} (E : lw_E p s m c b L g sx) (ax am jj : Nat) (ii : Int) (hii : ii = 6 * (jj : Int)) (hij : ii + 6 ≤ (L : Int)) (hnx : lw_nx p l e s m below meth c b g ax am jj ii Q) (T : tf_T) (H : Heap) (locs : List Loc) (hW : tf_n tf_kt g M_law (fun _ => none) s.heap T H locs) (hax : T ax = some (39, 0)) (ham : T am = some (63, 0)) (hI : lw_I g T H ax am) (ls : Array Slot) (hl : lv_has ls 4 [(3, .int (Int32.ofInt ii)), (2, .ref am), (1, .ref ax), (0, .ref b)]) : W p l e room_1 s m #[Value.ref b] below meth c H locs (100 + 30 * jj) (30000 + 1200 * jj) Q (F0 m 1254 ls []) := by
  obtain ⟨hx, hb, hml, hown, hts, hbl, hk, hBs, hsx, hX, hL⟩ := id E
  have hR1 := lw_R1
  have hR2 := lw_R2
  have hR3 := lw_R3
  have hR4 := lw_R4
  have hK := hk.1
  have hE : tf_E g T := trivial
  obtain ⟨sq, im, ta, dh, lp, lh, yr, wh, ro, iz, kp, tm, dw, wd, tt, uu, dd, lm, fo, fp, gl, gh, gy, gw, tp, gd, rr, qq, rk, tq, gm, gW, hsq, him, hta, hdh, hlp, hlh, hyr, hwh, hro, hiz, hkp, htm, hdw, hwd, htt, huu, hdd, hlm, hfo, hfp, hf0, hf1, hf2, hf3, hf4, hf5, hf6, hf7, hf8, hf9, hf10, hf11, hf12, hf13, hf14, hf15, hf16, hf17, hf18, hf19, hf20, hf21, hf22, hf23, hf24, hf25, hf26, hf27, hf28, hf29, hf30, hf31, hf32, hf33, hf34, hf35, hRL, hDD, hTP, hWW, hLM, hI0, hI1⟩ := hI
  have hWS : tf_WS gy gw := hRL.2.2
  refine lv_aload_n hx hb dL_law_1254 rfl (lv_at hl 2 rfl) ?_
  refine lv_aload_n hx hb dL_law_1255 rfl (lv_at hl 3 rfl) ?_
  refine lv_iload_n hx hb dL_law_1256 rfl (lv_at hl 0 rfl) ?_
  refine tf_iconst hx hb dL_law_1257 ?_
  refine tf_iadd hx hb dL_law_1258 ?_
  refine lw_sld (sx := sx) hx hb hX hbl hBs hL hW (by omega) (by omega) dL_law_1259 ?_
  have hsx1 := hsx (ii + 1)
  refine lv_aload_n hx hb dL_law_1260 rfl (lv_at hl 3 rfl) ?_
  refine lv_iload_n hx hb dL_law_1261 rfl (lv_at hl 0 rfl) ?_
  refine tf_iconst hx hb dL_law_1262 ?_
  refine tf_iadd hx hb dL_law_1263 ?_
  refine lw_sld (sx := sx) hx hb hX hbl hBs hL hW (by omega) (by omega) dL_law_1264 ?_
  have hsx2 := hsx (ii + 2)
  refine lv_aload_n hx hb dL_law_1265 rfl (lv_at hl 3 rfl) ?_
  refine lv_iload_n hx hb dL_law_1266 rfl (lv_at hl 0 rfl) ?_
  refine tf_iconst hx hb dL_law_1267 ?_
  refine tf_iadd hx hb dL_law_1268 ?_
  refine lw_sld (sx := sx) hx hb hX hbl hBs hL hW (by omega) (by omega) dL_law_1269 ?_
  have hsx3 := hsx (ii + 3)
  refine tf_calli (va_runV (As := [.int (Int32.ofInt ((sx (ii + 1)))), .int (Int32.ofInt ((sx (ii + 2)))), .int (Int32.ofInt ((sx (ii + 3))))]) (rest := []) ⟨hx, hb, hml, hown, hts⟩ (c_X9_salt l g T ax hax ((sx (ii + 1))) ⟨by omega, by omega⟩ ((sx (ii + 2))) ⟨by omega, by omega⟩ ((sx (ii + 3))) ⟨by omega, by omega⟩ hE) (cwV 3 hts gv_L_148 rfl rfl rfl hd_X9_salt ⟨Nat.le_trans (by decide) hR1, Nat.le_trans (by decide) hR2⟩) (tf_preV hk hW hax (ci := 9) rfl rfl trivial) rfl rfl hl.1 rfl (lv_room (Nat.le_of_ble_eq_true rfl)) dL_law_1270 ⟨Nat.le_trans (by omega) hR3, Nat.le_trans (by omega) hR4⟩) hW (by decide) (fun z4 H4 locs4 hW hF4 hp4 => ?_)
  have hs5 := tf_keepF hF4 hax rfl rfl (by decide) hf0
  have hs6 := tf_keepF hF4 hax rfl rfl (by decide) hf1
  have hs7 := tf_keepF hF4 hax rfl rfl (by decide) hf2
  have hs8 := tf_keepF hF4 hax rfl rfl (by decide) hf3
  have hs9 := tf_keepF hF4 hax rfl rfl (by decide) hf4
  have hs10 := tf_keepF hF4 hax rfl rfl (by decide) hf5
  have hs11 := tf_keepF hF4 hax rfl rfl (by decide) hf6
  have hs12 := tf_keepF hF4 hax rfl rfl (by decide) hf7
  have hs13 := tf_keepF hF4 hsq rfl rfl (by decide) hf8
  have hs14 := tf_keepF hF4 hsq rfl rfl (by decide) hf9
  have hs15 := tf_keepF hF4 hsq rfl rfl (by decide) hf10
  have hs16 := tf_keepF hF4 hsq rfl rfl (by decide) hf11
  have hs17 := tf_keepF hF4 hsq rfl rfl (by decide) hf12
  have hs18 := tf_keepF hF4 hsq rfl rfl (by decide) hf13
  have hs19 := tf_keepC hF4 hlp rfl (by decide) hf14
  have hs20 := tf_keepC hF4 hlh rfl (by decide) hf15
  have hs21 := tf_keepC hF4 hyr rfl (by decide) hf16
  have hs22 := tf_keepC hF4 hwh rfl (by decide) hf17
  have hs23 := tf_keepC hF4 hta rfl (by decide) hf18
  have hs24 := tf_keepC hF4 hdh rfl (by decide) hf19
  have hs25 := tf_keepF hF4 ham rfl rfl (by decide) hf20
  have hs26 := tf_keepF hF4 ham rfl rfl (by decide) hf21
  have hs27 := tf_keepF hF4 ham rfl rfl (by decide) hf22
  have hs28 := tf_keepF hF4 ham rfl rfl (by decide) hf23
  have hs29 := tf_keepF hF4 ham rfl rfl (by decide) hf24
  have hs30 := tf_keepF hF4 ham rfl rfl (by decide) hf25
  have hs31 := tf_keepF hF4 ham rfl rfl (by decide) hf26
  have hs32 := tf_keepF hF4 ham rfl rfl (by decide) hf27
  have hs33 := tf_keepF hF4 ham rfl rfl (by decide) hf28
  have hs34 := tf_keepF hF4 ham rfl rfl (by decide) hf29
  have hs35 := tf_keepC hF4 hro rfl (by decide) hf30
  have hs36 := tf_keepC hF4 hiz rfl (by decide) hf31
  have hs37 := tf_keepC hF4 hkp rfl (by decide) hf32
  have hs38 := tf_keepC hF4 htm rfl (by decide) hf33
  have hs39 := tf_keepC hF4 hdw rfl (by decide) hf34
  have hs40 := tf_keepC hF4 hwd rfl (by decide) hf35
  have hI0 := tf_IS1_keep hF4 him (by decide) (by decide) hI0
  have hI1 := tf_IS2_keep hF4 him (by decide) (by decide) hI1
  obtain ⟨hp4_0, hp4_1⟩ := hp4
  refine lv_pop hx hb dL_law_1273 rfl ?_
  refine lv_aload_n hx hb dL_law_1274 rfl (lv_at hl 1 rfl) ?_
  refine lv_aload_n hx hb dL_law_1275 rfl (lv_at hl 3 rfl) ?_
  refine lv_iload_n hx hb dL_law_1276 rfl (lv_at hl 0 rfl) ?_
  refine tf_iconst hx hb dL_law_1277 ?_
  refine tf_iadd hx hb dL_law_1278 ?_
  refine lw_sld (sx := sx) hx hb hX hbl hBs hL hW (by omega) (by omega) dL_law_1279 ?_
  have hsx41 := hsx (ii + 1)
  refine lv_aload_n hx hb dL_law_1280 rfl (lv_at hl 3 rfl) ?_
  refine lv_iload_n hx hb dL_law_1281 rfl (lv_at hl 0 rfl) ?_
  refine tf_iconst hx hb dL_law_1282 ?_
  refine tf_iadd hx hb dL_law_1283 ?_
  refine lw_sld (sx := sx) hx hb hX hbl hBs hL hW (by omega) (by omega) dL_law_1284 ?_
  have hsx42 := hsx (ii + 2)
  refine lv_aload_n hx hb dL_law_1285 rfl (lv_at hl 3 rfl) ?_
  refine lv_iload_n hx hb dL_law_1286 rfl (lv_at hl 0 rfl) ?_
  refine tf_iconst hx hb dL_law_1287 ?_
  refine tf_iadd hx hb dL_law_1288 ?_
  refine lw_sld (sx := sx) hx hb hX hbl hBs hL hW (by omega) (by omega) dL_law_1289 ?_
  have hsx43 := hsx (ii + 3)
  refine tf_calli (va_runV (As := [.int (Int32.ofInt ((sx (ii + 1)))), .int (Int32.ofInt ((sx (ii + 2)))), .int (Int32.ofInt ((sx (ii + 3))))]) (rest := []) ⟨hx, hb, hml, hown, hts⟩ (c_X10_salt l g T am ham ((sx (ii + 1))) ⟨by omega, by omega⟩ ((sx (ii + 2))) ⟨by omega, by omega⟩ ((sx (ii + 3))) ⟨by omega, by omega⟩) (cwV 3 hts gv_L_151 rfl rfl rfl hd_X10_salt ⟨Nat.le_trans (by decide) hR1, Nat.le_trans (by decide) hR2⟩) (tf_preV hk hW ham (ci := 10) rfl rfl trivial) rfl rfl hl.1 rfl (lv_room (Nat.le_of_ble_eq_true rfl)) dL_law_1290 ⟨Nat.le_trans (by omega) hR3, Nat.le_trans (by omega) hR4⟩) hW (by decide) (fun z44 H44 locs44 hW hF44 hp44 => ?_)
  have hs45 := tf_keepF hF44 hax rfl rfl (by decide) hs5
  have hs46 := tf_keepF hF44 hax rfl rfl (by decide) hs6
  have hs47 := tf_keepF hF44 hax rfl rfl (by decide) hs7
  have hs48 := tf_keepF hF44 hax rfl rfl (by decide) hs8
  have hs49 := tf_keepF hF44 hax rfl rfl (by decide) hs9
  have hs50 := tf_keepF hF44 hax rfl rfl (by decide) hs10
  have hs51 := tf_keepF hF44 hax rfl rfl (by decide) hs11
  have hs52 := tf_keepF hF44 hax rfl rfl (by decide) hs12
  have hs53 := tf_keepF hF44 hsq rfl rfl (by decide) hs13
  have hs54 := tf_keepF hF44 hsq rfl rfl (by decide) hs14
  have hs55 := tf_keepF hF44 hsq rfl rfl (by decide) hs15
  have hs56 := tf_keepF hF44 hsq rfl rfl (by decide) hs16
  have hs57 := tf_keepF hF44 hsq rfl rfl (by decide) hs17
  have hs58 := tf_keepF hF44 hsq rfl rfl (by decide) hs18
  have hs59 := tf_keepC hF44 hlp rfl (by decide) hs19
  have hs60 := tf_keepC hF44 hlh rfl (by decide) hs20
  have hs61 := tf_keepC hF44 hyr rfl (by decide) hs21
  have hs62 := tf_keepC hF44 hwh rfl (by decide) hs22
  have hs63 := tf_keepC hF44 hta rfl (by decide) hs23
  have hs64 := tf_keepC hF44 hdh rfl (by decide) hs24
  have hs65 := tf_keepF hF44 ham rfl rfl (by decide) hs25
  have hs66 := tf_keepF hF44 ham rfl rfl (by decide) hs26
  have hs67 := tf_keepF hF44 ham rfl rfl (by decide) hs27
  have hs68 := tf_keepF hF44 ham rfl rfl (by decide) hs28
  have hs69 := tf_keepF hF44 ham rfl rfl (by decide) hs29
  have hs70 := tf_keepF hF44 ham rfl rfl (by decide) hs30
  have hs71 := tf_keepF hF44 ham rfl rfl (by decide) hs31
  have hs72 := tf_keepF hF44 ham rfl rfl (by decide) hs32
  have hs73 := tf_keepF hF44 ham rfl rfl (by decide) hs33
  have hs74 := tf_keepF hF44 ham rfl rfl (by decide) hs34
  have hs75 := tf_keepC hF44 hro rfl (by decide) hs35
  have hs76 := tf_keepC hF44 hiz rfl (by decide) hs36
  have hs77 := tf_keepC hF44 hkp rfl (by decide) hs37
  have hs78 := tf_keepC hF44 htm rfl (by decide) hs38
  have hs79 := tf_keepC hF44 hdw rfl (by decide) hs39
  have hs80 := tf_keepC hF44 hwd rfl (by decide) hs40
  have hI0 := tf_IS1_keep hF44 him (by decide) (by decide) hI0
  have hI1 := tf_IS2_keep hF44 him (by decide) (by decide) hI1
  obtain ⟨hp44_0, hp44_1⟩ := hp44
  refine lv_pop hx hb dL_law_1293 rfl ?_
  refine lv_goto (tgt := 1498) hx hb dL_law_1294 (by decide) ?_
  refine W.widen (k := 130 + 30 * jj) (n := 31200 + 1200 * jj) (by omega) (by omega) ?_
  exact hnx _ _ _ hW hax ham ⟨sq, im, ta, dh, lp, lh, yr, wh, ro, iz, kp, tm, dw, wd, (tt), (uu), (dd), (lm), (fo), (fp), gl, gh, gy, gw, tp, gd, rr, qq, rk, tq, gm, gW, hsq, him, hta, hdh, hlp, hlh, hyr, hwh, hro, hiz, hkp, htm, hdw, hwd, ⟨by omega, by omega⟩, ⟨by omega, by omega⟩, ⟨by omega, by omega⟩, ⟨by omega, by omega⟩, ⟨by omega, by omega⟩, ⟨by omega, by omega⟩, hs45, hs46, hs47, hs48, hs49, hs50, hs51, hs52, hs53, hs54, hs55, hs56, hs57, hs58, hs59, hs60, hs61, hs62, hs63, hs64, hs65, hs66, hs67, tf_eqv hs68 (by omega), hs69, tf_eqv hs70 (by omega), tf_eqv hs71 (by omega), hs72, hs73, tf_eqv hs74 (by omega), hs75, hs76, hs77, hs78, hs79, hs80, hRL, hDD, hTP, hWW, hLM, hI0, hI1⟩ _ (lv_sub hl [0, 1, 2, 3] rfl)

set_option maxHeartbeats 4000000 in
set_option maxRecDepth 100000 in
theorem lc_1297 {p : Program} {l : Launch} {e : Env} {s : State} {m : MethodId} {below : List Frame} {meth : Method} {c : Code} {b L : Nat} {g : tf_G} {sx : Int → Int} {Q : State → Prop} (E : lw_E p s m c b L g sx) (ax am jj : Nat) (ii : Int) (hii : ii = 6 * (jj : Int)) (hij : ii + 6 ≤ (L : Int)) (hnx : lw_nx p l e s m below meth c b g ax am jj ii Q) (T : tf_T) (H : Heap) (locs : List Loc) (hW : tf_n tf_kt g M_law (fun _ => none) s.heap T H locs) (hax : T ax = some (39, 0)) (ham : T am = some (63, 0)) (hI : lw_I g T H ax am) (ls : Array Slot) (hl : lv_has ls 4 [(3, .int (Int32.ofInt ii)), (2, .ref am), (1, .ref ax), (0, .ref b)]) : W p l e room_1 s m #[Value.ref b] below meth c H locs (100 + 30 * jj) (30000 + 1200 * jj) Q (F0 m 1297 ls []) := by
  obtain ⟨hx, hb, hml, hown, hts, hbl, hk, hBs, hsx, hX, hL⟩ := id E
  have hR1 := lw_R1
  have hR2 := lw_R2
  have hR3 := lw_R3
  have hR4 := lw_R4
  have hK := hk.1
  have hE : tf_E g T := trivial
  obtain ⟨sq, im, ta, dh, lp, lh, yr, wh, ro, iz, kp, tm, dw, wd, tt, uu, dd, lm, fo, fp, gl, gh, gy, gw, tp, gd, rr, qq, rk, tq, gm, gW, hsq, him, hta, hdh, hlp, hlh, hyr, hwh, hro, hiz, hkp, htm, hdw, hwd, htt, huu, hdd, hlm, hfo, hfp, hf0, hf1, hf2, hf3, hf4, hf5, hf6, hf7, hf8, hf9, hf10, hf11, hf12, hf13, hf14, hf15, hf16, hf17, hf18, hf19, hf20, hf21, hf22, hf23, hf24, hf25, hf26, hf27, hf28, hf29, hf30, hf31, hf32, hf33, hf34, hf35, hRL, hDD, hTP, hWW, hLM, hI0, hI1⟩ := hI
  have hWS : tf_WS gy gw := hRL.2.2
  refine lv_aload_n hx hb dL_law_1297 rfl (lv_at hl 2 rfl) ?_
  refine lv_aload_n hx hb dL_law_1298 rfl (lv_at hl 3 rfl) ?_
  refine lv_iload_n hx hb dL_law_1299 rfl (lv_at hl 0 rfl) ?_
  refine tf_iconst hx hb dL_law_1300 ?_
  refine tf_iadd hx hb dL_law_1301 ?_
  refine lw_sld (sx := sx) hx hb hX hbl hBs hL hW (by omega) (by omega) dL_law_1302 ?_
  have hsx1 := hsx (ii + 1)
  refine lv_aload_n hx hb dL_law_1303 rfl (lv_at hl 3 rfl) ?_
  refine lv_iload_n hx hb dL_law_1304 rfl (lv_at hl 0 rfl) ?_
  refine tf_iconst hx hb dL_law_1305 ?_
  refine tf_iadd hx hb dL_law_1306 ?_
  refine lw_sld (sx := sx) hx hb hX hbl hBs hL hW (by omega) (by omega) dL_law_1307 ?_
  have hsx2 := hsx (ii + 2)
  refine lv_aload_n hx hb dL_law_1308 rfl (lv_at hl 3 rfl) ?_
  refine lv_iload_n hx hb dL_law_1309 rfl (lv_at hl 0 rfl) ?_
  refine tf_iconst hx hb dL_law_1310 ?_
  refine tf_iadd hx hb dL_law_1311 ?_
  refine lw_sld (sx := sx) hx hb hX hbl hBs hL hW (by omega) (by omega) dL_law_1312 ?_
  have hsx3 := hsx (ii + 3)
  refine lv_aload_n hx hb dL_law_1313 rfl (lv_at hl 3 rfl) ?_
  refine lv_iload_n hx hb dL_law_1314 rfl (lv_at hl 0 rfl) ?_
  refine tf_iconst hx hb dL_law_1315 ?_
  refine tf_iadd hx hb dL_law_1316 ?_
  refine lw_sld (sx := sx) hx hb hX hbl hBs hL hW (by omega) (by omega) dL_law_1317 ?_
  have hsx4 := hsx (ii + 4)
  refine lv_aload_n hx hb dL_law_1318 rfl (lv_at hl 3 rfl) ?_
  refine lv_iload_n hx hb dL_law_1319 rfl (lv_at hl 0 rfl) ?_
  refine tf_iconst hx hb dL_law_1320 ?_
  refine tf_iadd hx hb dL_law_1321 ?_
  refine lw_sld (sx := sx) hx hb hX hbl hBs hL hW (by omega) (by omega) dL_law_1322 ?_
  have hsx5 := hsx (ii + 5)
  refine tf_calli (va_runV (As := [.int (Int32.ofInt ((sx (ii + 1)))), .int (Int32.ofInt ((sx (ii + 2)))), .int (Int32.ofInt ((sx (ii + 3)))), .int (Int32.ofInt ((sx (ii + 4)))), .int (Int32.ofInt ((sx (ii + 5))))]) (rest := []) ⟨hx, hb, hml, hown, hts⟩ (c_X9_odds l g T ax hax ((sx (ii + 1))) ⟨by omega, by omega⟩ ((sx (ii + 2))) ⟨by omega, by omega⟩ ((sx (ii + 3))) ⟨by omega, by omega⟩ ((sx (ii + 4))) ⟨by omega, by omega⟩ ((sx (ii + 5))) ⟨by omega, by omega⟩ hE) (cwV 5 hts gv_L_152 rfl rfl rfl hd_X9_odds ⟨Nat.le_trans (by decide) hR1, Nat.le_trans (by decide) hR2⟩) (tf_preV hk hW hax (ci := 9) rfl rfl trivial) rfl rfl hl.1 rfl (lv_room (Nat.le_of_ble_eq_true rfl)) dL_law_1323 ⟨Nat.le_trans (by omega) hR3, Nat.le_trans (by omega) hR4⟩) hW (by decide) (fun z6 H6 locs6 hW hF6 hp6 => ?_)
  have hs7 := tf_keepF hF6 hax rfl rfl (by decide) hf0
  have hs8 := tf_keepF hF6 hax rfl rfl (by decide) hf1
  have hs9 := tf_keepF hF6 hax rfl rfl (by decide) hf2
  have hs10 := tf_keepF hF6 hax rfl rfl (by decide) hf3
  have hs11 := tf_keepF hF6 hax rfl rfl (by decide) hf4
  have hs12 := tf_keepF hF6 hax rfl rfl (by decide) hf5
  have hs13 := tf_keepF hF6 hax rfl rfl (by decide) hf6
  have hs14 := tf_keepF hF6 hax rfl rfl (by decide) hf7
  have hs15 := tf_keepF hF6 hsq rfl rfl (by decide) hf8
  have hs16 := tf_keepF hF6 hsq rfl rfl (by decide) hf9
  have hs17 := tf_keepF hF6 hsq rfl rfl (by decide) hf10
  have hs18 := tf_keepF hF6 hsq rfl rfl (by decide) hf11
  have hs19 := tf_keepF hF6 hsq rfl rfl (by decide) hf12
  have hs20 := tf_keepF hF6 hsq rfl rfl (by decide) hf13
  have hs21 := tf_keepC hF6 hlp rfl (by decide) hf14
  have hs22 := tf_keepC hF6 hlh rfl (by decide) hf15
  have hs23 := tf_keepC hF6 hyr rfl (by decide) hf16
  have hs24 := tf_keepC hF6 hwh rfl (by decide) hf17
  have hs25 := tf_keepC hF6 hta rfl (by decide) hf18
  have hs26 := tf_keepC hF6 hdh rfl (by decide) hf19
  have hs27 := tf_keepF hF6 ham rfl rfl (by decide) hf20
  have hs28 := tf_keepF hF6 ham rfl rfl (by decide) hf21
  have hs29 := tf_keepF hF6 ham rfl rfl (by decide) hf22
  have hs30 := tf_keepF hF6 ham rfl rfl (by decide) hf23
  have hs31 := tf_keepF hF6 ham rfl rfl (by decide) hf24
  have hs32 := tf_keepF hF6 ham rfl rfl (by decide) hf25
  have hs33 := tf_keepF hF6 ham rfl rfl (by decide) hf26
  have hs34 := tf_keepF hF6 ham rfl rfl (by decide) hf27
  have hs35 := tf_keepF hF6 ham rfl rfl (by decide) hf28
  have hs36 := tf_keepF hF6 ham rfl rfl (by decide) hf29
  have hs37 := tf_keepC hF6 hro rfl (by decide) hf30
  have hs38 := tf_keepC hF6 hiz rfl (by decide) hf31
  have hs39 := tf_keepC hF6 hkp rfl (by decide) hf32
  have hs40 := tf_keepC hF6 htm rfl (by decide) hf33
  have hs41 := tf_keepC hF6 hdw rfl (by decide) hf34
  have hs42 := tf_keepC hF6 hwd rfl (by decide) hf35
  have hI0 := tf_IS1_keep hF6 him (by decide) (by decide) hI0
  have hI1 := tf_IS2_keep hF6 him (by decide) (by decide) hI1
  obtain ⟨hp6_0, hp6_1⟩ := hp6
  refine lv_pop hx hb dL_law_1326 rfl ?_
  refine lv_aload_n hx hb dL_law_1327 rfl (lv_at hl 1 rfl) ?_
  refine lv_aload_n hx hb dL_law_1328 rfl (lv_at hl 3 rfl) ?_
  refine lv_iload_n hx hb dL_law_1329 rfl (lv_at hl 0 rfl) ?_
  refine tf_iconst hx hb dL_law_1330 ?_
  refine tf_iadd hx hb dL_law_1331 ?_
  refine lw_sld (sx := sx) hx hb hX hbl hBs hL hW (by omega) (by omega) dL_law_1332 ?_
  have hsx43 := hsx (ii + 1)
  refine lv_aload_n hx hb dL_law_1333 rfl (lv_at hl 3 rfl) ?_
  refine lv_iload_n hx hb dL_law_1334 rfl (lv_at hl 0 rfl) ?_
  refine tf_iconst hx hb dL_law_1335 ?_
  refine tf_iadd hx hb dL_law_1336 ?_
  refine lw_sld (sx := sx) hx hb hX hbl hBs hL hW (by omega) (by omega) dL_law_1337 ?_
  have hsx44 := hsx (ii + 2)
  refine lv_aload_n hx hb dL_law_1338 rfl (lv_at hl 3 rfl) ?_
  refine lv_iload_n hx hb dL_law_1339 rfl (lv_at hl 0 rfl) ?_
  refine tf_iconst hx hb dL_law_1340 ?_
  refine tf_iadd hx hb dL_law_1341 ?_
  refine lw_sld (sx := sx) hx hb hX hbl hBs hL hW (by omega) (by omega) dL_law_1342 ?_
  have hsx45 := hsx (ii + 3)
  refine lv_aload_n hx hb dL_law_1343 rfl (lv_at hl 3 rfl) ?_
  refine lv_iload_n hx hb dL_law_1344 rfl (lv_at hl 0 rfl) ?_
  refine tf_iconst hx hb dL_law_1345 ?_
  refine tf_iadd hx hb dL_law_1346 ?_
  refine lw_sld (sx := sx) hx hb hX hbl hBs hL hW (by omega) (by omega) dL_law_1347 ?_
  have hsx46 := hsx (ii + 4)
  refine lv_aload_n hx hb dL_law_1348 rfl (lv_at hl 3 rfl) ?_
  refine lv_iload_n hx hb dL_law_1349 rfl (lv_at hl 0 rfl) ?_
  refine tf_iconst hx hb dL_law_1350 ?_
  refine tf_iadd hx hb dL_law_1351 ?_
  refine lw_sld (sx := sx) hx hb hX hbl hBs hL hW (by omega) (by omega) dL_law_1352 ?_
  have hsx47 := hsx (ii + 5)
  refine tf_calli (va_runV (As := [.int (Int32.ofInt ((sx (ii + 1)))), .int (Int32.ofInt ((sx (ii + 2)))), .int (Int32.ofInt ((sx (ii + 3)))), .int (Int32.ofInt ((sx (ii + 4)))), .int (Int32.ofInt ((sx (ii + 5))))]) (rest := []) ⟨hx, hb, hml, hown, hts⟩ (c_X10_odds l g T am ham ((sx (ii + 1))) ⟨by omega, by omega⟩ ((sx (ii + 2))) ⟨by omega, by omega⟩ ((sx (ii + 3))) ⟨by omega, by omega⟩ ((sx (ii + 4))) ⟨by omega, by omega⟩ ((sx (ii + 5))) ⟨by omega, by omega⟩) (cwV 5 hts gv_L_155 rfl rfl rfl hd_X10_odds ⟨Nat.le_trans (by decide) hR1, Nat.le_trans (by decide) hR2⟩) (tf_preV hk hW ham (ci := 10) rfl rfl trivial) rfl rfl hl.1 rfl (lv_room (Nat.le_of_ble_eq_true rfl)) dL_law_1353 ⟨Nat.le_trans (by omega) hR3, Nat.le_trans (by omega) hR4⟩) hW (by decide) (fun z48 H48 locs48 hW hF48 hp48 => ?_)
  have hs49 := tf_keepF hF48 hax rfl rfl (by decide) hs7
  have hs50 := tf_keepF hF48 hax rfl rfl (by decide) hs8
  have hs51 := tf_keepF hF48 hax rfl rfl (by decide) hs9
  have hs52 := tf_keepF hF48 hax rfl rfl (by decide) hs10
  have hs53 := tf_keepF hF48 hax rfl rfl (by decide) hs11
  have hs54 := tf_keepF hF48 hax rfl rfl (by decide) hs12
  have hs55 := tf_keepF hF48 hax rfl rfl (by decide) hs13
  have hs56 := tf_keepF hF48 hax rfl rfl (by decide) hs14
  have hs57 := tf_keepF hF48 hsq rfl rfl (by decide) hs15
  have hs58 := tf_keepF hF48 hsq rfl rfl (by decide) hs16
  have hs59 := tf_keepF hF48 hsq rfl rfl (by decide) hs17
  have hs60 := tf_keepF hF48 hsq rfl rfl (by decide) hs18
  have hs61 := tf_keepF hF48 hsq rfl rfl (by decide) hs19
  have hs62 := tf_keepF hF48 hsq rfl rfl (by decide) hs20
  have hs63 := tf_keepC hF48 hlp rfl (by decide) hs21
  have hs64 := tf_keepC hF48 hlh rfl (by decide) hs22
  have hs65 := tf_keepC hF48 hyr rfl (by decide) hs23
  have hs66 := tf_keepC hF48 hwh rfl (by decide) hs24
  have hs67 := tf_keepC hF48 hta rfl (by decide) hs25
  have hs68 := tf_keepC hF48 hdh rfl (by decide) hs26
  have hs69 := tf_keepF hF48 ham rfl rfl (by decide) hs27
  have hs70 := tf_keepF hF48 ham rfl rfl (by decide) hs28
  have hs71 := tf_keepF hF48 ham rfl rfl (by decide) hs29
  have hs72 := tf_keepF hF48 ham rfl rfl (by decide) hs30
  have hs73 := tf_keepF hF48 ham rfl rfl (by decide) hs31
  have hs74 := tf_keepF hF48 ham rfl rfl (by decide) hs32
  have hs75 := tf_keepF hF48 ham rfl rfl (by decide) hs33
  have hs76 := tf_keepF hF48 ham rfl rfl (by decide) hs34
  have hs77 := tf_keepF hF48 ham rfl rfl (by decide) hs35
  have hs78 := tf_keepF hF48 ham rfl rfl (by decide) hs36
  have hs79 := tf_keepC hF48 hro rfl (by decide) hs37
  have hs80 := tf_keepC hF48 hiz rfl (by decide) hs38
  have hs81 := tf_keepC hF48 hkp rfl (by decide) hs39
  have hs82 := tf_keepC hF48 htm rfl (by decide) hs40
  have hs83 := tf_keepC hF48 hdw rfl (by decide) hs41
  have hs84 := tf_keepC hF48 hwd rfl (by decide) hs42
  have hI0 := tf_IS1_keep hF48 him (by decide) (by decide) hI0
  have hI1 := tf_IS2_keep hF48 him (by decide) (by decide) hI1
  obtain ⟨hp48_0, hp48_1⟩ := hp48
  refine lv_pop hx hb dL_law_1356 rfl ?_
  refine lv_goto (tgt := 1498) hx hb dL_law_1357 (by decide) ?_
  refine W.widen (k := 130 + 30 * jj) (n := 31200 + 1200 * jj) (by omega) (by omega) ?_
  exact hnx _ _ _ hW hax ham ⟨sq, im, ta, dh, lp, lh, yr, wh, ro, iz, kp, tm, dw, wd, (tt), (uu), (dd), (lm), (fo), (fp), gl, gh, gy, gw, tp, gd, rr, qq, rk, tq, gm, gW, hsq, him, hta, hdh, hlp, hlh, hyr, hwh, hro, hiz, hkp, htm, hdw, hwd, ⟨by omega, by omega⟩, ⟨by omega, by omega⟩, ⟨by omega, by omega⟩, ⟨by omega, by omega⟩, ⟨by omega, by omega⟩, ⟨by omega, by omega⟩, hs49, hs50, hs51, hs52, hs53, hs54, hs55, hs56, hs57, hs58, hs59, hs60, hs61, hs62, hs63, hs64, hs65, hs66, hs67, hs68, hs69, hs70, hs71, tf_eqv hs72 (by omega), hs73, tf_eqv hs74 (by omega), tf_eqv hs75 (by omega), hs76, hs77, tf_eqv hs78 (by omega), hs79, hs80, hs81, hs82, hs83, hs84, hRL, hDD, hTP, hWW, hLM, hI0, hI1⟩ _ (lv_sub hl [0, 1, 2, 3] rfl)

set_option maxHeartbeats 4000000 in
set_option maxRecDepth 100000 in
theorem lc_1360 {p : Program} {l : Launch} {e : Env} {s : State} {m : MethodId} {below : List Frame} {meth : Method} {c : Code} {b L : Nat} {g : tf_G} {sx : Int → Int} {Q : State → Prop} (E : lw_E p s m c b L g sx) (ax am jj : Nat) (ii : Int) (hii : ii = 6 * (jj : Int)) (hij : ii + 6 ≤ (L : Int)) (hnx : lw_nx p l e s m below meth c b g ax am jj ii Q) (T : tf_T) (H : Heap) (locs : List Loc) (hW : tf_n tf_kt g M_law (fun _ => none) s.heap T H locs) (hax : T ax = some (39, 0)) (ham : T am = some (63, 0)) (hI : lw_I g T H ax am) (ls : Array Slot) (hl : lv_has ls 4 [(3, .int (Int32.ofInt ii)), (2, .ref am), (1, .ref ax), (0, .ref b)]) : W p l e room_1 s m #[Value.ref b] below meth c H locs (100 + 30 * jj) (30000 + 1200 * jj) Q (F0 m 1360 ls []) := by
  obtain ⟨hx, hb, hml, hown, hts, hbl, hk, hBs, hsx, hX, hL⟩ := id E
  have hR1 := lw_R1
  have hR2 := lw_R2
  have hR3 := lw_R3
  have hR4 := lw_R4
  have hK := hk.1
  have hE : tf_E g T := trivial
  obtain ⟨sq, im, ta, dh, lp, lh, yr, wh, ro, iz, kp, tm, dw, wd, tt, uu, dd, lm, fo, fp, gl, gh, gy, gw, tp, gd, rr, qq, rk, tq, gm, gW, hsq, him, hta, hdh, hlp, hlh, hyr, hwh, hro, hiz, hkp, htm, hdw, hwd, htt, huu, hdd, hlm, hfo, hfp, hf0, hf1, hf2, hf3, hf4, hf5, hf6, hf7, hf8, hf9, hf10, hf11, hf12, hf13, hf14, hf15, hf16, hf17, hf18, hf19, hf20, hf21, hf22, hf23, hf24, hf25, hf26, hf27, hf28, hf29, hf30, hf31, hf32, hf33, hf34, hf35, hRL, hDD, hTP, hWW, hLM, hI0, hI1⟩ := hI
  have hWS : tf_WS gy gw := hRL.2.2
  refine lv_aload_n hx hb dL_law_1360 rfl (lv_at hl 2 rfl) ?_
  refine lv_aload_n hx hb dL_law_1361 rfl (lv_at hl 3 rfl) ?_
  refine lv_iload_n hx hb dL_law_1362 rfl (lv_at hl 0 rfl) ?_
  refine tf_iconst hx hb dL_law_1363 ?_
  refine tf_iadd hx hb dL_law_1364 ?_
  refine lw_sld (sx := sx) hx hb hX hbl hBs hL hW (by omega) (by omega) dL_law_1365 ?_
  have hsx1 := hsx (ii + 1)
  refine tf_calli (va_runV (As := [.int (Int32.ofInt ((sx (ii + 1))))]) (rest := []) ⟨hx, hb, hml, hown, hts⟩ (c_X9_day l g T ax hax ((sx (ii + 1))) ⟨by omega, by omega⟩ sq hsq yr hyr wh hwh dh hdh gy gw (dd) ⟨by omega, by omega⟩ gd (by first | assumption | omega) hE) (cwV 1 hts gv_L_156 rfl rfl rfl hd_X9_day ⟨Nat.le_trans (by decide) hR1, Nat.le_trans (by decide) hR2⟩) (tf_preV hk hW hax (ci := 9) rfl rfl ⟨hf0, hf10, hf11, hf16, hf17, hf6, hf7, hf19⟩) rfl rfl hl.1 rfl (lv_room (Nat.le_of_ble_eq_true rfl)) dL_law_1366 ⟨Nat.le_trans (by omega) hR3, Nat.le_trans (by omega) hR4⟩) hW (by decide) (fun z2 H2 locs2 hW hF2 hp2 => ?_)
  have hs3 := tf_keepF hF2 hax rfl rfl (by decide) hf0
  have hs4 := tf_keepF hF2 hax rfl rfl (by decide) hf1
  have hs5 := tf_keepF hF2 hax rfl rfl (by decide) hf2
  have hs6 := tf_keepF hF2 hax rfl rfl (by decide) hf3
  have hs7 := tf_keepF hF2 hax rfl rfl (by decide) hf4
  have hs8 := tf_keepF hF2 hax rfl rfl (by decide) hf5
  have hs9 := tf_keepF hF2 hax rfl rfl (by decide) hf6
  have hs10 := tf_keepF hF2 hsq rfl rfl (by decide) hf8
  have hs11 := tf_keepF hF2 hsq rfl rfl (by decide) hf9
  have hs12 := tf_keepF hF2 hsq rfl rfl (by decide) hf10
  have hs13 := tf_keepF hF2 hsq rfl rfl (by decide) hf11
  have hs14 := tf_keepF hF2 hsq rfl rfl (by decide) hf12
  have hs15 := tf_keepF hF2 hsq rfl rfl (by decide) hf13
  have hs16 := tf_keepC hF2 hlp rfl (by decide) hf14
  have hs17 := tf_keepC hF2 hlh rfl (by decide) hf15
  have hs18 := tf_keepC hF2 hyr rfl (by decide) hf16
  have hs19 := tf_keepC hF2 hwh rfl (by decide) hf17
  have hs20 := tf_keepC hF2 hta rfl (by decide) hf18
  have hs21 := tf_keepF hF2 ham rfl rfl (by decide) hf20
  have hs22 := tf_keepF hF2 ham rfl rfl (by decide) hf21
  have hs23 := tf_keepF hF2 ham rfl rfl (by decide) hf22
  have hs24 := tf_keepF hF2 ham rfl rfl (by decide) hf23
  have hs25 := tf_keepF hF2 ham rfl rfl (by decide) hf24
  have hs26 := tf_keepF hF2 ham rfl rfl (by decide) hf25
  have hs27 := tf_keepF hF2 ham rfl rfl (by decide) hf26
  have hs28 := tf_keepF hF2 ham rfl rfl (by decide) hf27
  have hs29 := tf_keepF hF2 ham rfl rfl (by decide) hf28
  have hs30 := tf_keepF hF2 ham rfl rfl (by decide) hf29
  have hs31 := tf_keepC hF2 hro rfl (by decide) hf30
  have hs32 := tf_keepC hF2 hiz rfl (by decide) hf31
  have hs33 := tf_keepC hF2 hkp rfl (by decide) hf32
  have hs34 := tf_keepC hF2 htm rfl (by decide) hf33
  have hs35 := tf_keepC hF2 hdw rfl (by decide) hf34
  have hs36 := tf_keepC hF2 hwd rfl (by decide) hf35
  have hI0 := tf_IS1_keep hF2 him (by decide) (by decide) hI0
  have hI1 := tf_IS2_keep hF2 him (by decide) (by decide) hI1
  obtain ⟨hp2_0, hp2_1, hp2_2⟩ := hp2
  obtain ⟨d1_2, gd1_2, hX2_0, hX2_1, hB2_0, hR2_0⟩ := hp2_2
  refine lv_pop hx hb dL_law_1369 rfl ?_
  refine lv_aload_n hx hb dL_law_1370 rfl (lv_at hl 1 rfl) ?_
  refine lv_aload_n hx hb dL_law_1371 rfl (lv_at hl 3 rfl) ?_
  refine lv_iload_n hx hb dL_law_1372 rfl (lv_at hl 0 rfl) ?_
  refine tf_iconst hx hb dL_law_1373 ?_
  refine tf_iadd hx hb dL_law_1374 ?_
  refine lw_sld (sx := sx) hx hb hX hbl hBs hL hW (by omega) (by omega) dL_law_1375 ?_
  have hsx37 := hsx (ii + 1)
  refine tf_calli (va_runV (As := [.int (Int32.ofInt ((sx (ii + 1))))]) (rest := []) ⟨hx, hb, hml, hown, hts⟩ (c_X10_day l g T am ham ((sx (ii + 1))) ⟨by omega, by omega⟩ ro hro dw hdw rr (dd) ⟨by omega, by omega⟩ gm) (cwV 1 hts gv_L_159 rfl rfl rfl hd_X10_day ⟨Nat.le_trans (by decide) hR1, Nat.le_trans (by decide) hR2⟩) (tf_preV hk hW ham (ci := 10) rfl rfl ⟨hs21, hs31, hs29, hs30, hs35⟩) rfl rfl hl.1 rfl (lv_room (Nat.le_of_ble_eq_true rfl)) dL_law_1376 ⟨Nat.le_trans (by omega) hR3, Nat.le_trans (by omega) hR4⟩) hW (by decide) (fun z38 H38 locs38 hW hF38 hp38 => ?_)
  have hs39 := tf_keepF hF38 hax rfl rfl (by decide) hs3
  have hs40 := tf_keepF hF38 hax rfl rfl (by decide) hs4
  have hs41 := tf_keepF hF38 hax rfl rfl (by decide) hs5
  have hs42 := tf_keepF hF38 hax rfl rfl (by decide) hs6
  have hs43 := tf_keepF hF38 hax rfl rfl (by decide) hs7
  have hs44 := tf_keepF hF38 hax rfl rfl (by decide) hs8
  have hs45 := tf_keepF hF38 hax rfl rfl (by decide) hs9
  have hs46 := tf_keepF hF38 hsq rfl rfl (by decide) hs10
  have hs47 := tf_keepF hF38 hsq rfl rfl (by decide) hs11
  have hs48 := tf_keepF hF38 hsq rfl rfl (by decide) hs12
  have hs49 := tf_keepF hF38 hsq rfl rfl (by decide) hs13
  have hs50 := tf_keepF hF38 hsq rfl rfl (by decide) hs14
  have hs51 := tf_keepF hF38 hsq rfl rfl (by decide) hs15
  have hs52 := tf_keepC hF38 hlp rfl (by decide) hs16
  have hs53 := tf_keepC hF38 hlh rfl (by decide) hs17
  have hs54 := tf_keepC hF38 hyr rfl (by decide) hs18
  have hs55 := tf_keepC hF38 hwh rfl (by decide) hs19
  have hs56 := tf_keepC hF38 hta rfl (by decide) hs20
  have hs57 := tf_keepF hF38 ham rfl rfl (by decide) hs21
  have hs58 := tf_keepF hF38 ham rfl rfl (by decide) hs22
  have hs59 := tf_keepF hF38 ham rfl rfl (by decide) hs23
  have hs60 := tf_keepF hF38 ham rfl rfl (by decide) hs24
  have hs61 := tf_keepF hF38 ham rfl rfl (by decide) hs25
  have hs62 := tf_keepF hF38 ham rfl rfl (by decide) hs26
  have hs63 := tf_keepF hF38 ham rfl rfl (by decide) hs27
  have hs64 := tf_keepF hF38 ham rfl rfl (by decide) hs28
  have hs65 := tf_keepF hF38 ham rfl rfl (by decide) hs29
  have hs66 := tf_keepC hF38 hro rfl (by decide) hs31
  have hs67 := tf_keepC hF38 hiz rfl (by decide) hs32
  have hs68 := tf_keepC hF38 hkp rfl (by decide) hs33
  have hs69 := tf_keepC hF38 htm rfl (by decide) hs34
  have hs70 := tf_keepC hF38 hwd rfl (by decide) hs36
  have hs71 := tf_keepF hF38 hax rfl rfl (by decide) hX2_0
  have hs72 := tf_keepC hF38 hdh rfl (by decide) hX2_1
  have hI0 := tf_IS1_keep hF38 him (by decide) (by decide) hI0
  have hI1 := tf_IS2_keep hF38 him (by decide) (by decide) hI1
  obtain ⟨hp38_0, hp38_1, hp38_2⟩ := hp38
  obtain ⟨d1_38, gd1_38, hX38_0, hX38_1, hB38_0, hR38_0⟩ := hp38_2
  obtain ⟨hdz, hDD⟩ := tf_day_eq hRL hDD hR2_0 hR38_0
  refine lv_pop hx hb dL_law_1379 rfl ?_
  refine lv_goto (tgt := 1498) hx hb dL_law_1380 (by decide) ?_
  refine W.widen (k := 130 + 30 * jj) (n := 31200 + 1200 * jj) (by omega) (by omega) ?_
  exact hnx _ _ _ hW hax ham ⟨sq, im, ta, dh, lp, lh, yr, wh, ro, iz, kp, tm, dw, wd, (tt), (uu), (d1_2), (lm), (fo), (fp), gl, gh, gy, gw, tp, gd1_2, rr, qq, rk, tq, gd1_38, gW, hsq, him, hta, hdh, hlp, hlh, hyr, hwh, hro, hiz, hkp, htm, hdw, hwd, ⟨by omega, by omega⟩, ⟨by omega, by omega⟩, ⟨by omega, by omega⟩, ⟨by omega, by omega⟩, ⟨by omega, by omega⟩, ⟨by omega, by omega⟩, hs39, hs40, hs41, hs42, hs43, hs44, hs45, hs71, hs46, hs47, hs48, hs49, hs50, hs51, hs52, hs53, hs54, hs55, hs56, hs72, hs57, hs58, hs59, tf_eqv hs60 (by omega), hs61, tf_eqv hs62 (by omega), tf_eqv hs63 (by omega), hs64, hs65, tf_eqv hX38_0 (by omega), hs66, hs67, hs68, hs69, hX38_1, hs70, hRL, hDD, hTP, hWW, hLM, hI0, hI1⟩ _ (lv_sub hl [0, 1, 2, 3] rfl)

set_option maxHeartbeats 4000000 in
set_option maxRecDepth 100000 in
theorem lc_1383 {p : Program} {l : Launch} {e : Env} {s : State} {m : MethodId} {below : List Frame} {meth : Method} {c : Code} {b L : Nat} {g : tf_G} {sx : Int → Int} {Q : State → Prop} (E : lw_E p s m c b L g sx) (ax am jj : Nat) (ii : Int) (hii : ii = 6 * (jj : Int)) (hij : ii + 6 ≤ (L : Int)) (hnx : lw_nx p l e s m below meth c b g ax am jj ii Q) (T : tf_T) (H : Heap) (locs : List Loc) (hW : tf_n tf_kt g M_law (fun _ => none) s.heap T H locs) (hax : T ax = some (39, 0)) (ham : T am = some (63, 0)) (hI : lw_I g T H ax am) (ls : Array Slot) (hl : lv_has ls 4 [(3, .int (Int32.ofInt ii)), (2, .ref am), (1, .ref ax), (0, .ref b)]) : W p l e room_1 s m #[Value.ref b] below meth c H locs (100 + 30 * jj) (30000 + 1200 * jj) Q (F0 m 1383 ls []) := by
  obtain ⟨hx, hb, hml, hown, hts, hbl, hk, hBs, hsx, hX, hL⟩ := id E
  have hR1 := lw_R1
  have hR2 := lw_R2
  have hR3 := lw_R3
  have hR4 := lw_R4
  have hK := hk.1
  have hE : tf_E g T := trivial
  obtain ⟨sq, im, ta, dh, lp, lh, yr, wh, ro, iz, kp, tm, dw, wd, tt, uu, dd, lm, fo, fp, gl, gh, gy, gw, tp, gd, rr, qq, rk, tq, gm, gW, hsq, him, hta, hdh, hlp, hlh, hyr, hwh, hro, hiz, hkp, htm, hdw, hwd, htt, huu, hdd, hlm, hfo, hfp, hf0, hf1, hf2, hf3, hf4, hf5, hf6, hf7, hf8, hf9, hf10, hf11, hf12, hf13, hf14, hf15, hf16, hf17, hf18, hf19, hf20, hf21, hf22, hf23, hf24, hf25, hf26, hf27, hf28, hf29, hf30, hf31, hf32, hf33, hf34, hf35, hRL, hDD, hTP, hWW, hLM, hI0, hI1⟩ := hI
  have hWS : tf_WS gy gw := hRL.2.2
  refine lv_aload_n hx hb dL_law_1383 rfl (lv_at hl 2 rfl) ?_
  refine lv_aload_n hx hb dL_law_1384 rfl (lv_at hl 3 rfl) ?_
  refine lv_iload_n hx hb dL_law_1385 rfl (lv_at hl 0 rfl) ?_
  refine tf_iconst hx hb dL_law_1386 ?_
  refine tf_iadd hx hb dL_law_1387 ?_
  refine lw_sld (sx := sx) hx hb hX hbl hBs hL hW (by omega) (by omega) dL_law_1388 ?_
  have hsx1 := hsx (ii + 1)
  refine lv_aload_n hx hb dL_law_1389 rfl (lv_at hl 3 rfl) ?_
  refine lv_iload_n hx hb dL_law_1390 rfl (lv_at hl 0 rfl) ?_
  refine tf_iconst hx hb dL_law_1391 ?_
  refine tf_iadd hx hb dL_law_1392 ?_
  refine lw_sld (sx := sx) hx hb hX hbl hBs hL hW (by omega) (by omega) dL_law_1393 ?_
  have hsx2 := hsx (ii + 2)
  refine tf_calli (va_runV (As := [.int (Int32.ofInt ((sx (ii + 1)))), .int (Int32.ofInt ((sx (ii + 2))))]) (rest := []) ⟨hx, hb, hml, hown, hts⟩ (c_X9_drawn l g T ax hax ((sx (ii + 1))) ⟨by omega, by omega⟩ ((sx (ii + 2))) ⟨by omega, by omega⟩ dh hdh (dd) ⟨by omega, by omega⟩ gd) (cwV 2 hts gv_L_160 rfl rfl rfl hd_X9_drawn ⟨Nat.le_trans (by decide) hR1, Nat.le_trans (by decide) hR2⟩) (tf_preV hk hW hax (ci := 9) rfl rfl ⟨hf6, hf7, hf19⟩) rfl rfl hl.1 rfl (lv_room (Nat.le_of_ble_eq_true rfl)) dL_law_1394 ⟨Nat.le_trans (by omega) hR3, Nat.le_trans (by omega) hR4⟩) hW (by decide) (fun z3 H3 locs3 hW hF3 hp3 => ?_)
  have hs4 := tf_keepF hF3 hax rfl rfl (by decide) hf0
  have hs5 := tf_keepF hF3 hax rfl rfl (by decide) hf1
  have hs6 := tf_keepF hF3 hax rfl rfl (by decide) hf2
  have hs7 := tf_keepF hF3 hax rfl rfl (by decide) hf3
  have hs8 := tf_keepF hF3 hax rfl rfl (by decide) hf4
  have hs9 := tf_keepF hF3 hax rfl rfl (by decide) hf5
  have hs10 := tf_keepF hF3 hax rfl rfl (by decide) hf6
  have hs11 := tf_keepF hF3 hax rfl rfl (by decide) hf7
  have hs12 := tf_keepF hF3 hsq rfl rfl (by decide) hf8
  have hs13 := tf_keepF hF3 hsq rfl rfl (by decide) hf9
  have hs14 := tf_keepF hF3 hsq rfl rfl (by decide) hf10
  have hs15 := tf_keepF hF3 hsq rfl rfl (by decide) hf11
  have hs16 := tf_keepF hF3 hsq rfl rfl (by decide) hf12
  have hs17 := tf_keepF hF3 hsq rfl rfl (by decide) hf13
  have hs18 := tf_keepC hF3 hlp rfl (by decide) hf14
  have hs19 := tf_keepC hF3 hlh rfl (by decide) hf15
  have hs20 := tf_keepC hF3 hyr rfl (by decide) hf16
  have hs21 := tf_keepC hF3 hwh rfl (by decide) hf17
  have hs22 := tf_keepC hF3 hta rfl (by decide) hf18
  have hs23 := tf_keepC hF3 hdh rfl (by decide) hf19
  have hs24 := tf_keepF hF3 ham rfl rfl (by decide) hf20
  have hs25 := tf_keepF hF3 ham rfl rfl (by decide) hf21
  have hs26 := tf_keepF hF3 ham rfl rfl (by decide) hf22
  have hs27 := tf_keepF hF3 ham rfl rfl (by decide) hf23
  have hs28 := tf_keepF hF3 ham rfl rfl (by decide) hf24
  have hs29 := tf_keepF hF3 ham rfl rfl (by decide) hf25
  have hs30 := tf_keepF hF3 ham rfl rfl (by decide) hf26
  have hs31 := tf_keepF hF3 ham rfl rfl (by decide) hf27
  have hs32 := tf_keepF hF3 ham rfl rfl (by decide) hf28
  have hs33 := tf_keepF hF3 ham rfl rfl (by decide) hf29
  have hs34 := tf_keepC hF3 hro rfl (by decide) hf30
  have hs35 := tf_keepC hF3 hiz rfl (by decide) hf31
  have hs36 := tf_keepC hF3 hkp rfl (by decide) hf32
  have hs37 := tf_keepC hF3 htm rfl (by decide) hf33
  have hs38 := tf_keepC hF3 hdw rfl (by decide) hf34
  have hs39 := tf_keepC hF3 hwd rfl (by decide) hf35
  have hI0 := tf_IS1_keep hF3 him (by decide) (by decide) hI0
  have hI1 := tf_IS2_keep hF3 him (by decide) (by decide) hI1
  obtain ⟨hp3_0, hp3_1, hp3_2⟩ := hp3
  refine lv_pop hx hb dL_law_1397 rfl ?_
  refine lv_aload_n hx hb dL_law_1398 rfl (lv_at hl 1 rfl) ?_
  refine lv_aload_n hx hb dL_law_1399 rfl (lv_at hl 3 rfl) ?_
  refine lv_iload_n hx hb dL_law_1400 rfl (lv_at hl 0 rfl) ?_
  refine tf_iconst hx hb dL_law_1401 ?_
  refine tf_iadd hx hb dL_law_1402 ?_
  refine lw_sld (sx := sx) hx hb hX hbl hBs hL hW (by omega) (by omega) dL_law_1403 ?_
  have hsx40 := hsx (ii + 1)
  refine lv_aload_n hx hb dL_law_1404 rfl (lv_at hl 3 rfl) ?_
  refine lv_iload_n hx hb dL_law_1405 rfl (lv_at hl 0 rfl) ?_
  refine tf_iconst hx hb dL_law_1406 ?_
  refine tf_iadd hx hb dL_law_1407 ?_
  refine lw_sld (sx := sx) hx hb hX hbl hBs hL hW (by omega) (by omega) dL_law_1408 ?_
  have hsx41 := hsx (ii + 2)
  refine tf_calli (va_runV (As := [.int (Int32.ofInt ((sx (ii + 1)))), .int (Int32.ofInt ((sx (ii + 2))))]) (rest := []) ⟨hx, hb, hml, hown, hts⟩ (c_X10_drawn l g T am ham ((sx (ii + 1))) ⟨by omega, by omega⟩ ((sx (ii + 2))) ⟨by omega, by omega⟩ dw hdw (dd) ⟨by omega, by omega⟩ gm) (cwV 2 hts gv_L_163 rfl rfl rfl hd_X10_drawn ⟨Nat.le_trans (by decide) hR1, Nat.le_trans (by decide) hR2⟩) (tf_preV hk hW ham (ci := 10) rfl rfl ⟨hs32, hs33, hs38⟩) rfl rfl hl.1 rfl (lv_room (Nat.le_of_ble_eq_true rfl)) dL_law_1409 ⟨Nat.le_trans (by omega) hR3, Nat.le_trans (by omega) hR4⟩) hW (by decide) (fun z42 H42 locs42 hW hF42 hp42 => ?_)
  have hs43 := tf_keepF hF42 hax rfl rfl (by decide) hs4
  have hs44 := tf_keepF hF42 hax rfl rfl (by decide) hs5
  have hs45 := tf_keepF hF42 hax rfl rfl (by decide) hs6
  have hs46 := tf_keepF hF42 hax rfl rfl (by decide) hs7
  have hs47 := tf_keepF hF42 hax rfl rfl (by decide) hs8
  have hs48 := tf_keepF hF42 hax rfl rfl (by decide) hs9
  have hs49 := tf_keepF hF42 hax rfl rfl (by decide) hs10
  have hs50 := tf_keepF hF42 hax rfl rfl (by decide) hs11
  have hs51 := tf_keepF hF42 hsq rfl rfl (by decide) hs12
  have hs52 := tf_keepF hF42 hsq rfl rfl (by decide) hs13
  have hs53 := tf_keepF hF42 hsq rfl rfl (by decide) hs14
  have hs54 := tf_keepF hF42 hsq rfl rfl (by decide) hs15
  have hs55 := tf_keepF hF42 hsq rfl rfl (by decide) hs16
  have hs56 := tf_keepF hF42 hsq rfl rfl (by decide) hs17
  have hs57 := tf_keepC hF42 hlp rfl (by decide) hs18
  have hs58 := tf_keepC hF42 hlh rfl (by decide) hs19
  have hs59 := tf_keepC hF42 hyr rfl (by decide) hs20
  have hs60 := tf_keepC hF42 hwh rfl (by decide) hs21
  have hs61 := tf_keepC hF42 hta rfl (by decide) hs22
  have hs62 := tf_keepC hF42 hdh rfl (by decide) hs23
  have hs63 := tf_keepF hF42 ham rfl rfl (by decide) hs24
  have hs64 := tf_keepF hF42 ham rfl rfl (by decide) hs25
  have hs65 := tf_keepF hF42 ham rfl rfl (by decide) hs26
  have hs66 := tf_keepF hF42 ham rfl rfl (by decide) hs27
  have hs67 := tf_keepF hF42 ham rfl rfl (by decide) hs28
  have hs68 := tf_keepF hF42 ham rfl rfl (by decide) hs29
  have hs69 := tf_keepF hF42 ham rfl rfl (by decide) hs30
  have hs70 := tf_keepF hF42 ham rfl rfl (by decide) hs31
  have hs71 := tf_keepF hF42 ham rfl rfl (by decide) hs32
  have hs72 := tf_keepF hF42 ham rfl rfl (by decide) hs33
  have hs73 := tf_keepC hF42 hro rfl (by decide) hs34
  have hs74 := tf_keepC hF42 hiz rfl (by decide) hs35
  have hs75 := tf_keepC hF42 hkp rfl (by decide) hs36
  have hs76 := tf_keepC hF42 htm rfl (by decide) hs37
  have hs77 := tf_keepC hF42 hdw rfl (by decide) hs38
  have hs78 := tf_keepC hF42 hwd rfl (by decide) hs39
  have hI0 := tf_IS1_keep hF42 him (by decide) (by decide) hI0
  have hI1 := tf_IS2_keep hF42 him (by decide) (by decide) hI1
  obtain ⟨hp42_0, hp42_1, hp42_2⟩ := hp42
  have hdx : 0 ≤ (sx (ii + 1)) → (sx (ii + 1)) ≤ 23 → gd (sx (ii + 1)) = gm (sx (ii + 1)) := fun a b => hDD _ a (by omega)
  refine lv_pop hx hb dL_law_1412 rfl ?_
  refine lv_goto (tgt := 1498) hx hb dL_law_1413 (by decide) ?_
  refine W.widen (k := 130 + 30 * jj) (n := 31200 + 1200 * jj) (by omega) (by omega) ?_
  exact hnx _ _ _ hW hax ham ⟨sq, im, ta, dh, lp, lh, yr, wh, ro, iz, kp, tm, dw, wd, (tt), (uu), (dd), (lm), (fo), (fp), gl, gh, gy, gw, tp, gd, rr, qq, rk, tq, gm, gW, hsq, him, hta, hdh, hlp, hlh, hyr, hwh, hro, hiz, hkp, htm, hdw, hwd, ⟨by omega, by omega⟩, ⟨by omega, by omega⟩, ⟨by omega, by omega⟩, ⟨by omega, by omega⟩, ⟨by omega, by omega⟩, ⟨by omega, by omega⟩, hs43, hs44, hs45, hs46, hs47, hs48, hs49, hs50, hs51, hs52, hs53, hs54, hs55, hs56, hs57, hs58, hs59, hs60, hs61, hs62, hs63, hs64, hs65, tf_eqv hs66 (by omega), hs67, tf_eqv hs68 (by omega), tf_eqv hs69 (by omega), hs70, hs71, tf_eqv hs72 (by omega), hs73, hs74, hs75, hs76, hs77, hs78, hRL, hDD, hTP, hWW, hLM, hI0, hI1⟩ _ (lv_sub hl [0, 1, 2, 3] rfl)

set_option maxHeartbeats 4000000 in
set_option maxRecDepth 100000 in
theorem lc_1416 {p : Program} {l : Launch} {e : Env} {s : State} {m : MethodId} {below : List Frame} {meth : Method} {c : Code} {b L : Nat} {g : tf_G} {sx : Int → Int} {Q : State → Prop} (E : lw_E p s m c b L g sx) (ax am jj : Nat) (ii : Int) (hii : ii = 6 * (jj : Int)) (hij : ii + 6 ≤ (L : Int)) (hnx : lw_nx p l e s m below meth c b g ax am jj ii Q) (T : tf_T) (H : Heap) (locs : List Loc) (hW : tf_n tf_kt g M_law (fun _ => none) s.heap T H locs) (hax : T ax = some (39, 0)) (ham : T am = some (63, 0)) (hI : lw_I g T H ax am) (ls : Array Slot) (hl : lv_has ls 4 [(3, .int (Int32.ofInt ii)), (2, .ref am), (1, .ref ax), (0, .ref b)]) : W p l e room_1 s m #[Value.ref b] below meth c H locs (100 + 30 * jj) (30000 + 1200 * jj) Q (F0 m 1416 ls []) := by
  obtain ⟨hx, hb, hml, hown, hts, hbl, hk, hBs, hsx, hX, hL⟩ := id E
  have hR1 := lw_R1
  have hR2 := lw_R2
  have hR3 := lw_R3
  have hR4 := lw_R4
  have hK := hk.1
  have hE : tf_E g T := trivial
  obtain ⟨sq, im, ta, dh, lp, lh, yr, wh, ro, iz, kp, tm, dw, wd, tt, uu, dd, lm, fo, fp, gl, gh, gy, gw, tp, gd, rr, qq, rk, tq, gm, gW, hsq, him, hta, hdh, hlp, hlh, hyr, hwh, hro, hiz, hkp, htm, hdw, hwd, htt, huu, hdd, hlm, hfo, hfp, hf0, hf1, hf2, hf3, hf4, hf5, hf6, hf7, hf8, hf9, hf10, hf11, hf12, hf13, hf14, hf15, hf16, hf17, hf18, hf19, hf20, hf21, hf22, hf23, hf24, hf25, hf26, hf27, hf28, hf29, hf30, hf31, hf32, hf33, hf34, hf35, hRL, hDD, hTP, hWW, hLM, hI0, hI1⟩ := hI
  have hWS : tf_WS gy gw := hRL.2.2
  refine lv_aload_n hx hb dL_law_1416 rfl (lv_at hl 2 rfl) ?_
  refine lv_aload_n hx hb dL_law_1417 rfl (lv_at hl 3 rfl) ?_
  refine lv_iload_n hx hb dL_law_1418 rfl (lv_at hl 0 rfl) ?_
  refine tf_iconst hx hb dL_law_1419 ?_
  refine tf_iadd hx hb dL_law_1420 ?_
  refine lw_sld (sx := sx) hx hb hX hbl hBs hL hW (by omega) (by omega) dL_law_1421 ?_
  have hsx1 := hsx (ii + 1)
  rcases (show (sx (ii + 1)) = 0 ∨ (sx (ii + 1)) = 1 ∨ ((sx (ii + 1)) < 0 ∨ 1 < (sx (ii + 1))) by omega) with hv | hv | hv
  · rcases id hI0 with ⟨hkk, hbn⟩ | ⟨hkk, ss, slp, slh, syr, swh, slm, sfo, hss, hslp, hslh, hsyr, hswh, hslm, hsfo, hb1, hb2, hb3, hb4, hb5, hb8, hb9, hbR, hbM⟩
    · obtain ⟨vo, hvo⟩ := tf_IS2_v hI1
      refine tf_callI (va_runV (As := [.int (Int32.ofInt ((sx (ii + 1))))]) (rest := []) ⟨hx, hb, hml, hown, hts⟩ (c_n0_X9_image l g T ax hax ((sx (ii + 1))) ⟨by omega, by omega⟩ sq hsq im him lp hlp lh hlh yr hyr wh hwh gl gh gy gw (vo) (lm) ⟨by omega, by omega⟩ (fo) ⟨by omega, by omega⟩) (cwV 1 hts gv_L_164 rfl rfl rfl hd_X9_image ⟨Nat.le_trans (by decide) hR1, Nat.le_trans (by decide) hR2⟩) (tf_preV hk hW hax (ci := 9) rfl rfl ⟨hf0, hf8, hf9, hf10, hf11, hf14, hf15, hf16, hf17, hf1, hbn, hvo, hf12, hf13⟩) rfl rfl hl.1 rfl (lv_room (Nat.le_of_ble_eq_true rfl)) dL_law_1422 ⟨Nat.le_trans (by omega) hR3, Nat.le_trans (by omega) hR4⟩) hW (by decide) (fun z2 H2 locs2 T hW hE2 hF2 hp2 => ?_)
      have hs3 := tf_keepF hF2 hax rfl rfl (by decide) hf0
      have hs4 := tf_keepF hF2 hax rfl rfl (by decide) hf1
      have hs5 := tf_keepF hF2 hax rfl rfl (by decide) hf2
      have hs6 := tf_keepF hF2 hax rfl rfl (by decide) hf3
      have hs7 := tf_keepF hF2 hax rfl rfl (by decide) hf4
      have hs8 := tf_keepF hF2 hax rfl rfl (by decide) hf5
      have hs9 := tf_keepF hF2 hax rfl rfl (by decide) hf6
      have hs10 := tf_keepF hF2 hax rfl rfl (by decide) hf7
      have hs11 := tf_keepF hF2 hsq rfl rfl (by decide) hf8
      have hs12 := tf_keepF hF2 hsq rfl rfl (by decide) hf9
      have hs13 := tf_keepF hF2 hsq rfl rfl (by decide) hf10
      have hs14 := tf_keepF hF2 hsq rfl rfl (by decide) hf11
      have hs15 := tf_keepF hF2 hsq rfl rfl (by decide) hf12
      have hs16 := tf_keepF hF2 hsq rfl rfl (by decide) hf13
      have hs17 := tf_keepC hF2 hlp rfl (by decide) hf14
      have hs18 := tf_keepC hF2 hlh rfl (by decide) hf15
      have hs19 := tf_keepC hF2 hyr rfl (by decide) hf16
      have hs20 := tf_keepC hF2 hwh rfl (by decide) hf17
      have hs21 := tf_keepC hF2 hta rfl (by decide) hf18
      have hs22 := tf_keepC hF2 hdh rfl (by decide) hf19
      have hs23 := tf_keepF hF2 ham rfl rfl (by decide) hf20
      have hs24 := tf_keepF hF2 ham rfl rfl (by decide) hf21
      have hs25 := tf_keepF hF2 ham rfl rfl (by decide) hf22
      have hs26 := tf_keepF hF2 ham rfl rfl (by decide) hf23
      have hs27 := tf_keepF hF2 ham rfl rfl (by decide) hf24
      have hs28 := tf_keepF hF2 ham rfl rfl (by decide) hf25
      have hs29 := tf_keepF hF2 ham rfl rfl (by decide) hf26
      have hs30 := tf_keepF hF2 ham rfl rfl (by decide) hf27
      have hs31 := tf_keepF hF2 ham rfl rfl (by decide) hf28
      have hs32 := tf_keepF hF2 ham rfl rfl (by decide) hf29
      have hs33 := tf_keepC hF2 hro rfl (by decide) hf30
      have hs34 := tf_keepC hF2 hiz rfl (by decide) hf31
      have hs35 := tf_keepC hF2 hkp rfl (by decide) hf32
      have hs36 := tf_keepC hF2 htm rfl (by decide) hf33
      have hs37 := tf_keepC hF2 hdw rfl (by decide) hf34
      have hs38 := tf_keepC hF2 hwd rfl (by decide) hf35
      have ham := hE2 _ _ ham
      have hax := hE2 _ _ hax
      have hsq := hE2 _ _ hsq
      have him := hE2 _ _ him
      have hta := hE2 _ _ hta
      have hdh := hE2 _ _ hdh
      have hlp := hE2 _ _ hlp
      have hlh := hE2 _ _ hlh
      have hyr := hE2 _ _ hyr
      have hwh := hE2 _ _ hwh
      have hro := hE2 _ _ hro
      have hiz := hE2 _ _ hiz
      have hkp := hE2 _ _ hkp
      have htm := hE2 _ _ htm
      have hwd := hE2 _ _ hwd
      have hdw := hE2 _ _ hdw
      have hE := hE.mono hE2
      obtain ⟨hp2_0, hp2_1, hp2_2⟩ := hp2
      obtain ⟨ss_2, slp_2, slh_2, syr_2, swh_2, hss_2, hslp_2, hslh_2, hsyr_2, hswh_2, hw2_0, hw2_1, hw2_2, hw2_3, hw2_4, hw2_5, hw2_6, hw2_7, hw2_8, hw2_9, hw2_10, hw2_11⟩ := hp2_2
      have hI0 : tf_IS1 g T _ im 1 rr := Or.inr ⟨rfl, ss_2, slp_2, slh_2, syr_2, swh_2, lm, fo, hss_2, hslp_2, hslh_2, hsyr_2, hswh_2, hlm, hfo, hw2_0, hw2_2, hw2_3, hw2_4, hw2_5, hw2_10, hw2_11, by rw [hw2_6, hw2_7, hw2_8, hw2_9]; exact hRL, hLM⟩
      have hI1 := tf_IS2_mono hE2 (tf_IS2_slot hF2 hvo hw2_1 (by decide) hI1)
      refine lv_pop hx hb dL_law_1425 rfl ?_
      refine lv_aload_n hx hb dL_law_1426 rfl (lv_at hl 1 rfl) ?_
      refine lv_aload_n hx hb dL_law_1427 rfl (lv_at hl 3 rfl) ?_
      refine lv_iload_n hx hb dL_law_1428 rfl (lv_at hl 0 rfl) ?_
      refine tf_iconst hx hb dL_law_1429 ?_
      refine tf_iadd hx hb dL_law_1430 ?_
      refine lw_sld (sx := sx) hx hb hX hbl hBs hL hW (by omega) (by omega) dL_law_1431 ?_
      have hsx39 := hsx (ii + 1)
      refine tf_calli (va_runV (As := [.int (Int32.ofInt ((sx (ii + 1))))]) (rest := []) ⟨hx, hb, hml, hown, hts⟩ (c_X10_image l g T am ham ((sx (ii + 1))) ⟨by omega, by omega⟩ ro hro iz hiz kp hkp rr qq rk) (cwV 1 hts gv_L_167 rfl rfl rfl hd_X10_image ⟨Nat.le_trans (by decide) hR1, Nat.le_trans (by decide) hR2⟩) (tf_preV hk hW ham (ci := 10) rfl rfl ⟨hs23, hs33, hs24, hs25, hs34, hs35⟩) rfl rfl hl.1 rfl (lv_room (Nat.le_of_ble_eq_true rfl)) dL_law_1432 ⟨Nat.le_trans (by omega) hR3, Nat.le_trans (by omega) hR4⟩) hW (by decide) (fun z40 H40 locs40 hW hF40 hp40 => ?_)
      have hs41 := tf_keepF hF40 hax rfl rfl (by decide) hs3
      have hs42 := tf_keepF hF40 hax rfl rfl (by decide) hs4
      have hs43 := tf_keepF hF40 hax rfl rfl (by decide) hs5
      have hs44 := tf_keepF hF40 hax rfl rfl (by decide) hs6
      have hs45 := tf_keepF hF40 hax rfl rfl (by decide) hs7
      have hs46 := tf_keepF hF40 hax rfl rfl (by decide) hs8
      have hs47 := tf_keepF hF40 hax rfl rfl (by decide) hs9
      have hs48 := tf_keepF hF40 hax rfl rfl (by decide) hs10
      have hs49 := tf_keepF hF40 hsq rfl rfl (by decide) hs11
      have hs50 := tf_keepF hF40 hsq rfl rfl (by decide) hs12
      have hs51 := tf_keepF hF40 hsq rfl rfl (by decide) hs13
      have hs52 := tf_keepF hF40 hsq rfl rfl (by decide) hs14
      have hs53 := tf_keepF hF40 hsq rfl rfl (by decide) hs15
      have hs54 := tf_keepF hF40 hsq rfl rfl (by decide) hs16
      have hs55 := tf_keepC hF40 hlp rfl (by decide) hs17
      have hs56 := tf_keepC hF40 hlh rfl (by decide) hs18
      have hs57 := tf_keepC hF40 hyr rfl (by decide) hs19
      have hs58 := tf_keepC hF40 hwh rfl (by decide) hs20
      have hs59 := tf_keepC hF40 hta rfl (by decide) hs21
      have hs60 := tf_keepC hF40 hdh rfl (by decide) hs22
      have hs61 := tf_keepF hF40 ham rfl rfl (by decide) hs23
      have hs62 := tf_keepF hF40 ham rfl rfl (by decide) hs24
      have hs63 := tf_keepF hF40 ham rfl rfl (by decide) hs25
      have hs64 := tf_keepF hF40 ham rfl rfl (by decide) hs26
      have hs65 := tf_keepF hF40 ham rfl rfl (by decide) hs27
      have hs66 := tf_keepF hF40 ham rfl rfl (by decide) hs28
      have hs67 := tf_keepF hF40 ham rfl rfl (by decide) hs29
      have hs68 := tf_keepF hF40 ham rfl rfl (by decide) hs30
      have hs69 := tf_keepF hF40 ham rfl rfl (by decide) hs31
      have hs70 := tf_keepF hF40 ham rfl rfl (by decide) hs32
      have hs71 := tf_keepC hF40 hro rfl (by decide) hs33
      have hs72 := tf_keepC hF40 htm rfl (by decide) hs36
      have hs73 := tf_keepC hF40 hdw rfl (by decide) hs37
      have hs74 := tf_keepC hF40 hwd rfl (by decide) hs38
      have hI0 := tf_IS1_keep hF40 him (by decide) (by decide) hI0
      have hI1 := tf_IS2_keep hF40 him (by decide) (by decide) hI1
      obtain ⟨hp40_0, hp40_1, hp40_2⟩ := hp40
      obtain ⟨q1_40, rk1_40, hX40_0, hX40_1, hR40_0⟩ := hp40_2
      obtain ⟨hzm, hq1, hk1⟩ : z40 = 0 ∧ tf_im qq rr ((sx (ii + 1))) 5830 q1_40 ∧ rk1_40 = tf_up rk ((sx (ii + 1))) 1 := by
        rcases hR40_0 with ⟨a, -⟩ | ⟨-, a, b, c⟩
        · omega
        · exact ⟨a, b, c⟩
      have hI0 := tf_IS1_to (kept2 := rk1_40 0) (q2 := tf_qk q1_40 0) hI0 (by rw [hk1, hv, tf_up_at]) (tf_im_at hq1 hv)
      have hI1 := tf_IS2_to (kept2 := rk1_40 1) (q2 := tf_qk q1_40 1) hI1 (by rw [hk1, hv, tf_up_ne (by omega)]) (tf_im_ne hq1 hv (by omega))
      refine lv_pop hx hb dL_law_1435 rfl ?_
      refine lv_goto (tgt := 1498) hx hb dL_law_1436 (by decide) ?_
      refine W.widen (k := 130 + 30 * jj) (n := 31200 + 1200 * jj) (by omega) (by omega) ?_
      exact hnx _ _ _ hW hax ham ⟨sq, im, ta, dh, lp, lh, yr, wh, ro, iz, kp, tm, dw, wd, (tt), (uu), (dd), (lm), (fo), (fp), gl, gh, gy, gw, tp, gd, rr, q1_40, rk1_40, tq, gm, gW, hsq, him, hta, hdh, hlp, hlh, hyr, hwh, hro, hiz, hkp, htm, hdw, hwd, ⟨by omega, by omega⟩, ⟨by omega, by omega⟩, ⟨by omega, by omega⟩, ⟨by omega, by omega⟩, ⟨by omega, by omega⟩, ⟨by omega, by omega⟩, hs41, hs42, hs43, hs44, hs45, hs46, hs47, hs48, hs49, hs50, hs51, hs52, hs53, hs54, hs55, hs56, hs57, hs58, hs59, hs60, hs61, hs62, hs63, tf_eqv hs64 (by omega), hs65, tf_eqv hs66 (by omega), tf_eqv hs67 (by omega), hs68, hs69, tf_eqv hs70 (by omega), hs71, hX40_0, hX40_1, hs72, hs73, hs74, hRL, hDD, hTP, hWW, hLM, hI0, hI1⟩ _ (lv_sub hl [0, 1, 2, 3] rfl)
    · obtain ⟨sgl, hsgl⟩ := tf_rname hW slp
      obtain ⟨sgh, hsgh⟩ := tf_rname hW slh
      obtain ⟨sgy, hsgy⟩ := tf_rname hW syr
      obtain ⟨sgw, hsgw⟩ := tf_rname hW swh
      rw [hsgl, hsgh, hsgy, hsgw] at hbR
      refine tf_calli (va_runV (As := [.int (Int32.ofInt ((sx (ii + 1))))]) (rest := []) ⟨hx, hb, hml, hown, hts⟩ (c_s0_X9_image l g T ax hax ((sx (ii + 1))) ⟨by omega, by omega⟩ sq hsq im him lp hlp lh hlh yr hyr wh hwh ss hss slp hslp slh hslh syr hsyr swh hswh gl gh gy gw sgl sgh sgy sgw (lm) ⟨by omega, by omega⟩ (fo) ⟨by omega, by omega⟩) (cwV 1 hts gv_L_164 rfl rfl rfl hd_X9_image ⟨Nat.le_trans (by decide) hR1, Nat.le_trans (by decide) hR2⟩) (tf_preV hk hW hax (ci := 9) rfl rfl ⟨hf0, hf8, hf9, hf10, hf11, hf14, hf15, hf16, hf17, hf1, hb1, hb2, hb3, hb4, hb5, hsgl, hsgh, hsgy, hsgw, hf12, hf13⟩) rfl rfl hl.1 rfl (lv_room (Nat.le_of_ble_eq_true rfl)) dL_law_1422 ⟨Nat.le_trans (by omega) hR3, Nat.le_trans (by omega) hR4⟩) hW (by decide) (fun z75 H75 locs75 hW hF75 hp75 => ?_)
      have hs76 := tf_keepF hF75 hax rfl rfl (by decide) hf0
      have hs77 := tf_keepF hF75 hax rfl rfl (by decide) hf1
      have hs78 := tf_keepF hF75 hax rfl rfl (by decide) hf2
      have hs79 := tf_keepF hF75 hax rfl rfl (by decide) hf3
      have hs80 := tf_keepF hF75 hax rfl rfl (by decide) hf4
      have hs81 := tf_keepF hF75 hax rfl rfl (by decide) hf5
      have hs82 := tf_keepF hF75 hax rfl rfl (by decide) hf6
      have hs83 := tf_keepF hF75 hax rfl rfl (by decide) hf7
      have hs84 := tf_keepF hF75 hsq rfl rfl (by decide) hf8
      have hs85 := tf_keepF hF75 hsq rfl rfl (by decide) hf9
      have hs86 := tf_keepF hF75 hsq rfl rfl (by decide) hf10
      have hs87 := tf_keepF hF75 hsq rfl rfl (by decide) hf11
      have hs88 := tf_keepF hF75 hsq rfl rfl (by decide) hf12
      have hs89 := tf_keepF hF75 hsq rfl rfl (by decide) hf13
      have hs90 := tf_keepC hF75 hlp rfl (by decide) hf14
      have hs91 := tf_keepC hF75 hlh rfl (by decide) hf15
      have hs92 := tf_keepC hF75 hyr rfl (by decide) hf16
      have hs93 := tf_keepC hF75 hwh rfl (by decide) hf17
      have hs94 := tf_keepC hF75 hta rfl (by decide) hf18
      have hs95 := tf_keepC hF75 hdh rfl (by decide) hf19
      have hs96 := tf_keepF hF75 ham rfl rfl (by decide) hf20
      have hs97 := tf_keepF hF75 ham rfl rfl (by decide) hf21
      have hs98 := tf_keepF hF75 ham rfl rfl (by decide) hf22
      have hs99 := tf_keepF hF75 ham rfl rfl (by decide) hf23
      have hs100 := tf_keepF hF75 ham rfl rfl (by decide) hf24
      have hs101 := tf_keepF hF75 ham rfl rfl (by decide) hf25
      have hs102 := tf_keepF hF75 ham rfl rfl (by decide) hf26
      have hs103 := tf_keepF hF75 ham rfl rfl (by decide) hf27
      have hs104 := tf_keepF hF75 ham rfl rfl (by decide) hf28
      have hs105 := tf_keepF hF75 ham rfl rfl (by decide) hf29
      have hs106 := tf_keepC hF75 hro rfl (by decide) hf30
      have hs107 := tf_keepC hF75 hiz rfl (by decide) hf31
      have hs108 := tf_keepC hF75 hkp rfl (by decide) hf32
      have hs109 := tf_keepC hF75 htm rfl (by decide) hf33
      have hs110 := tf_keepC hF75 hdw rfl (by decide) hf34
      have hs111 := tf_keepC hF75 hwd rfl (by decide) hf35
      have hs112 := tf_keepS hF75 him rfl (by decide) hb1
      have hs113 := tf_keepF hF75 hss rfl rfl (by decide) hb2
      have hs114 := tf_keepF hF75 hss rfl rfl (by decide) hb3
      have hs115 := tf_keepF hF75 hss rfl rfl (by decide) hb4
      have hs116 := tf_keepF hF75 hss rfl rfl (by decide) hb5
      have hI1 := tf_IS2_keep hF75 him (by decide) (by decide) hI1
      obtain ⟨hp75_0, hp75_1, hp75_2⟩ := hp75
      obtain ⟨hw75_0, hw75_1, hw75_2, hw75_3, hw75_4, hw75_5⟩ := hp75_2
      have hI0 : tf_IS1 g T _ im 1 rr := Or.inr ⟨rfl, ss, slp, slh, syr, swh, lm, fo, hss, hslp, hslh, hsyr, hswh, hlm, hfo, hs112, hs113, hs114, hs115, hs116, hw75_4, hw75_5, by rw [hw75_0, hw75_1, hw75_2, hw75_3]; exact hRL, hLM⟩
      refine lv_pop hx hb dL_law_1425 rfl ?_
      refine lv_aload_n hx hb dL_law_1426 rfl (lv_at hl 1 rfl) ?_
      refine lv_aload_n hx hb dL_law_1427 rfl (lv_at hl 3 rfl) ?_
      refine lv_iload_n hx hb dL_law_1428 rfl (lv_at hl 0 rfl) ?_
      refine tf_iconst hx hb dL_law_1429 ?_
      refine tf_iadd hx hb dL_law_1430 ?_
      refine lw_sld (sx := sx) hx hb hX hbl hBs hL hW (by omega) (by omega) dL_law_1431 ?_
      have hsx117 := hsx (ii + 1)
      refine tf_calli (va_runV (As := [.int (Int32.ofInt ((sx (ii + 1))))]) (rest := []) ⟨hx, hb, hml, hown, hts⟩ (c_X10_image l g T am ham ((sx (ii + 1))) ⟨by omega, by omega⟩ ro hro iz hiz kp hkp rr qq rk) (cwV 1 hts gv_L_167 rfl rfl rfl hd_X10_image ⟨Nat.le_trans (by decide) hR1, Nat.le_trans (by decide) hR2⟩) (tf_preV hk hW ham (ci := 10) rfl rfl ⟨hs96, hs106, hs97, hs98, hs107, hs108⟩) rfl rfl hl.1 rfl (lv_room (Nat.le_of_ble_eq_true rfl)) dL_law_1432 ⟨Nat.le_trans (by omega) hR3, Nat.le_trans (by omega) hR4⟩) hW (by decide) (fun z118 H118 locs118 hW hF118 hp118 => ?_)
      have hs119 := tf_keepF hF118 hax rfl rfl (by decide) hs76
      have hs120 := tf_keepF hF118 hax rfl rfl (by decide) hs77
      have hs121 := tf_keepF hF118 hax rfl rfl (by decide) hs78
      have hs122 := tf_keepF hF118 hax rfl rfl (by decide) hs79
      have hs123 := tf_keepF hF118 hax rfl rfl (by decide) hs80
      have hs124 := tf_keepF hF118 hax rfl rfl (by decide) hs81
      have hs125 := tf_keepF hF118 hax rfl rfl (by decide) hs82
      have hs126 := tf_keepF hF118 hax rfl rfl (by decide) hs83
      have hs127 := tf_keepF hF118 hsq rfl rfl (by decide) hs84
      have hs128 := tf_keepF hF118 hsq rfl rfl (by decide) hs85
      have hs129 := tf_keepF hF118 hsq rfl rfl (by decide) hs86
      have hs130 := tf_keepF hF118 hsq rfl rfl (by decide) hs87
      have hs131 := tf_keepF hF118 hsq rfl rfl (by decide) hs88
      have hs132 := tf_keepF hF118 hsq rfl rfl (by decide) hs89
      have hs133 := tf_keepC hF118 hlp rfl (by decide) hs90
      have hs134 := tf_keepC hF118 hlh rfl (by decide) hs91
      have hs135 := tf_keepC hF118 hyr rfl (by decide) hs92
      have hs136 := tf_keepC hF118 hwh rfl (by decide) hs93
      have hs137 := tf_keepC hF118 hta rfl (by decide) hs94
      have hs138 := tf_keepC hF118 hdh rfl (by decide) hs95
      have hs139 := tf_keepF hF118 ham rfl rfl (by decide) hs96
      have hs140 := tf_keepF hF118 ham rfl rfl (by decide) hs97
      have hs141 := tf_keepF hF118 ham rfl rfl (by decide) hs98
      have hs142 := tf_keepF hF118 ham rfl rfl (by decide) hs99
      have hs143 := tf_keepF hF118 ham rfl rfl (by decide) hs100
      have hs144 := tf_keepF hF118 ham rfl rfl (by decide) hs101
      have hs145 := tf_keepF hF118 ham rfl rfl (by decide) hs102
      have hs146 := tf_keepF hF118 ham rfl rfl (by decide) hs103
      have hs147 := tf_keepF hF118 ham rfl rfl (by decide) hs104
      have hs148 := tf_keepF hF118 ham rfl rfl (by decide) hs105
      have hs149 := tf_keepC hF118 hro rfl (by decide) hs106
      have hs150 := tf_keepC hF118 htm rfl (by decide) hs109
      have hs151 := tf_keepC hF118 hdw rfl (by decide) hs110
      have hs152 := tf_keepC hF118 hwd rfl (by decide) hs111
      have hI0 := tf_IS1_keep hF118 him (by decide) (by decide) hI0
      have hI1 := tf_IS2_keep hF118 him (by decide) (by decide) hI1
      obtain ⟨hp118_0, hp118_1, hp118_2⟩ := hp118
      obtain ⟨q1_118, rk1_118, hX118_0, hX118_1, hR118_0⟩ := hp118_2
      obtain ⟨hzm, hq1, hk1⟩ : z118 = 0 ∧ tf_im qq rr ((sx (ii + 1))) 5830 q1_118 ∧ rk1_118 = tf_up rk ((sx (ii + 1))) 1 := by
        rcases hR118_0 with ⟨a, -⟩ | ⟨-, a, b, c⟩
        · omega
        · exact ⟨a, b, c⟩
      have hI0 := tf_IS1_to (kept2 := rk1_118 0) (q2 := tf_qk q1_118 0) hI0 (by rw [hk1, hv, tf_up_at]) (tf_im_at hq1 hv)
      have hI1 := tf_IS2_to (kept2 := rk1_118 1) (q2 := tf_qk q1_118 1) hI1 (by rw [hk1, hv, tf_up_ne (by omega)]) (tf_im_ne hq1 hv (by omega))
      refine lv_pop hx hb dL_law_1435 rfl ?_
      refine lv_goto (tgt := 1498) hx hb dL_law_1436 (by decide) ?_
      refine W.widen (k := 130 + 30 * jj) (n := 31200 + 1200 * jj) (by omega) (by omega) ?_
      exact hnx _ _ _ hW hax ham ⟨sq, im, ta, dh, lp, lh, yr, wh, ro, iz, kp, tm, dw, wd, (tt), (uu), (dd), (lm), (fo), (fp), gl, gh, gy, gw, tp, gd, rr, q1_118, rk1_118, tq, gm, gW, hsq, him, hta, hdh, hlp, hlh, hyr, hwh, hro, hiz, hkp, htm, hdw, hwd, ⟨by omega, by omega⟩, ⟨by omega, by omega⟩, ⟨by omega, by omega⟩, ⟨by omega, by omega⟩, ⟨by omega, by omega⟩, ⟨by omega, by omega⟩, hs119, hs120, hs121, hs122, hs123, hs124, hs125, hs126, hs127, hs128, hs129, hs130, hs131, hs132, hs133, hs134, hs135, hs136, hs137, hs138, hs139, hs140, hs141, tf_eqv hs142 (by omega), hs143, tf_eqv hs144 (by omega), tf_eqv hs145 (by omega), hs146, hs147, tf_eqv hs148 (by omega), hs149, hX118_0, hX118_1, hs150, hs151, hs152, hRL, hDD, hTP, hWW, hLM, hI0, hI1⟩ _ (lv_sub hl [0, 1, 2, 3] rfl)
  · rcases id hI1 with ⟨hkk, hbn⟩ | ⟨hkk, ss, slp, slh, syr, swh, slm, sfo, hss, hslp, hslh, hsyr, hswh, hslm, hsfo, hb1, hb2, hb3, hb4, hb5, hb8, hb9, hbR, hbM⟩
    · obtain ⟨vo, hvo⟩ := tf_IS1_v hI0
      refine tf_callI (va_runV (As := [.int (Int32.ofInt ((sx (ii + 1))))]) (rest := []) ⟨hx, hb, hml, hown, hts⟩ (c_n1_X9_image l g T ax hax ((sx (ii + 1))) ⟨by omega, by omega⟩ sq hsq im him lp hlp lh hlh yr hyr wh hwh gl gh gy gw (vo) (lm) ⟨by omega, by omega⟩ (fo) ⟨by omega, by omega⟩) (cwV 1 hts gv_L_164 rfl rfl rfl hd_X9_image ⟨Nat.le_trans (by decide) hR1, Nat.le_trans (by decide) hR2⟩) (tf_preV hk hW hax (ci := 9) rfl rfl ⟨hf0, hf8, hf9, hf10, hf11, hf14, hf15, hf16, hf17, hf1, hbn, hvo, hf12, hf13⟩) rfl rfl hl.1 rfl (lv_room (Nat.le_of_ble_eq_true rfl)) dL_law_1422 ⟨Nat.le_trans (by omega) hR3, Nat.le_trans (by omega) hR4⟩) hW (by decide) (fun z153 H153 locs153 T hW hE153 hF153 hp153 => ?_)
      have hs154 := tf_keepF hF153 hax rfl rfl (by decide) hf0
      have hs155 := tf_keepF hF153 hax rfl rfl (by decide) hf1
      have hs156 := tf_keepF hF153 hax rfl rfl (by decide) hf2
      have hs157 := tf_keepF hF153 hax rfl rfl (by decide) hf3
      have hs158 := tf_keepF hF153 hax rfl rfl (by decide) hf4
      have hs159 := tf_keepF hF153 hax rfl rfl (by decide) hf5
      have hs160 := tf_keepF hF153 hax rfl rfl (by decide) hf6
      have hs161 := tf_keepF hF153 hax rfl rfl (by decide) hf7
      have hs162 := tf_keepF hF153 hsq rfl rfl (by decide) hf8
      have hs163 := tf_keepF hF153 hsq rfl rfl (by decide) hf9
      have hs164 := tf_keepF hF153 hsq rfl rfl (by decide) hf10
      have hs165 := tf_keepF hF153 hsq rfl rfl (by decide) hf11
      have hs166 := tf_keepF hF153 hsq rfl rfl (by decide) hf12
      have hs167 := tf_keepF hF153 hsq rfl rfl (by decide) hf13
      have hs168 := tf_keepC hF153 hlp rfl (by decide) hf14
      have hs169 := tf_keepC hF153 hlh rfl (by decide) hf15
      have hs170 := tf_keepC hF153 hyr rfl (by decide) hf16
      have hs171 := tf_keepC hF153 hwh rfl (by decide) hf17
      have hs172 := tf_keepC hF153 hta rfl (by decide) hf18
      have hs173 := tf_keepC hF153 hdh rfl (by decide) hf19
      have hs174 := tf_keepF hF153 ham rfl rfl (by decide) hf20
      have hs175 := tf_keepF hF153 ham rfl rfl (by decide) hf21
      have hs176 := tf_keepF hF153 ham rfl rfl (by decide) hf22
      have hs177 := tf_keepF hF153 ham rfl rfl (by decide) hf23
      have hs178 := tf_keepF hF153 ham rfl rfl (by decide) hf24
      have hs179 := tf_keepF hF153 ham rfl rfl (by decide) hf25
      have hs180 := tf_keepF hF153 ham rfl rfl (by decide) hf26
      have hs181 := tf_keepF hF153 ham rfl rfl (by decide) hf27
      have hs182 := tf_keepF hF153 ham rfl rfl (by decide) hf28
      have hs183 := tf_keepF hF153 ham rfl rfl (by decide) hf29
      have hs184 := tf_keepC hF153 hro rfl (by decide) hf30
      have hs185 := tf_keepC hF153 hiz rfl (by decide) hf31
      have hs186 := tf_keepC hF153 hkp rfl (by decide) hf32
      have hs187 := tf_keepC hF153 htm rfl (by decide) hf33
      have hs188 := tf_keepC hF153 hdw rfl (by decide) hf34
      have hs189 := tf_keepC hF153 hwd rfl (by decide) hf35
      have ham := hE153 _ _ ham
      have hax := hE153 _ _ hax
      have hsq := hE153 _ _ hsq
      have him := hE153 _ _ him
      have hta := hE153 _ _ hta
      have hdh := hE153 _ _ hdh
      have hlp := hE153 _ _ hlp
      have hlh := hE153 _ _ hlh
      have hyr := hE153 _ _ hyr
      have hwh := hE153 _ _ hwh
      have hro := hE153 _ _ hro
      have hiz := hE153 _ _ hiz
      have hkp := hE153 _ _ hkp
      have htm := hE153 _ _ htm
      have hwd := hE153 _ _ hwd
      have hdw := hE153 _ _ hdw
      have hE := hE.mono hE153
      obtain ⟨hp153_0, hp153_1, hp153_2⟩ := hp153
      obtain ⟨ss_153, slp_153, slh_153, syr_153, swh_153, hss_153, hslp_153, hslh_153, hsyr_153, hswh_153, hw153_0, hw153_1, hw153_2, hw153_3, hw153_4, hw153_5, hw153_6, hw153_7, hw153_8, hw153_9, hw153_10, hw153_11⟩ := hp153_2
      have hI1 : tf_IS2 g T _ im 1 rr := Or.inr ⟨rfl, ss_153, slp_153, slh_153, syr_153, swh_153, lm, fo, hss_153, hslp_153, hslh_153, hsyr_153, hswh_153, hlm, hfo, hw153_0, hw153_2, hw153_3, hw153_4, hw153_5, hw153_10, hw153_11, by rw [hw153_6, hw153_7, hw153_8, hw153_9]; exact hRL, hLM⟩
      have hI0 := tf_IS1_mono hE153 (tf_IS1_slot hF153 hvo hw153_1 (by decide) hI0)
      refine lv_pop hx hb dL_law_1425 rfl ?_
      refine lv_aload_n hx hb dL_law_1426 rfl (lv_at hl 1 rfl) ?_
      refine lv_aload_n hx hb dL_law_1427 rfl (lv_at hl 3 rfl) ?_
      refine lv_iload_n hx hb dL_law_1428 rfl (lv_at hl 0 rfl) ?_
      refine tf_iconst hx hb dL_law_1429 ?_
      refine tf_iadd hx hb dL_law_1430 ?_
      refine lw_sld (sx := sx) hx hb hX hbl hBs hL hW (by omega) (by omega) dL_law_1431 ?_
      have hsx190 := hsx (ii + 1)
      refine tf_calli (va_runV (As := [.int (Int32.ofInt ((sx (ii + 1))))]) (rest := []) ⟨hx, hb, hml, hown, hts⟩ (c_X10_image l g T am ham ((sx (ii + 1))) ⟨by omega, by omega⟩ ro hro iz hiz kp hkp rr qq rk) (cwV 1 hts gv_L_167 rfl rfl rfl hd_X10_image ⟨Nat.le_trans (by decide) hR1, Nat.le_trans (by decide) hR2⟩) (tf_preV hk hW ham (ci := 10) rfl rfl ⟨hs174, hs184, hs175, hs176, hs185, hs186⟩) rfl rfl hl.1 rfl (lv_room (Nat.le_of_ble_eq_true rfl)) dL_law_1432 ⟨Nat.le_trans (by omega) hR3, Nat.le_trans (by omega) hR4⟩) hW (by decide) (fun z191 H191 locs191 hW hF191 hp191 => ?_)
      have hs192 := tf_keepF hF191 hax rfl rfl (by decide) hs154
      have hs193 := tf_keepF hF191 hax rfl rfl (by decide) hs155
      have hs194 := tf_keepF hF191 hax rfl rfl (by decide) hs156
      have hs195 := tf_keepF hF191 hax rfl rfl (by decide) hs157
      have hs196 := tf_keepF hF191 hax rfl rfl (by decide) hs158
      have hs197 := tf_keepF hF191 hax rfl rfl (by decide) hs159
      have hs198 := tf_keepF hF191 hax rfl rfl (by decide) hs160
      have hs199 := tf_keepF hF191 hax rfl rfl (by decide) hs161
      have hs200 := tf_keepF hF191 hsq rfl rfl (by decide) hs162
      have hs201 := tf_keepF hF191 hsq rfl rfl (by decide) hs163
      have hs202 := tf_keepF hF191 hsq rfl rfl (by decide) hs164
      have hs203 := tf_keepF hF191 hsq rfl rfl (by decide) hs165
      have hs204 := tf_keepF hF191 hsq rfl rfl (by decide) hs166
      have hs205 := tf_keepF hF191 hsq rfl rfl (by decide) hs167
      have hs206 := tf_keepC hF191 hlp rfl (by decide) hs168
      have hs207 := tf_keepC hF191 hlh rfl (by decide) hs169
      have hs208 := tf_keepC hF191 hyr rfl (by decide) hs170
      have hs209 := tf_keepC hF191 hwh rfl (by decide) hs171
      have hs210 := tf_keepC hF191 hta rfl (by decide) hs172
      have hs211 := tf_keepC hF191 hdh rfl (by decide) hs173
      have hs212 := tf_keepF hF191 ham rfl rfl (by decide) hs174
      have hs213 := tf_keepF hF191 ham rfl rfl (by decide) hs175
      have hs214 := tf_keepF hF191 ham rfl rfl (by decide) hs176
      have hs215 := tf_keepF hF191 ham rfl rfl (by decide) hs177
      have hs216 := tf_keepF hF191 ham rfl rfl (by decide) hs178
      have hs217 := tf_keepF hF191 ham rfl rfl (by decide) hs179
      have hs218 := tf_keepF hF191 ham rfl rfl (by decide) hs180
      have hs219 := tf_keepF hF191 ham rfl rfl (by decide) hs181
      have hs220 := tf_keepF hF191 ham rfl rfl (by decide) hs182
      have hs221 := tf_keepF hF191 ham rfl rfl (by decide) hs183
      have hs222 := tf_keepC hF191 hro rfl (by decide) hs184
      have hs223 := tf_keepC hF191 htm rfl (by decide) hs187
      have hs224 := tf_keepC hF191 hdw rfl (by decide) hs188
      have hs225 := tf_keepC hF191 hwd rfl (by decide) hs189
      have hI0 := tf_IS1_keep hF191 him (by decide) (by decide) hI0
      have hI1 := tf_IS2_keep hF191 him (by decide) (by decide) hI1
      obtain ⟨hp191_0, hp191_1, hp191_2⟩ := hp191
      obtain ⟨q1_191, rk1_191, hX191_0, hX191_1, hR191_0⟩ := hp191_2
      obtain ⟨hzm, hq1, hk1⟩ : z191 = 0 ∧ tf_im qq rr ((sx (ii + 1))) 5830 q1_191 ∧ rk1_191 = tf_up rk ((sx (ii + 1))) 1 := by
        rcases hR191_0 with ⟨a, -⟩ | ⟨-, a, b, c⟩
        · omega
        · exact ⟨a, b, c⟩
      have hI1 := tf_IS2_to (kept2 := rk1_191 1) (q2 := tf_qk q1_191 1) hI1 (by rw [hk1, hv, tf_up_at]) (tf_im_at hq1 hv)
      have hI0 := tf_IS1_to (kept2 := rk1_191 0) (q2 := tf_qk q1_191 0) hI0 (by rw [hk1, hv, tf_up_ne (by omega)]) (tf_im_ne hq1 hv (by omega))
      refine lv_pop hx hb dL_law_1435 rfl ?_
      refine lv_goto (tgt := 1498) hx hb dL_law_1436 (by decide) ?_
      refine W.widen (k := 130 + 30 * jj) (n := 31200 + 1200 * jj) (by omega) (by omega) ?_
      exact hnx _ _ _ hW hax ham ⟨sq, im, ta, dh, lp, lh, yr, wh, ro, iz, kp, tm, dw, wd, (tt), (uu), (dd), (lm), (fo), (fp), gl, gh, gy, gw, tp, gd, rr, q1_191, rk1_191, tq, gm, gW, hsq, him, hta, hdh, hlp, hlh, hyr, hwh, hro, hiz, hkp, htm, hdw, hwd, ⟨by omega, by omega⟩, ⟨by omega, by omega⟩, ⟨by omega, by omega⟩, ⟨by omega, by omega⟩, ⟨by omega, by omega⟩, ⟨by omega, by omega⟩, hs192, hs193, hs194, hs195, hs196, hs197, hs198, hs199, hs200, hs201, hs202, hs203, hs204, hs205, hs206, hs207, hs208, hs209, hs210, hs211, hs212, hs213, hs214, tf_eqv hs215 (by omega), hs216, tf_eqv hs217 (by omega), tf_eqv hs218 (by omega), hs219, hs220, tf_eqv hs221 (by omega), hs222, hX191_0, hX191_1, hs223, hs224, hs225, hRL, hDD, hTP, hWW, hLM, hI0, hI1⟩ _ (lv_sub hl [0, 1, 2, 3] rfl)
    · obtain ⟨sgl, hsgl⟩ := tf_rname hW slp
      obtain ⟨sgh, hsgh⟩ := tf_rname hW slh
      obtain ⟨sgy, hsgy⟩ := tf_rname hW syr
      obtain ⟨sgw, hsgw⟩ := tf_rname hW swh
      rw [hsgl, hsgh, hsgy, hsgw] at hbR
      refine tf_calli (va_runV (As := [.int (Int32.ofInt ((sx (ii + 1))))]) (rest := []) ⟨hx, hb, hml, hown, hts⟩ (c_s1_X9_image l g T ax hax ((sx (ii + 1))) ⟨by omega, by omega⟩ sq hsq im him lp hlp lh hlh yr hyr wh hwh ss hss slp hslp slh hslh syr hsyr swh hswh gl gh gy gw sgl sgh sgy sgw (lm) ⟨by omega, by omega⟩ (fo) ⟨by omega, by omega⟩) (cwV 1 hts gv_L_164 rfl rfl rfl hd_X9_image ⟨Nat.le_trans (by decide) hR1, Nat.le_trans (by decide) hR2⟩) (tf_preV hk hW hax (ci := 9) rfl rfl ⟨hf0, hf8, hf9, hf10, hf11, hf14, hf15, hf16, hf17, hf1, hb1, hb2, hb3, hb4, hb5, hsgl, hsgh, hsgy, hsgw, hf12, hf13⟩) rfl rfl hl.1 rfl (lv_room (Nat.le_of_ble_eq_true rfl)) dL_law_1422 ⟨Nat.le_trans (by omega) hR3, Nat.le_trans (by omega) hR4⟩) hW (by decide) (fun z226 H226 locs226 hW hF226 hp226 => ?_)
      have hs227 := tf_keepF hF226 hax rfl rfl (by decide) hf0
      have hs228 := tf_keepF hF226 hax rfl rfl (by decide) hf1
      have hs229 := tf_keepF hF226 hax rfl rfl (by decide) hf2
      have hs230 := tf_keepF hF226 hax rfl rfl (by decide) hf3
      have hs231 := tf_keepF hF226 hax rfl rfl (by decide) hf4
      have hs232 := tf_keepF hF226 hax rfl rfl (by decide) hf5
      have hs233 := tf_keepF hF226 hax rfl rfl (by decide) hf6
      have hs234 := tf_keepF hF226 hax rfl rfl (by decide) hf7
      have hs235 := tf_keepF hF226 hsq rfl rfl (by decide) hf8
      have hs236 := tf_keepF hF226 hsq rfl rfl (by decide) hf9
      have hs237 := tf_keepF hF226 hsq rfl rfl (by decide) hf10
      have hs238 := tf_keepF hF226 hsq rfl rfl (by decide) hf11
      have hs239 := tf_keepF hF226 hsq rfl rfl (by decide) hf12
      have hs240 := tf_keepF hF226 hsq rfl rfl (by decide) hf13
      have hs241 := tf_keepC hF226 hlp rfl (by decide) hf14
      have hs242 := tf_keepC hF226 hlh rfl (by decide) hf15
      have hs243 := tf_keepC hF226 hyr rfl (by decide) hf16
      have hs244 := tf_keepC hF226 hwh rfl (by decide) hf17
      have hs245 := tf_keepC hF226 hta rfl (by decide) hf18
      have hs246 := tf_keepC hF226 hdh rfl (by decide) hf19
      have hs247 := tf_keepF hF226 ham rfl rfl (by decide) hf20
      have hs248 := tf_keepF hF226 ham rfl rfl (by decide) hf21
      have hs249 := tf_keepF hF226 ham rfl rfl (by decide) hf22
      have hs250 := tf_keepF hF226 ham rfl rfl (by decide) hf23
      have hs251 := tf_keepF hF226 ham rfl rfl (by decide) hf24
      have hs252 := tf_keepF hF226 ham rfl rfl (by decide) hf25
      have hs253 := tf_keepF hF226 ham rfl rfl (by decide) hf26
      have hs254 := tf_keepF hF226 ham rfl rfl (by decide) hf27
      have hs255 := tf_keepF hF226 ham rfl rfl (by decide) hf28
      have hs256 := tf_keepF hF226 ham rfl rfl (by decide) hf29
      have hs257 := tf_keepC hF226 hro rfl (by decide) hf30
      have hs258 := tf_keepC hF226 hiz rfl (by decide) hf31
      have hs259 := tf_keepC hF226 hkp rfl (by decide) hf32
      have hs260 := tf_keepC hF226 htm rfl (by decide) hf33
      have hs261 := tf_keepC hF226 hdw rfl (by decide) hf34
      have hs262 := tf_keepC hF226 hwd rfl (by decide) hf35
      have hs263 := tf_keepS hF226 him rfl (by decide) hb1
      have hs264 := tf_keepF hF226 hss rfl rfl (by decide) hb2
      have hs265 := tf_keepF hF226 hss rfl rfl (by decide) hb3
      have hs266 := tf_keepF hF226 hss rfl rfl (by decide) hb4
      have hs267 := tf_keepF hF226 hss rfl rfl (by decide) hb5
      have hI0 := tf_IS1_keep hF226 him (by decide) (by decide) hI0
      obtain ⟨hp226_0, hp226_1, hp226_2⟩ := hp226
      obtain ⟨hw226_0, hw226_1, hw226_2, hw226_3, hw226_4, hw226_5⟩ := hp226_2
      have hI1 : tf_IS2 g T _ im 1 rr := Or.inr ⟨rfl, ss, slp, slh, syr, swh, lm, fo, hss, hslp, hslh, hsyr, hswh, hlm, hfo, hs263, hs264, hs265, hs266, hs267, hw226_4, hw226_5, by rw [hw226_0, hw226_1, hw226_2, hw226_3]; exact hRL, hLM⟩
      refine lv_pop hx hb dL_law_1425 rfl ?_
      refine lv_aload_n hx hb dL_law_1426 rfl (lv_at hl 1 rfl) ?_
      refine lv_aload_n hx hb dL_law_1427 rfl (lv_at hl 3 rfl) ?_
      refine lv_iload_n hx hb dL_law_1428 rfl (lv_at hl 0 rfl) ?_
      refine tf_iconst hx hb dL_law_1429 ?_
      refine tf_iadd hx hb dL_law_1430 ?_
      refine lw_sld (sx := sx) hx hb hX hbl hBs hL hW (by omega) (by omega) dL_law_1431 ?_
      have hsx268 := hsx (ii + 1)
      refine tf_calli (va_runV (As := [.int (Int32.ofInt ((sx (ii + 1))))]) (rest := []) ⟨hx, hb, hml, hown, hts⟩ (c_X10_image l g T am ham ((sx (ii + 1))) ⟨by omega, by omega⟩ ro hro iz hiz kp hkp rr qq rk) (cwV 1 hts gv_L_167 rfl rfl rfl hd_X10_image ⟨Nat.le_trans (by decide) hR1, Nat.le_trans (by decide) hR2⟩) (tf_preV hk hW ham (ci := 10) rfl rfl ⟨hs247, hs257, hs248, hs249, hs258, hs259⟩) rfl rfl hl.1 rfl (lv_room (Nat.le_of_ble_eq_true rfl)) dL_law_1432 ⟨Nat.le_trans (by omega) hR3, Nat.le_trans (by omega) hR4⟩) hW (by decide) (fun z269 H269 locs269 hW hF269 hp269 => ?_)
      have hs270 := tf_keepF hF269 hax rfl rfl (by decide) hs227
      have hs271 := tf_keepF hF269 hax rfl rfl (by decide) hs228
      have hs272 := tf_keepF hF269 hax rfl rfl (by decide) hs229
      have hs273 := tf_keepF hF269 hax rfl rfl (by decide) hs230
      have hs274 := tf_keepF hF269 hax rfl rfl (by decide) hs231
      have hs275 := tf_keepF hF269 hax rfl rfl (by decide) hs232
      have hs276 := tf_keepF hF269 hax rfl rfl (by decide) hs233
      have hs277 := tf_keepF hF269 hax rfl rfl (by decide) hs234
      have hs278 := tf_keepF hF269 hsq rfl rfl (by decide) hs235
      have hs279 := tf_keepF hF269 hsq rfl rfl (by decide) hs236
      have hs280 := tf_keepF hF269 hsq rfl rfl (by decide) hs237
      have hs281 := tf_keepF hF269 hsq rfl rfl (by decide) hs238
      have hs282 := tf_keepF hF269 hsq rfl rfl (by decide) hs239
      have hs283 := tf_keepF hF269 hsq rfl rfl (by decide) hs240
      have hs284 := tf_keepC hF269 hlp rfl (by decide) hs241
      have hs285 := tf_keepC hF269 hlh rfl (by decide) hs242
      have hs286 := tf_keepC hF269 hyr rfl (by decide) hs243
      have hs287 := tf_keepC hF269 hwh rfl (by decide) hs244
      have hs288 := tf_keepC hF269 hta rfl (by decide) hs245
      have hs289 := tf_keepC hF269 hdh rfl (by decide) hs246
      have hs290 := tf_keepF hF269 ham rfl rfl (by decide) hs247
      have hs291 := tf_keepF hF269 ham rfl rfl (by decide) hs248
      have hs292 := tf_keepF hF269 ham rfl rfl (by decide) hs249
      have hs293 := tf_keepF hF269 ham rfl rfl (by decide) hs250
      have hs294 := tf_keepF hF269 ham rfl rfl (by decide) hs251
      have hs295 := tf_keepF hF269 ham rfl rfl (by decide) hs252
      have hs296 := tf_keepF hF269 ham rfl rfl (by decide) hs253
      have hs297 := tf_keepF hF269 ham rfl rfl (by decide) hs254
      have hs298 := tf_keepF hF269 ham rfl rfl (by decide) hs255
      have hs299 := tf_keepF hF269 ham rfl rfl (by decide) hs256
      have hs300 := tf_keepC hF269 hro rfl (by decide) hs257
      have hs301 := tf_keepC hF269 htm rfl (by decide) hs260
      have hs302 := tf_keepC hF269 hdw rfl (by decide) hs261
      have hs303 := tf_keepC hF269 hwd rfl (by decide) hs262
      have hI0 := tf_IS1_keep hF269 him (by decide) (by decide) hI0
      have hI1 := tf_IS2_keep hF269 him (by decide) (by decide) hI1
      obtain ⟨hp269_0, hp269_1, hp269_2⟩ := hp269
      obtain ⟨q1_269, rk1_269, hX269_0, hX269_1, hR269_0⟩ := hp269_2
      obtain ⟨hzm, hq1, hk1⟩ : z269 = 0 ∧ tf_im qq rr ((sx (ii + 1))) 5830 q1_269 ∧ rk1_269 = tf_up rk ((sx (ii + 1))) 1 := by
        rcases hR269_0 with ⟨a, -⟩ | ⟨-, a, b, c⟩
        · omega
        · exact ⟨a, b, c⟩
      have hI1 := tf_IS2_to (kept2 := rk1_269 1) (q2 := tf_qk q1_269 1) hI1 (by rw [hk1, hv, tf_up_at]) (tf_im_at hq1 hv)
      have hI0 := tf_IS1_to (kept2 := rk1_269 0) (q2 := tf_qk q1_269 0) hI0 (by rw [hk1, hv, tf_up_ne (by omega)]) (tf_im_ne hq1 hv (by omega))
      refine lv_pop hx hb dL_law_1435 rfl ?_
      refine lv_goto (tgt := 1498) hx hb dL_law_1436 (by decide) ?_
      refine W.widen (k := 130 + 30 * jj) (n := 31200 + 1200 * jj) (by omega) (by omega) ?_
      exact hnx _ _ _ hW hax ham ⟨sq, im, ta, dh, lp, lh, yr, wh, ro, iz, kp, tm, dw, wd, (tt), (uu), (dd), (lm), (fo), (fp), gl, gh, gy, gw, tp, gd, rr, q1_269, rk1_269, tq, gm, gW, hsq, him, hta, hdh, hlp, hlh, hyr, hwh, hro, hiz, hkp, htm, hdw, hwd, ⟨by omega, by omega⟩, ⟨by omega, by omega⟩, ⟨by omega, by omega⟩, ⟨by omega, by omega⟩, ⟨by omega, by omega⟩, ⟨by omega, by omega⟩, hs270, hs271, hs272, hs273, hs274, hs275, hs276, hs277, hs278, hs279, hs280, hs281, hs282, hs283, hs284, hs285, hs286, hs287, hs288, hs289, hs290, hs291, hs292, tf_eqv hs293 (by omega), hs294, tf_eqv hs295 (by omega), tf_eqv hs296 (by omega), hs297, hs298, tf_eqv hs299 (by omega), hs300, hX269_0, hX269_1, hs301, hs302, hs303, hRL, hDD, hTP, hWW, hLM, hI0, hI1⟩ _ (lv_sub hl [0, 1, 2, 3] rfl)
  · refine tf_calli (va_runV (As := [.int (Int32.ofInt ((sx (ii + 1))))]) (rest := []) ⟨hx, hb, hml, hown, hts⟩ (c_r_X9_image l g T ax hax ((sx (ii + 1))) ⟨by omega, by omega⟩ (by omega)) (cwV 1 hts gv_L_164 rfl rfl rfl hd_X9_image ⟨Nat.le_trans (by decide) hR1, Nat.le_trans (by decide) hR2⟩) (tf_preV hk hW hax (ci := 9) rfl rfl trivial) rfl rfl hl.1 rfl (lv_room (Nat.le_of_ble_eq_true rfl)) dL_law_1422 ⟨Nat.le_trans (by omega) hR3, Nat.le_trans (by omega) hR4⟩) hW (by decide) (fun z304 H304 locs304 hW hF304 hp304 => ?_)
    have hs305 := tf_keepF hF304 hax rfl rfl (by decide) hf0
    have hs306 := tf_keepF hF304 hax rfl rfl (by decide) hf1
    have hs307 := tf_keepF hF304 hax rfl rfl (by decide) hf2
    have hs308 := tf_keepF hF304 hax rfl rfl (by decide) hf3
    have hs309 := tf_keepF hF304 hax rfl rfl (by decide) hf4
    have hs310 := tf_keepF hF304 hax rfl rfl (by decide) hf5
    have hs311 := tf_keepF hF304 hax rfl rfl (by decide) hf6
    have hs312 := tf_keepF hF304 hax rfl rfl (by decide) hf7
    have hs313 := tf_keepF hF304 hsq rfl rfl (by decide) hf8
    have hs314 := tf_keepF hF304 hsq rfl rfl (by decide) hf9
    have hs315 := tf_keepF hF304 hsq rfl rfl (by decide) hf10
    have hs316 := tf_keepF hF304 hsq rfl rfl (by decide) hf11
    have hs317 := tf_keepF hF304 hsq rfl rfl (by decide) hf12
    have hs318 := tf_keepF hF304 hsq rfl rfl (by decide) hf13
    have hs319 := tf_keepC hF304 hlp rfl (by decide) hf14
    have hs320 := tf_keepC hF304 hlh rfl (by decide) hf15
    have hs321 := tf_keepC hF304 hyr rfl (by decide) hf16
    have hs322 := tf_keepC hF304 hwh rfl (by decide) hf17
    have hs323 := tf_keepC hF304 hta rfl (by decide) hf18
    have hs324 := tf_keepC hF304 hdh rfl (by decide) hf19
    have hs325 := tf_keepF hF304 ham rfl rfl (by decide) hf20
    have hs326 := tf_keepF hF304 ham rfl rfl (by decide) hf21
    have hs327 := tf_keepF hF304 ham rfl rfl (by decide) hf22
    have hs328 := tf_keepF hF304 ham rfl rfl (by decide) hf23
    have hs329 := tf_keepF hF304 ham rfl rfl (by decide) hf24
    have hs330 := tf_keepF hF304 ham rfl rfl (by decide) hf25
    have hs331 := tf_keepF hF304 ham rfl rfl (by decide) hf26
    have hs332 := tf_keepF hF304 ham rfl rfl (by decide) hf27
    have hs333 := tf_keepF hF304 ham rfl rfl (by decide) hf28
    have hs334 := tf_keepF hF304 ham rfl rfl (by decide) hf29
    have hs335 := tf_keepC hF304 hro rfl (by decide) hf30
    have hs336 := tf_keepC hF304 hiz rfl (by decide) hf31
    have hs337 := tf_keepC hF304 hkp rfl (by decide) hf32
    have hs338 := tf_keepC hF304 htm rfl (by decide) hf33
    have hs339 := tf_keepC hF304 hdw rfl (by decide) hf34
    have hs340 := tf_keepC hF304 hwd rfl (by decide) hf35
    have hI0 := tf_IS1_keep hF304 him (by decide) (by decide) hI0
    have hI1 := tf_IS2_keep hF304 him (by decide) (by decide) hI1
    obtain ⟨hp304_0, hp304_1⟩ := hp304
    refine lv_pop hx hb dL_law_1425 rfl ?_
    refine lv_aload_n hx hb dL_law_1426 rfl (lv_at hl 1 rfl) ?_
    refine lv_aload_n hx hb dL_law_1427 rfl (lv_at hl 3 rfl) ?_
    refine lv_iload_n hx hb dL_law_1428 rfl (lv_at hl 0 rfl) ?_
    refine tf_iconst hx hb dL_law_1429 ?_
    refine tf_iadd hx hb dL_law_1430 ?_
    refine lw_sld (sx := sx) hx hb hX hbl hBs hL hW (by omega) (by omega) dL_law_1431 ?_
    have hsx341 := hsx (ii + 1)
    refine tf_calli (va_runV (As := [.int (Int32.ofInt ((sx (ii + 1))))]) (rest := []) ⟨hx, hb, hml, hown, hts⟩ (c_X10_image l g T am ham ((sx (ii + 1))) ⟨by omega, by omega⟩ ro hro iz hiz kp hkp rr qq rk) (cwV 1 hts gv_L_167 rfl rfl rfl hd_X10_image ⟨Nat.le_trans (by decide) hR1, Nat.le_trans (by decide) hR2⟩) (tf_preV hk hW ham (ci := 10) rfl rfl ⟨hs325, hs335, hs326, hs327, hs336, hs337⟩) rfl rfl hl.1 rfl (lv_room (Nat.le_of_ble_eq_true rfl)) dL_law_1432 ⟨Nat.le_trans (by omega) hR3, Nat.le_trans (by omega) hR4⟩) hW (by decide) (fun z342 H342 locs342 hW hF342 hp342 => ?_)
    have hs343 := tf_keepF hF342 hax rfl rfl (by decide) hs305
    have hs344 := tf_keepF hF342 hax rfl rfl (by decide) hs306
    have hs345 := tf_keepF hF342 hax rfl rfl (by decide) hs307
    have hs346 := tf_keepF hF342 hax rfl rfl (by decide) hs308
    have hs347 := tf_keepF hF342 hax rfl rfl (by decide) hs309
    have hs348 := tf_keepF hF342 hax rfl rfl (by decide) hs310
    have hs349 := tf_keepF hF342 hax rfl rfl (by decide) hs311
    have hs350 := tf_keepF hF342 hax rfl rfl (by decide) hs312
    have hs351 := tf_keepF hF342 hsq rfl rfl (by decide) hs313
    have hs352 := tf_keepF hF342 hsq rfl rfl (by decide) hs314
    have hs353 := tf_keepF hF342 hsq rfl rfl (by decide) hs315
    have hs354 := tf_keepF hF342 hsq rfl rfl (by decide) hs316
    have hs355 := tf_keepF hF342 hsq rfl rfl (by decide) hs317
    have hs356 := tf_keepF hF342 hsq rfl rfl (by decide) hs318
    have hs357 := tf_keepC hF342 hlp rfl (by decide) hs319
    have hs358 := tf_keepC hF342 hlh rfl (by decide) hs320
    have hs359 := tf_keepC hF342 hyr rfl (by decide) hs321
    have hs360 := tf_keepC hF342 hwh rfl (by decide) hs322
    have hs361 := tf_keepC hF342 hta rfl (by decide) hs323
    have hs362 := tf_keepC hF342 hdh rfl (by decide) hs324
    have hs363 := tf_keepF hF342 ham rfl rfl (by decide) hs325
    have hs364 := tf_keepF hF342 ham rfl rfl (by decide) hs326
    have hs365 := tf_keepF hF342 ham rfl rfl (by decide) hs327
    have hs366 := tf_keepF hF342 ham rfl rfl (by decide) hs328
    have hs367 := tf_keepF hF342 ham rfl rfl (by decide) hs329
    have hs368 := tf_keepF hF342 ham rfl rfl (by decide) hs330
    have hs369 := tf_keepF hF342 ham rfl rfl (by decide) hs331
    have hs370 := tf_keepF hF342 ham rfl rfl (by decide) hs332
    have hs371 := tf_keepF hF342 ham rfl rfl (by decide) hs333
    have hs372 := tf_keepF hF342 ham rfl rfl (by decide) hs334
    have hs373 := tf_keepC hF342 hro rfl (by decide) hs335
    have hs374 := tf_keepC hF342 htm rfl (by decide) hs338
    have hs375 := tf_keepC hF342 hdw rfl (by decide) hs339
    have hs376 := tf_keepC hF342 hwd rfl (by decide) hs340
    have hI0 := tf_IS1_keep hF342 him (by decide) (by decide) hI0
    have hI1 := tf_IS2_keep hF342 him (by decide) (by decide) hI1
    obtain ⟨hp342_0, hp342_1, hp342_2⟩ := hp342
    obtain ⟨q1_342, rk1_342, hX342_0, hX342_1, hR342_0⟩ := hp342_2
    obtain ⟨hzm, hq1, hk1⟩ : z342 = -1 ∧ q1_342 = qq ∧ rk1_342 = rk := by
      rcases hR342_0 with ⟨-, a, b, c⟩ | ⟨a, -⟩
      · exact ⟨a, b, c⟩
      · omega
    have hI0 := tf_IS1_to (kept2 := rk1_342 0) (q2 := tf_qk q1_342 0) hI0 (by rw [hk1]) (fun _ _ _ => by rw [hq1])
    have hI1 := tf_IS2_to (kept2 := rk1_342 1) (q2 := tf_qk q1_342 1) hI1 (by rw [hk1]) (fun _ _ _ => by rw [hq1])
    refine lv_pop hx hb dL_law_1435 rfl ?_
    refine lv_goto (tgt := 1498) hx hb dL_law_1436 (by decide) ?_
    refine W.widen (k := 130 + 30 * jj) (n := 31200 + 1200 * jj) (by omega) (by omega) ?_
    exact hnx _ _ _ hW hax ham ⟨sq, im, ta, dh, lp, lh, yr, wh, ro, iz, kp, tm, dw, wd, (tt), (uu), (dd), (lm), (fo), (fp), gl, gh, gy, gw, tp, gd, rr, q1_342, rk1_342, tq, gm, gW, hsq, him, hta, hdh, hlp, hlh, hyr, hwh, hro, hiz, hkp, htm, hdw, hwd, ⟨by omega, by omega⟩, ⟨by omega, by omega⟩, ⟨by omega, by omega⟩, ⟨by omega, by omega⟩, ⟨by omega, by omega⟩, ⟨by omega, by omega⟩, hs343, hs344, hs345, hs346, hs347, hs348, hs349, hs350, hs351, hs352, hs353, hs354, hs355, hs356, hs357, hs358, hs359, hs360, hs361, hs362, hs363, hs364, hs365, tf_eqv hs366 (by omega), hs367, tf_eqv hs368 (by omega), tf_eqv hs369 (by omega), hs370, hs371, tf_eqv hs372 (by omega), hs373, hX342_0, hX342_1, hs374, hs375, hs376, hRL, hDD, hTP, hWW, hLM, hI0, hI1⟩ _ (lv_sub hl [0, 1, 2, 3] rfl)

set_option maxHeartbeats 4000000 in
set_option maxRecDepth 100000 in
theorem lc_1439 {p : Program} {l : Launch} {e : Env} {s : State} {m : MethodId} {below : List Frame} {meth : Method} {c : Code} {b L : Nat} {g : tf_G} {sx : Int → Int} {Q : State → Prop} (E : lw_E p s m c b L g sx) (ax am jj : Nat) (ii : Int) (hii : ii = 6 * (jj : Int)) (hij : ii + 6 ≤ (L : Int)) (hnx : lw_nx p l e s m below meth c b g ax am jj ii Q) (T : tf_T) (H : Heap) (locs : List Loc) (hW : tf_n tf_kt g M_law (fun _ => none) s.heap T H locs) (hax : T ax = some (39, 0)) (ham : T am = some (63, 0)) (hI : lw_I g T H ax am) (ls : Array Slot) (hl : lv_has ls 4 [(3, .int (Int32.ofInt ii)), (2, .ref am), (1, .ref ax), (0, .ref b)]) : W p l e room_1 s m #[Value.ref b] below meth c H locs (100 + 30 * jj) (30000 + 1200 * jj) Q (F0 m 1439 ls []) := by
  obtain ⟨hx, hb, hml, hown, hts, hbl, hk, hBs, hsx, hX, hL⟩ := id E
  have hR1 := lw_R1
  have hR2 := lw_R2
  have hR3 := lw_R3
  have hR4 := lw_R4
  have hK := hk.1
  have hE : tf_E g T := trivial
  obtain ⟨sq, im, ta, dh, lp, lh, yr, wh, ro, iz, kp, tm, dw, wd, tt, uu, dd, lm, fo, fp, gl, gh, gy, gw, tp, gd, rr, qq, rk, tq, gm, gW, hsq, him, hta, hdh, hlp, hlh, hyr, hwh, hro, hiz, hkp, htm, hdw, hwd, htt, huu, hdd, hlm, hfo, hfp, hf0, hf1, hf2, hf3, hf4, hf5, hf6, hf7, hf8, hf9, hf10, hf11, hf12, hf13, hf14, hf15, hf16, hf17, hf18, hf19, hf20, hf21, hf22, hf23, hf24, hf25, hf26, hf27, hf28, hf29, hf30, hf31, hf32, hf33, hf34, hf35, hRL, hDD, hTP, hWW, hLM, hI0, hI1⟩ := hI
  have hWS : tf_WS gy gw := hRL.2.2
  refine lv_aload_n hx hb dL_law_1439 rfl (lv_at hl 2 rfl) ?_
  refine lv_aload_n hx hb dL_law_1440 rfl (lv_at hl 3 rfl) ?_
  refine lv_iload_n hx hb dL_law_1441 rfl (lv_at hl 0 rfl) ?_
  refine tf_iconst hx hb dL_law_1442 ?_
  refine tf_iadd hx hb dL_law_1443 ?_
  refine lw_sld (sx := sx) hx hb hX hbl hBs hL hW (by omega) (by omega) dL_law_1444 ?_
  have hsx1 := hsx (ii + 1)
  rcases (show (sx (ii + 1)) = 0 ∨ (sx (ii + 1)) = 1 ∨ ((sx (ii + 1)) < 0 ∨ 1 < (sx (ii + 1))) by omega) with hv | hv | hv
  · rcases id hI0 with ⟨hkk, hbn⟩ | ⟨hkk, ss, slp, slh, syr, swh, slm, sfo, hss, hslp, hslh, hsyr, hswh, hslm, hsfo, hb1, hb2, hb3, hb4, hb5, hb8, hb9, hbR, hbM⟩
    · refine tf_calli (va_runV (As := [.int (Int32.ofInt ((sx (ii + 1))))]) (rest := []) ⟨hx, hb, hml, hown, hts⟩ (c_n0_X9_back l g T ax hax ((sx (ii + 1))) ⟨by omega, by omega⟩ im him) (cwV 1 hts gv_L_168 rfl rfl rfl hd_X9_back ⟨Nat.le_trans (by decide) hR1, Nat.le_trans (by decide) hR2⟩) (tf_preV hk hW hax (ci := 9) rfl rfl ⟨hf1, hbn⟩) rfl rfl hl.1 rfl (lv_room (Nat.le_of_ble_eq_true rfl)) dL_law_1445 ⟨Nat.le_trans (by omega) hR3, Nat.le_trans (by omega) hR4⟩) hW (by decide) (fun z2 H2 locs2 hW hF2 hp2 => ?_)
      have hs3 := tf_keepF hF2 hax rfl rfl (by decide) hf0
      have hs4 := tf_keepF hF2 hax rfl rfl (by decide) hf1
      have hs5 := tf_keepF hF2 hax rfl rfl (by decide) hf2
      have hs6 := tf_keepF hF2 hax rfl rfl (by decide) hf3
      have hs7 := tf_keepF hF2 hax rfl rfl (by decide) hf4
      have hs8 := tf_keepF hF2 hax rfl rfl (by decide) hf5
      have hs9 := tf_keepF hF2 hax rfl rfl (by decide) hf6
      have hs10 := tf_keepF hF2 hax rfl rfl (by decide) hf7
      have hs11 := tf_keepF hF2 hsq rfl rfl (by decide) hf8
      have hs12 := tf_keepF hF2 hsq rfl rfl (by decide) hf9
      have hs13 := tf_keepF hF2 hsq rfl rfl (by decide) hf10
      have hs14 := tf_keepF hF2 hsq rfl rfl (by decide) hf11
      have hs15 := tf_keepF hF2 hsq rfl rfl (by decide) hf12
      have hs16 := tf_keepF hF2 hsq rfl rfl (by decide) hf13
      have hs17 := tf_keepC hF2 hlp rfl (by decide) hf14
      have hs18 := tf_keepC hF2 hlh rfl (by decide) hf15
      have hs19 := tf_keepC hF2 hyr rfl (by decide) hf16
      have hs20 := tf_keepC hF2 hwh rfl (by decide) hf17
      have hs21 := tf_keepC hF2 hta rfl (by decide) hf18
      have hs22 := tf_keepC hF2 hdh rfl (by decide) hf19
      have hs23 := tf_keepF hF2 ham rfl rfl (by decide) hf20
      have hs24 := tf_keepF hF2 ham rfl rfl (by decide) hf21
      have hs25 := tf_keepF hF2 ham rfl rfl (by decide) hf22
      have hs26 := tf_keepF hF2 ham rfl rfl (by decide) hf23
      have hs27 := tf_keepF hF2 ham rfl rfl (by decide) hf24
      have hs28 := tf_keepF hF2 ham rfl rfl (by decide) hf25
      have hs29 := tf_keepF hF2 ham rfl rfl (by decide) hf26
      have hs30 := tf_keepF hF2 ham rfl rfl (by decide) hf27
      have hs31 := tf_keepF hF2 ham rfl rfl (by decide) hf28
      have hs32 := tf_keepF hF2 ham rfl rfl (by decide) hf29
      have hs33 := tf_keepC hF2 hro rfl (by decide) hf30
      have hs34 := tf_keepC hF2 hiz rfl (by decide) hf31
      have hs35 := tf_keepC hF2 hkp rfl (by decide) hf32
      have hs36 := tf_keepC hF2 htm rfl (by decide) hf33
      have hs37 := tf_keepC hF2 hdw rfl (by decide) hf34
      have hs38 := tf_keepC hF2 hwd rfl (by decide) hf35
      have hs39 := tf_keepS hF2 him rfl (by decide) hbn
      have hI0 := tf_IS1_keep hF2 him (by decide) (by decide) hI0
      have hI1 := tf_IS2_keep hF2 him (by decide) (by decide) hI1
      obtain ⟨hp2_0, hp2_1⟩ := hp2
      refine lv_pop hx hb dL_law_1448 rfl ?_
      refine lv_aload_n hx hb dL_law_1449 rfl (lv_at hl 1 rfl) ?_
      refine lv_aload_n hx hb dL_law_1450 rfl (lv_at hl 3 rfl) ?_
      refine lv_iload_n hx hb dL_law_1451 rfl (lv_at hl 0 rfl) ?_
      refine tf_iconst hx hb dL_law_1452 ?_
      refine tf_iadd hx hb dL_law_1453 ?_
      refine lw_sld (sx := sx) hx hb hX hbl hBs hL hW (by omega) (by omega) dL_law_1454 ?_
      have hsx40 := hsx (ii + 1)
      refine tf_calli (va_runV (As := [.int (Int32.ofInt ((sx (ii + 1))))]) (rest := []) ⟨hx, hb, hml, hown, hts⟩ (c_X10_back l g T am ham ((sx (ii + 1))) ⟨by omega, by omega⟩ ro hro iz hiz kp hkp rr qq rk) (cwV 1 hts gv_L_171 rfl rfl rfl hd_X10_back ⟨Nat.le_trans (by decide) hR1, Nat.le_trans (by decide) hR2⟩) (tf_preV hk hW ham (ci := 10) rfl rfl ⟨hs23, hs33, hs24, hs25, hs34, hs35⟩) rfl rfl hl.1 rfl (lv_room (Nat.le_of_ble_eq_true rfl)) dL_law_1455 ⟨Nat.le_trans (by omega) hR3, Nat.le_trans (by omega) hR4⟩) hW (by decide) (fun z41 H41 locs41 hW hF41 hp41 => ?_)
      have hs42 := tf_keepF hF41 hax rfl rfl (by decide) hs3
      have hs43 := tf_keepF hF41 hax rfl rfl (by decide) hs4
      have hs44 := tf_keepF hF41 hax rfl rfl (by decide) hs5
      have hs45 := tf_keepF hF41 hax rfl rfl (by decide) hs6
      have hs46 := tf_keepF hF41 hax rfl rfl (by decide) hs7
      have hs47 := tf_keepF hF41 hax rfl rfl (by decide) hs8
      have hs48 := tf_keepF hF41 hax rfl rfl (by decide) hs9
      have hs49 := tf_keepF hF41 hax rfl rfl (by decide) hs10
      have hs50 := tf_keepF hF41 hsq rfl rfl (by decide) hs11
      have hs51 := tf_keepF hF41 hsq rfl rfl (by decide) hs12
      have hs52 := tf_keepF hF41 hsq rfl rfl (by decide) hs13
      have hs53 := tf_keepF hF41 hsq rfl rfl (by decide) hs14
      have hs54 := tf_keepF hF41 hsq rfl rfl (by decide) hs15
      have hs55 := tf_keepF hF41 hsq rfl rfl (by decide) hs16
      have hs56 := tf_keepC hF41 hlp rfl (by decide) hs17
      have hs57 := tf_keepC hF41 hlh rfl (by decide) hs18
      have hs58 := tf_keepC hF41 hyr rfl (by decide) hs19
      have hs59 := tf_keepC hF41 hwh rfl (by decide) hs20
      have hs60 := tf_keepC hF41 hta rfl (by decide) hs21
      have hs61 := tf_keepC hF41 hdh rfl (by decide) hs22
      have hs62 := tf_keepF hF41 ham rfl rfl (by decide) hs23
      have hs63 := tf_keepF hF41 ham rfl rfl (by decide) hs24
      have hs64 := tf_keepF hF41 ham rfl rfl (by decide) hs25
      have hs65 := tf_keepF hF41 ham rfl rfl (by decide) hs26
      have hs66 := tf_keepF hF41 ham rfl rfl (by decide) hs27
      have hs67 := tf_keepF hF41 ham rfl rfl (by decide) hs28
      have hs68 := tf_keepF hF41 ham rfl rfl (by decide) hs29
      have hs69 := tf_keepF hF41 ham rfl rfl (by decide) hs30
      have hs70 := tf_keepF hF41 ham rfl rfl (by decide) hs31
      have hs71 := tf_keepF hF41 ham rfl rfl (by decide) hs32
      have hs72 := tf_keepC hF41 hiz rfl (by decide) hs34
      have hs73 := tf_keepC hF41 hkp rfl (by decide) hs35
      have hs74 := tf_keepC hF41 htm rfl (by decide) hs36
      have hs75 := tf_keepC hF41 hdw rfl (by decide) hs37
      have hs76 := tf_keepC hF41 hwd rfl (by decide) hs38
      have hI0 := tf_IS1_keep hF41 him (by decide) (by decide) hI0
      have hI1 := tf_IS2_keep hF41 him (by decide) (by decide) hI1
      obtain ⟨hp41_0, hp41_1, hp41_2⟩ := hp41
      obtain ⟨r1_41, hX41_0, hR41_0⟩ := hp41_2
      have hcc : rk ((sx (ii + 1))) = rk 0 := by rw [hv]
      obtain ⟨hzm, hr1⟩ : z41 = -2 ∧ r1_41 = rr := by
        rcases hR41_0 with ⟨a, -⟩ | ⟨-, -, a, b⟩ | ⟨-, a, -⟩
        · omega
        · exact ⟨a, b⟩
        · omega
      have hRL := tf_RL_to (rr1 := r1_41) hRL (fun _ _ _ => by rw [hr1])
      have hLM := tf_LM_q (r1 := r1_41) hLM (fun _ _ _ => by rw [hr1])
      refine lv_pop hx hb dL_law_1458 rfl ?_
      refine lv_goto (tgt := 1498) hx hb dL_law_1459 (by decide) ?_
      refine W.widen (k := 130 + 30 * jj) (n := 31200 + 1200 * jj) (by omega) (by omega) ?_
      exact hnx _ _ _ hW hax ham ⟨sq, im, ta, dh, lp, lh, yr, wh, ro, iz, kp, tm, dw, wd, (tt), (uu), (dd), (lm), (fo), (fp), gl, gh, gy, gw, tp, gd, r1_41, qq, rk, tq, gm, gW, hsq, him, hta, hdh, hlp, hlh, hyr, hwh, hro, hiz, hkp, htm, hdw, hwd, ⟨by omega, by omega⟩, ⟨by omega, by omega⟩, ⟨by omega, by omega⟩, ⟨by omega, by omega⟩, ⟨by omega, by omega⟩, ⟨by omega, by omega⟩, hs42, hs43, hs44, hs45, hs46, hs47, hs48, hs49, hs50, hs51, hs52, hs53, hs54, hs55, hs56, hs57, hs58, hs59, hs60, hs61, hs62, hs63, hs64, tf_eqv hs65 (by omega), hs66, tf_eqv hs67 (by omega), tf_eqv hs68 (by omega), hs69, hs70, tf_eqv hs71 (by omega), hX41_0, hs72, hs73, hs74, hs75, hs76, hRL, hDD, hTP, hWW, hLM, hI0, hI1⟩ _ (lv_sub hl [0, 1, 2, 3] rfl)
    · obtain ⟨sgl, hsgl⟩ := tf_rname hW slp
      obtain ⟨sgh, hsgh⟩ := tf_rname hW slh
      obtain ⟨sgy, hsgy⟩ := tf_rname hW syr
      obtain ⟨sgw, hsgw⟩ := tf_rname hW swh
      rw [hsgl, hsgh, hsgy, hsgw] at hbR
      refine tf_calli (va_runV (As := [.int (Int32.ofInt ((sx (ii + 1))))]) (rest := []) ⟨hx, hb, hml, hown, hts⟩ (c_s0_X9_back l g T ax hax ((sx (ii + 1))) ⟨by omega, by omega⟩ sq hsq im him lp hlp lh hlh yr hyr wh hwh ss hss slp hslp slh hslh syr hsyr swh hswh gl gh gy gw sgl sgh sgy sgw (slm) ⟨by omega, by omega⟩ (sfo) ⟨by omega, by omega⟩) (cwV 1 hts gv_L_168 rfl rfl rfl hd_X9_back ⟨Nat.le_trans (by decide) hR1, Nat.le_trans (by decide) hR2⟩) (tf_preV hk hW hax (ci := 9) rfl rfl ⟨hf0, hf8, hf9, hf10, hf11, hf14, hf15, hf16, hf17, hf1, hb1, hb2, hb3, hb4, hb5, hsgl, hsgh, hsgy, hsgw, hb8, hb9⟩) rfl rfl hl.1 rfl (lv_room (Nat.le_of_ble_eq_true rfl)) dL_law_1445 ⟨Nat.le_trans (by omega) hR3, Nat.le_trans (by omega) hR4⟩) hW (by decide) (fun z77 H77 locs77 hW hF77 hp77 => ?_)
      have hs78 := tf_keepF hF77 hax rfl rfl (by decide) hf0
      have hs79 := tf_keepF hF77 hax rfl rfl (by decide) hf1
      have hs80 := tf_keepF hF77 hax rfl rfl (by decide) hf2
      have hs81 := tf_keepF hF77 hax rfl rfl (by decide) hf3
      have hs82 := tf_keepF hF77 hax rfl rfl (by decide) hf4
      have hs83 := tf_keepF hF77 hax rfl rfl (by decide) hf5
      have hs84 := tf_keepF hF77 hax rfl rfl (by decide) hf6
      have hs85 := tf_keepF hF77 hax rfl rfl (by decide) hf7
      have hs86 := tf_keepF hF77 hsq rfl rfl (by decide) hf8
      have hs87 := tf_keepF hF77 hsq rfl rfl (by decide) hf9
      have hs88 := tf_keepF hF77 hsq rfl rfl (by decide) hf10
      have hs89 := tf_keepF hF77 hsq rfl rfl (by decide) hf11
      have hs90 := tf_keepC hF77 hta rfl (by decide) hf18
      have hs91 := tf_keepC hF77 hdh rfl (by decide) hf19
      have hs92 := tf_keepF hF77 ham rfl rfl (by decide) hf20
      have hs93 := tf_keepF hF77 ham rfl rfl (by decide) hf21
      have hs94 := tf_keepF hF77 ham rfl rfl (by decide) hf22
      have hs95 := tf_keepF hF77 ham rfl rfl (by decide) hf23
      have hs96 := tf_keepF hF77 ham rfl rfl (by decide) hf24
      have hs97 := tf_keepF hF77 ham rfl rfl (by decide) hf25
      have hs98 := tf_keepF hF77 ham rfl rfl (by decide) hf26
      have hs99 := tf_keepF hF77 ham rfl rfl (by decide) hf27
      have hs100 := tf_keepF hF77 ham rfl rfl (by decide) hf28
      have hs101 := tf_keepF hF77 ham rfl rfl (by decide) hf29
      have hs102 := tf_keepC hF77 hro rfl (by decide) hf30
      have hs103 := tf_keepC hF77 hiz rfl (by decide) hf31
      have hs104 := tf_keepC hF77 hkp rfl (by decide) hf32
      have hs105 := tf_keepC hF77 htm rfl (by decide) hf33
      have hs106 := tf_keepC hF77 hdw rfl (by decide) hf34
      have hs107 := tf_keepC hF77 hwd rfl (by decide) hf35
      have hs108 := tf_keepS hF77 him rfl (by decide) hb1
      have hs109 := tf_keepF hF77 hss rfl rfl (by decide) hb2
      have hs110 := tf_keepC hF77 hslp rfl (by decide) hsgl
      have hs111 := tf_keepF hF77 hss rfl rfl (by decide) hb3
      have hs112 := tf_keepC hF77 hslh rfl (by decide) hsgh
      have hs113 := tf_keepF hF77 hss rfl rfl (by decide) hb4
      have hs114 := tf_keepC hF77 hsyr rfl (by decide) hsgy
      have hs115 := tf_keepF hF77 hss rfl rfl (by decide) hb5
      have hs116 := tf_keepC hF77 hswh rfl (by decide) hsgw
      have hs117 := tf_keepF hF77 hss rfl rfl (by decide) hb8
      have hs118 := tf_keepF hF77 hss rfl rfl (by decide) hb9
      have hI0 := tf_IS1_keep hF77 him (by decide) (by decide) hI0
      have hI1 := tf_IS2_keep hF77 him (by decide) (by decide) hI1
      obtain ⟨hp77_0, hp77_1, hp77_2⟩ := hp77
      obtain ⟨hw77_0, hw77_1, hw77_2, hw77_3, hw77_4, hw77_5⟩ := hp77_2
      refine lv_pop hx hb dL_law_1448 rfl ?_
      refine lv_aload_n hx hb dL_law_1449 rfl (lv_at hl 1 rfl) ?_
      refine lv_aload_n hx hb dL_law_1450 rfl (lv_at hl 3 rfl) ?_
      refine lv_iload_n hx hb dL_law_1451 rfl (lv_at hl 0 rfl) ?_
      refine tf_iconst hx hb dL_law_1452 ?_
      refine tf_iadd hx hb dL_law_1453 ?_
      refine lw_sld (sx := sx) hx hb hX hbl hBs hL hW (by omega) (by omega) dL_law_1454 ?_
      have hsx119 := hsx (ii + 1)
      refine tf_calli (va_runV (As := [.int (Int32.ofInt ((sx (ii + 1))))]) (rest := []) ⟨hx, hb, hml, hown, hts⟩ (c_X10_back l g T am ham ((sx (ii + 1))) ⟨by omega, by omega⟩ ro hro iz hiz kp hkp rr qq rk) (cwV 1 hts gv_L_171 rfl rfl rfl hd_X10_back ⟨Nat.le_trans (by decide) hR1, Nat.le_trans (by decide) hR2⟩) (tf_preV hk hW ham (ci := 10) rfl rfl ⟨hs92, hs102, hs93, hs94, hs103, hs104⟩) rfl rfl hl.1 rfl (lv_room (Nat.le_of_ble_eq_true rfl)) dL_law_1455 ⟨Nat.le_trans (by omega) hR3, Nat.le_trans (by omega) hR4⟩) hW (by decide) (fun z120 H120 locs120 hW hF120 hp120 => ?_)
      have hs121 := tf_keepF hF120 hax rfl rfl (by decide) hs78
      have hs122 := tf_keepF hF120 hax rfl rfl (by decide) hs79
      have hs123 := tf_keepF hF120 hax rfl rfl (by decide) hs80
      have hs124 := tf_keepF hF120 hax rfl rfl (by decide) hs81
      have hs125 := tf_keepF hF120 hax rfl rfl (by decide) hs82
      have hs126 := tf_keepF hF120 hax rfl rfl (by decide) hs83
      have hs127 := tf_keepF hF120 hax rfl rfl (by decide) hs84
      have hs128 := tf_keepF hF120 hax rfl rfl (by decide) hs85
      have hs129 := tf_keepF hF120 hsq rfl rfl (by decide) hs86
      have hs130 := tf_keepF hF120 hsq rfl rfl (by decide) hs87
      have hs131 := tf_keepF hF120 hsq rfl rfl (by decide) hs88
      have hs132 := tf_keepF hF120 hsq rfl rfl (by decide) hs89
      have hs133 := tf_keepC hF120 hta rfl (by decide) hs90
      have hs134 := tf_keepC hF120 hdh rfl (by decide) hs91
      have hs135 := tf_keepF hF120 ham rfl rfl (by decide) hs92
      have hs136 := tf_keepF hF120 ham rfl rfl (by decide) hs93
      have hs137 := tf_keepF hF120 ham rfl rfl (by decide) hs94
      have hs138 := tf_keepF hF120 ham rfl rfl (by decide) hs95
      have hs139 := tf_keepF hF120 ham rfl rfl (by decide) hs96
      have hs140 := tf_keepF hF120 ham rfl rfl (by decide) hs97
      have hs141 := tf_keepF hF120 ham rfl rfl (by decide) hs98
      have hs142 := tf_keepF hF120 ham rfl rfl (by decide) hs99
      have hs143 := tf_keepF hF120 ham rfl rfl (by decide) hs100
      have hs144 := tf_keepF hF120 ham rfl rfl (by decide) hs101
      have hs145 := tf_keepC hF120 hiz rfl (by decide) hs103
      have hs146 := tf_keepC hF120 hkp rfl (by decide) hs104
      have hs147 := tf_keepC hF120 htm rfl (by decide) hs105
      have hs148 := tf_keepC hF120 hdw rfl (by decide) hs106
      have hs149 := tf_keepC hF120 hwd rfl (by decide) hs107
      have hs150 := tf_keepC hF120 hlp rfl (by decide) hw77_0
      have hs151 := tf_keepC hF120 hlh rfl (by decide) hw77_1
      have hs152 := tf_keepC hF120 hyr rfl (by decide) hw77_2
      have hs153 := tf_keepC hF120 hwh rfl (by decide) hw77_3
      have hs154 := tf_keepF hF120 hsq rfl rfl (by decide) hw77_4
      have hs155 := tf_keepF hF120 hsq rfl rfl (by decide) hw77_5
      have hI0 := tf_IS1_keep hF120 him (by decide) (by decide) hI0
      have hI1 := tf_IS2_keep hF120 him (by decide) (by decide) hI1
      obtain ⟨hp120_0, hp120_1, hp120_2⟩ := hp120
      obtain ⟨r1_120, hX120_0, hR120_0⟩ := hp120_2
      have hcc : rk ((sx (ii + 1))) = rk 0 := by rw [hv]
      obtain ⟨hzm, hr1⟩ : z120 = 0 ∧ tf_bk rr qq ((sx (ii + 1))) 5830 r1_120 := by
        rcases hR120_0 with ⟨a, -⟩ | ⟨-, a, -⟩ | ⟨-, -, a, b⟩
        · omega
        · omega
        · exact ⟨a, b⟩
      have hRL := tf_RL_to hbR (tf_bk_at hr1 hv)
      have hLM := tf_LM_q hbM (tf_bk_at hr1 hv)
      refine lv_pop hx hb dL_law_1458 rfl ?_
      refine lv_goto (tgt := 1498) hx hb dL_law_1459 (by decide) ?_
      refine W.widen (k := 130 + 30 * jj) (n := 31200 + 1200 * jj) (by omega) (by omega) ?_
      exact hnx _ _ _ hW hax ham ⟨sq, im, ta, dh, lp, lh, yr, wh, ro, iz, kp, tm, dw, wd, (tt), (uu), (dd), (slm), (sfo), (fp), sgl, sgh, sgy, sgw, tp, gd, r1_120, qq, rk, tq, gm, gW, hsq, him, hta, hdh, hlp, hlh, hyr, hwh, hro, hiz, hkp, htm, hdw, hwd, ⟨by omega, by omega⟩, ⟨by omega, by omega⟩, ⟨by omega, by omega⟩, ⟨by omega, by omega⟩, ⟨by omega, by omega⟩, ⟨by omega, by omega⟩, hs121, hs122, hs123, hs124, hs125, hs126, hs127, hs128, hs129, hs130, hs131, hs132, hs154, hs155, hs150, hs151, hs152, hs153, hs133, hs134, hs135, hs136, hs137, tf_eqv hs138 (by omega), hs139, tf_eqv hs140 (by omega), tf_eqv hs141 (by omega), hs142, hs143, tf_eqv hs144 (by omega), hX120_0, hs145, hs146, hs147, hs148, hs149, hRL, hDD, hTP, hWW, hLM, hI0, hI1⟩ _ (lv_sub hl [0, 1, 2, 3] rfl)
  · rcases id hI1 with ⟨hkk, hbn⟩ | ⟨hkk, ss, slp, slh, syr, swh, slm, sfo, hss, hslp, hslh, hsyr, hswh, hslm, hsfo, hb1, hb2, hb3, hb4, hb5, hb8, hb9, hbR, hbM⟩
    · refine tf_calli (va_runV (As := [.int (Int32.ofInt ((sx (ii + 1))))]) (rest := []) ⟨hx, hb, hml, hown, hts⟩ (c_n1_X9_back l g T ax hax ((sx (ii + 1))) ⟨by omega, by omega⟩ im him) (cwV 1 hts gv_L_168 rfl rfl rfl hd_X9_back ⟨Nat.le_trans (by decide) hR1, Nat.le_trans (by decide) hR2⟩) (tf_preV hk hW hax (ci := 9) rfl rfl ⟨hf1, hbn⟩) rfl rfl hl.1 rfl (lv_room (Nat.le_of_ble_eq_true rfl)) dL_law_1445 ⟨Nat.le_trans (by omega) hR3, Nat.le_trans (by omega) hR4⟩) hW (by decide) (fun z156 H156 locs156 hW hF156 hp156 => ?_)
      have hs157 := tf_keepF hF156 hax rfl rfl (by decide) hf0
      have hs158 := tf_keepF hF156 hax rfl rfl (by decide) hf1
      have hs159 := tf_keepF hF156 hax rfl rfl (by decide) hf2
      have hs160 := tf_keepF hF156 hax rfl rfl (by decide) hf3
      have hs161 := tf_keepF hF156 hax rfl rfl (by decide) hf4
      have hs162 := tf_keepF hF156 hax rfl rfl (by decide) hf5
      have hs163 := tf_keepF hF156 hax rfl rfl (by decide) hf6
      have hs164 := tf_keepF hF156 hax rfl rfl (by decide) hf7
      have hs165 := tf_keepF hF156 hsq rfl rfl (by decide) hf8
      have hs166 := tf_keepF hF156 hsq rfl rfl (by decide) hf9
      have hs167 := tf_keepF hF156 hsq rfl rfl (by decide) hf10
      have hs168 := tf_keepF hF156 hsq rfl rfl (by decide) hf11
      have hs169 := tf_keepF hF156 hsq rfl rfl (by decide) hf12
      have hs170 := tf_keepF hF156 hsq rfl rfl (by decide) hf13
      have hs171 := tf_keepC hF156 hlp rfl (by decide) hf14
      have hs172 := tf_keepC hF156 hlh rfl (by decide) hf15
      have hs173 := tf_keepC hF156 hyr rfl (by decide) hf16
      have hs174 := tf_keepC hF156 hwh rfl (by decide) hf17
      have hs175 := tf_keepC hF156 hta rfl (by decide) hf18
      have hs176 := tf_keepC hF156 hdh rfl (by decide) hf19
      have hs177 := tf_keepF hF156 ham rfl rfl (by decide) hf20
      have hs178 := tf_keepF hF156 ham rfl rfl (by decide) hf21
      have hs179 := tf_keepF hF156 ham rfl rfl (by decide) hf22
      have hs180 := tf_keepF hF156 ham rfl rfl (by decide) hf23
      have hs181 := tf_keepF hF156 ham rfl rfl (by decide) hf24
      have hs182 := tf_keepF hF156 ham rfl rfl (by decide) hf25
      have hs183 := tf_keepF hF156 ham rfl rfl (by decide) hf26
      have hs184 := tf_keepF hF156 ham rfl rfl (by decide) hf27
      have hs185 := tf_keepF hF156 ham rfl rfl (by decide) hf28
      have hs186 := tf_keepF hF156 ham rfl rfl (by decide) hf29
      have hs187 := tf_keepC hF156 hro rfl (by decide) hf30
      have hs188 := tf_keepC hF156 hiz rfl (by decide) hf31
      have hs189 := tf_keepC hF156 hkp rfl (by decide) hf32
      have hs190 := tf_keepC hF156 htm rfl (by decide) hf33
      have hs191 := tf_keepC hF156 hdw rfl (by decide) hf34
      have hs192 := tf_keepC hF156 hwd rfl (by decide) hf35
      have hs193 := tf_keepS hF156 him rfl (by decide) hbn
      have hI0 := tf_IS1_keep hF156 him (by decide) (by decide) hI0
      have hI1 := tf_IS2_keep hF156 him (by decide) (by decide) hI1
      obtain ⟨hp156_0, hp156_1⟩ := hp156
      refine lv_pop hx hb dL_law_1448 rfl ?_
      refine lv_aload_n hx hb dL_law_1449 rfl (lv_at hl 1 rfl) ?_
      refine lv_aload_n hx hb dL_law_1450 rfl (lv_at hl 3 rfl) ?_
      refine lv_iload_n hx hb dL_law_1451 rfl (lv_at hl 0 rfl) ?_
      refine tf_iconst hx hb dL_law_1452 ?_
      refine tf_iadd hx hb dL_law_1453 ?_
      refine lw_sld (sx := sx) hx hb hX hbl hBs hL hW (by omega) (by omega) dL_law_1454 ?_
      have hsx194 := hsx (ii + 1)
      refine tf_calli (va_runV (As := [.int (Int32.ofInt ((sx (ii + 1))))]) (rest := []) ⟨hx, hb, hml, hown, hts⟩ (c_X10_back l g T am ham ((sx (ii + 1))) ⟨by omega, by omega⟩ ro hro iz hiz kp hkp rr qq rk) (cwV 1 hts gv_L_171 rfl rfl rfl hd_X10_back ⟨Nat.le_trans (by decide) hR1, Nat.le_trans (by decide) hR2⟩) (tf_preV hk hW ham (ci := 10) rfl rfl ⟨hs177, hs187, hs178, hs179, hs188, hs189⟩) rfl rfl hl.1 rfl (lv_room (Nat.le_of_ble_eq_true rfl)) dL_law_1455 ⟨Nat.le_trans (by omega) hR3, Nat.le_trans (by omega) hR4⟩) hW (by decide) (fun z195 H195 locs195 hW hF195 hp195 => ?_)
      have hs196 := tf_keepF hF195 hax rfl rfl (by decide) hs157
      have hs197 := tf_keepF hF195 hax rfl rfl (by decide) hs158
      have hs198 := tf_keepF hF195 hax rfl rfl (by decide) hs159
      have hs199 := tf_keepF hF195 hax rfl rfl (by decide) hs160
      have hs200 := tf_keepF hF195 hax rfl rfl (by decide) hs161
      have hs201 := tf_keepF hF195 hax rfl rfl (by decide) hs162
      have hs202 := tf_keepF hF195 hax rfl rfl (by decide) hs163
      have hs203 := tf_keepF hF195 hax rfl rfl (by decide) hs164
      have hs204 := tf_keepF hF195 hsq rfl rfl (by decide) hs165
      have hs205 := tf_keepF hF195 hsq rfl rfl (by decide) hs166
      have hs206 := tf_keepF hF195 hsq rfl rfl (by decide) hs167
      have hs207 := tf_keepF hF195 hsq rfl rfl (by decide) hs168
      have hs208 := tf_keepF hF195 hsq rfl rfl (by decide) hs169
      have hs209 := tf_keepF hF195 hsq rfl rfl (by decide) hs170
      have hs210 := tf_keepC hF195 hlp rfl (by decide) hs171
      have hs211 := tf_keepC hF195 hlh rfl (by decide) hs172
      have hs212 := tf_keepC hF195 hyr rfl (by decide) hs173
      have hs213 := tf_keepC hF195 hwh rfl (by decide) hs174
      have hs214 := tf_keepC hF195 hta rfl (by decide) hs175
      have hs215 := tf_keepC hF195 hdh rfl (by decide) hs176
      have hs216 := tf_keepF hF195 ham rfl rfl (by decide) hs177
      have hs217 := tf_keepF hF195 ham rfl rfl (by decide) hs178
      have hs218 := tf_keepF hF195 ham rfl rfl (by decide) hs179
      have hs219 := tf_keepF hF195 ham rfl rfl (by decide) hs180
      have hs220 := tf_keepF hF195 ham rfl rfl (by decide) hs181
      have hs221 := tf_keepF hF195 ham rfl rfl (by decide) hs182
      have hs222 := tf_keepF hF195 ham rfl rfl (by decide) hs183
      have hs223 := tf_keepF hF195 ham rfl rfl (by decide) hs184
      have hs224 := tf_keepF hF195 ham rfl rfl (by decide) hs185
      have hs225 := tf_keepF hF195 ham rfl rfl (by decide) hs186
      have hs226 := tf_keepC hF195 hiz rfl (by decide) hs188
      have hs227 := tf_keepC hF195 hkp rfl (by decide) hs189
      have hs228 := tf_keepC hF195 htm rfl (by decide) hs190
      have hs229 := tf_keepC hF195 hdw rfl (by decide) hs191
      have hs230 := tf_keepC hF195 hwd rfl (by decide) hs192
      have hI0 := tf_IS1_keep hF195 him (by decide) (by decide) hI0
      have hI1 := tf_IS2_keep hF195 him (by decide) (by decide) hI1
      obtain ⟨hp195_0, hp195_1, hp195_2⟩ := hp195
      obtain ⟨r1_195, hX195_0, hR195_0⟩ := hp195_2
      have hcc : rk ((sx (ii + 1))) = rk 1 := by rw [hv]
      obtain ⟨hzm, hr1⟩ : z195 = -2 ∧ r1_195 = rr := by
        rcases hR195_0 with ⟨a, -⟩ | ⟨-, -, a, b⟩ | ⟨-, a, -⟩
        · omega
        · exact ⟨a, b⟩
        · omega
      have hRL := tf_RL_to (rr1 := r1_195) hRL (fun _ _ _ => by rw [hr1])
      have hLM := tf_LM_q (r1 := r1_195) hLM (fun _ _ _ => by rw [hr1])
      refine lv_pop hx hb dL_law_1458 rfl ?_
      refine lv_goto (tgt := 1498) hx hb dL_law_1459 (by decide) ?_
      refine W.widen (k := 130 + 30 * jj) (n := 31200 + 1200 * jj) (by omega) (by omega) ?_
      exact hnx _ _ _ hW hax ham ⟨sq, im, ta, dh, lp, lh, yr, wh, ro, iz, kp, tm, dw, wd, (tt), (uu), (dd), (lm), (fo), (fp), gl, gh, gy, gw, tp, gd, r1_195, qq, rk, tq, gm, gW, hsq, him, hta, hdh, hlp, hlh, hyr, hwh, hro, hiz, hkp, htm, hdw, hwd, ⟨by omega, by omega⟩, ⟨by omega, by omega⟩, ⟨by omega, by omega⟩, ⟨by omega, by omega⟩, ⟨by omega, by omega⟩, ⟨by omega, by omega⟩, hs196, hs197, hs198, hs199, hs200, hs201, hs202, hs203, hs204, hs205, hs206, hs207, hs208, hs209, hs210, hs211, hs212, hs213, hs214, hs215, hs216, hs217, hs218, tf_eqv hs219 (by omega), hs220, tf_eqv hs221 (by omega), tf_eqv hs222 (by omega), hs223, hs224, tf_eqv hs225 (by omega), hX195_0, hs226, hs227, hs228, hs229, hs230, hRL, hDD, hTP, hWW, hLM, hI0, hI1⟩ _ (lv_sub hl [0, 1, 2, 3] rfl)
    · obtain ⟨sgl, hsgl⟩ := tf_rname hW slp
      obtain ⟨sgh, hsgh⟩ := tf_rname hW slh
      obtain ⟨sgy, hsgy⟩ := tf_rname hW syr
      obtain ⟨sgw, hsgw⟩ := tf_rname hW swh
      rw [hsgl, hsgh, hsgy, hsgw] at hbR
      refine tf_calli (va_runV (As := [.int (Int32.ofInt ((sx (ii + 1))))]) (rest := []) ⟨hx, hb, hml, hown, hts⟩ (c_s1_X9_back l g T ax hax ((sx (ii + 1))) ⟨by omega, by omega⟩ sq hsq im him lp hlp lh hlh yr hyr wh hwh ss hss slp hslp slh hslh syr hsyr swh hswh gl gh gy gw sgl sgh sgy sgw (slm) ⟨by omega, by omega⟩ (sfo) ⟨by omega, by omega⟩) (cwV 1 hts gv_L_168 rfl rfl rfl hd_X9_back ⟨Nat.le_trans (by decide) hR1, Nat.le_trans (by decide) hR2⟩) (tf_preV hk hW hax (ci := 9) rfl rfl ⟨hf0, hf8, hf9, hf10, hf11, hf14, hf15, hf16, hf17, hf1, hb1, hb2, hb3, hb4, hb5, hsgl, hsgh, hsgy, hsgw, hb8, hb9⟩) rfl rfl hl.1 rfl (lv_room (Nat.le_of_ble_eq_true rfl)) dL_law_1445 ⟨Nat.le_trans (by omega) hR3, Nat.le_trans (by omega) hR4⟩) hW (by decide) (fun z231 H231 locs231 hW hF231 hp231 => ?_)
      have hs232 := tf_keepF hF231 hax rfl rfl (by decide) hf0
      have hs233 := tf_keepF hF231 hax rfl rfl (by decide) hf1
      have hs234 := tf_keepF hF231 hax rfl rfl (by decide) hf2
      have hs235 := tf_keepF hF231 hax rfl rfl (by decide) hf3
      have hs236 := tf_keepF hF231 hax rfl rfl (by decide) hf4
      have hs237 := tf_keepF hF231 hax rfl rfl (by decide) hf5
      have hs238 := tf_keepF hF231 hax rfl rfl (by decide) hf6
      have hs239 := tf_keepF hF231 hax rfl rfl (by decide) hf7
      have hs240 := tf_keepF hF231 hsq rfl rfl (by decide) hf8
      have hs241 := tf_keepF hF231 hsq rfl rfl (by decide) hf9
      have hs242 := tf_keepF hF231 hsq rfl rfl (by decide) hf10
      have hs243 := tf_keepF hF231 hsq rfl rfl (by decide) hf11
      have hs244 := tf_keepC hF231 hta rfl (by decide) hf18
      have hs245 := tf_keepC hF231 hdh rfl (by decide) hf19
      have hs246 := tf_keepF hF231 ham rfl rfl (by decide) hf20
      have hs247 := tf_keepF hF231 ham rfl rfl (by decide) hf21
      have hs248 := tf_keepF hF231 ham rfl rfl (by decide) hf22
      have hs249 := tf_keepF hF231 ham rfl rfl (by decide) hf23
      have hs250 := tf_keepF hF231 ham rfl rfl (by decide) hf24
      have hs251 := tf_keepF hF231 ham rfl rfl (by decide) hf25
      have hs252 := tf_keepF hF231 ham rfl rfl (by decide) hf26
      have hs253 := tf_keepF hF231 ham rfl rfl (by decide) hf27
      have hs254 := tf_keepF hF231 ham rfl rfl (by decide) hf28
      have hs255 := tf_keepF hF231 ham rfl rfl (by decide) hf29
      have hs256 := tf_keepC hF231 hro rfl (by decide) hf30
      have hs257 := tf_keepC hF231 hiz rfl (by decide) hf31
      have hs258 := tf_keepC hF231 hkp rfl (by decide) hf32
      have hs259 := tf_keepC hF231 htm rfl (by decide) hf33
      have hs260 := tf_keepC hF231 hdw rfl (by decide) hf34
      have hs261 := tf_keepC hF231 hwd rfl (by decide) hf35
      have hs262 := tf_keepS hF231 him rfl (by decide) hb1
      have hs263 := tf_keepF hF231 hss rfl rfl (by decide) hb2
      have hs264 := tf_keepC hF231 hslp rfl (by decide) hsgl
      have hs265 := tf_keepF hF231 hss rfl rfl (by decide) hb3
      have hs266 := tf_keepC hF231 hslh rfl (by decide) hsgh
      have hs267 := tf_keepF hF231 hss rfl rfl (by decide) hb4
      have hs268 := tf_keepC hF231 hsyr rfl (by decide) hsgy
      have hs269 := tf_keepF hF231 hss rfl rfl (by decide) hb5
      have hs270 := tf_keepC hF231 hswh rfl (by decide) hsgw
      have hs271 := tf_keepF hF231 hss rfl rfl (by decide) hb8
      have hs272 := tf_keepF hF231 hss rfl rfl (by decide) hb9
      have hI0 := tf_IS1_keep hF231 him (by decide) (by decide) hI0
      have hI1 := tf_IS2_keep hF231 him (by decide) (by decide) hI1
      obtain ⟨hp231_0, hp231_1, hp231_2⟩ := hp231
      obtain ⟨hw231_0, hw231_1, hw231_2, hw231_3, hw231_4, hw231_5⟩ := hp231_2
      refine lv_pop hx hb dL_law_1448 rfl ?_
      refine lv_aload_n hx hb dL_law_1449 rfl (lv_at hl 1 rfl) ?_
      refine lv_aload_n hx hb dL_law_1450 rfl (lv_at hl 3 rfl) ?_
      refine lv_iload_n hx hb dL_law_1451 rfl (lv_at hl 0 rfl) ?_
      refine tf_iconst hx hb dL_law_1452 ?_
      refine tf_iadd hx hb dL_law_1453 ?_
      refine lw_sld (sx := sx) hx hb hX hbl hBs hL hW (by omega) (by omega) dL_law_1454 ?_
      have hsx273 := hsx (ii + 1)
      refine tf_calli (va_runV (As := [.int (Int32.ofInt ((sx (ii + 1))))]) (rest := []) ⟨hx, hb, hml, hown, hts⟩ (c_X10_back l g T am ham ((sx (ii + 1))) ⟨by omega, by omega⟩ ro hro iz hiz kp hkp rr qq rk) (cwV 1 hts gv_L_171 rfl rfl rfl hd_X10_back ⟨Nat.le_trans (by decide) hR1, Nat.le_trans (by decide) hR2⟩) (tf_preV hk hW ham (ci := 10) rfl rfl ⟨hs246, hs256, hs247, hs248, hs257, hs258⟩) rfl rfl hl.1 rfl (lv_room (Nat.le_of_ble_eq_true rfl)) dL_law_1455 ⟨Nat.le_trans (by omega) hR3, Nat.le_trans (by omega) hR4⟩) hW (by decide) (fun z274 H274 locs274 hW hF274 hp274 => ?_)
      have hs275 := tf_keepF hF274 hax rfl rfl (by decide) hs232
      have hs276 := tf_keepF hF274 hax rfl rfl (by decide) hs233
      have hs277 := tf_keepF hF274 hax rfl rfl (by decide) hs234
      have hs278 := tf_keepF hF274 hax rfl rfl (by decide) hs235
      have hs279 := tf_keepF hF274 hax rfl rfl (by decide) hs236
      have hs280 := tf_keepF hF274 hax rfl rfl (by decide) hs237
      have hs281 := tf_keepF hF274 hax rfl rfl (by decide) hs238
      have hs282 := tf_keepF hF274 hax rfl rfl (by decide) hs239
      have hs283 := tf_keepF hF274 hsq rfl rfl (by decide) hs240
      have hs284 := tf_keepF hF274 hsq rfl rfl (by decide) hs241
      have hs285 := tf_keepF hF274 hsq rfl rfl (by decide) hs242
      have hs286 := tf_keepF hF274 hsq rfl rfl (by decide) hs243
      have hs287 := tf_keepC hF274 hta rfl (by decide) hs244
      have hs288 := tf_keepC hF274 hdh rfl (by decide) hs245
      have hs289 := tf_keepF hF274 ham rfl rfl (by decide) hs246
      have hs290 := tf_keepF hF274 ham rfl rfl (by decide) hs247
      have hs291 := tf_keepF hF274 ham rfl rfl (by decide) hs248
      have hs292 := tf_keepF hF274 ham rfl rfl (by decide) hs249
      have hs293 := tf_keepF hF274 ham rfl rfl (by decide) hs250
      have hs294 := tf_keepF hF274 ham rfl rfl (by decide) hs251
      have hs295 := tf_keepF hF274 ham rfl rfl (by decide) hs252
      have hs296 := tf_keepF hF274 ham rfl rfl (by decide) hs253
      have hs297 := tf_keepF hF274 ham rfl rfl (by decide) hs254
      have hs298 := tf_keepF hF274 ham rfl rfl (by decide) hs255
      have hs299 := tf_keepC hF274 hiz rfl (by decide) hs257
      have hs300 := tf_keepC hF274 hkp rfl (by decide) hs258
      have hs301 := tf_keepC hF274 htm rfl (by decide) hs259
      have hs302 := tf_keepC hF274 hdw rfl (by decide) hs260
      have hs303 := tf_keepC hF274 hwd rfl (by decide) hs261
      have hs304 := tf_keepC hF274 hlp rfl (by decide) hw231_0
      have hs305 := tf_keepC hF274 hlh rfl (by decide) hw231_1
      have hs306 := tf_keepC hF274 hyr rfl (by decide) hw231_2
      have hs307 := tf_keepC hF274 hwh rfl (by decide) hw231_3
      have hs308 := tf_keepF hF274 hsq rfl rfl (by decide) hw231_4
      have hs309 := tf_keepF hF274 hsq rfl rfl (by decide) hw231_5
      have hI0 := tf_IS1_keep hF274 him (by decide) (by decide) hI0
      have hI1 := tf_IS2_keep hF274 him (by decide) (by decide) hI1
      obtain ⟨hp274_0, hp274_1, hp274_2⟩ := hp274
      obtain ⟨r1_274, hX274_0, hR274_0⟩ := hp274_2
      have hcc : rk ((sx (ii + 1))) = rk 1 := by rw [hv]
      obtain ⟨hzm, hr1⟩ : z274 = 0 ∧ tf_bk rr qq ((sx (ii + 1))) 5830 r1_274 := by
        rcases hR274_0 with ⟨a, -⟩ | ⟨-, a, -⟩ | ⟨-, -, a, b⟩
        · omega
        · omega
        · exact ⟨a, b⟩
      have hRL := tf_RL_to hbR (tf_bk_at hr1 hv)
      have hLM := tf_LM_q hbM (tf_bk_at hr1 hv)
      refine lv_pop hx hb dL_law_1458 rfl ?_
      refine lv_goto (tgt := 1498) hx hb dL_law_1459 (by decide) ?_
      refine W.widen (k := 130 + 30 * jj) (n := 31200 + 1200 * jj) (by omega) (by omega) ?_
      exact hnx _ _ _ hW hax ham ⟨sq, im, ta, dh, lp, lh, yr, wh, ro, iz, kp, tm, dw, wd, (tt), (uu), (dd), (slm), (sfo), (fp), sgl, sgh, sgy, sgw, tp, gd, r1_274, qq, rk, tq, gm, gW, hsq, him, hta, hdh, hlp, hlh, hyr, hwh, hro, hiz, hkp, htm, hdw, hwd, ⟨by omega, by omega⟩, ⟨by omega, by omega⟩, ⟨by omega, by omega⟩, ⟨by omega, by omega⟩, ⟨by omega, by omega⟩, ⟨by omega, by omega⟩, hs275, hs276, hs277, hs278, hs279, hs280, hs281, hs282, hs283, hs284, hs285, hs286, hs308, hs309, hs304, hs305, hs306, hs307, hs287, hs288, hs289, hs290, hs291, tf_eqv hs292 (by omega), hs293, tf_eqv hs294 (by omega), tf_eqv hs295 (by omega), hs296, hs297, tf_eqv hs298 (by omega), hX274_0, hs299, hs300, hs301, hs302, hs303, hRL, hDD, hTP, hWW, hLM, hI0, hI1⟩ _ (lv_sub hl [0, 1, 2, 3] rfl)
  · refine tf_calli (va_runV (As := [.int (Int32.ofInt ((sx (ii + 1))))]) (rest := []) ⟨hx, hb, hml, hown, hts⟩ (c_r_X9_back l g T ax hax ((sx (ii + 1))) ⟨by omega, by omega⟩ (by omega)) (cwV 1 hts gv_L_168 rfl rfl rfl hd_X9_back ⟨Nat.le_trans (by decide) hR1, Nat.le_trans (by decide) hR2⟩) (tf_preV hk hW hax (ci := 9) rfl rfl trivial) rfl rfl hl.1 rfl (lv_room (Nat.le_of_ble_eq_true rfl)) dL_law_1445 ⟨Nat.le_trans (by omega) hR3, Nat.le_trans (by omega) hR4⟩) hW (by decide) (fun z310 H310 locs310 hW hF310 hp310 => ?_)
    have hs311 := tf_keepF hF310 hax rfl rfl (by decide) hf0
    have hs312 := tf_keepF hF310 hax rfl rfl (by decide) hf1
    have hs313 := tf_keepF hF310 hax rfl rfl (by decide) hf2
    have hs314 := tf_keepF hF310 hax rfl rfl (by decide) hf3
    have hs315 := tf_keepF hF310 hax rfl rfl (by decide) hf4
    have hs316 := tf_keepF hF310 hax rfl rfl (by decide) hf5
    have hs317 := tf_keepF hF310 hax rfl rfl (by decide) hf6
    have hs318 := tf_keepF hF310 hax rfl rfl (by decide) hf7
    have hs319 := tf_keepF hF310 hsq rfl rfl (by decide) hf8
    have hs320 := tf_keepF hF310 hsq rfl rfl (by decide) hf9
    have hs321 := tf_keepF hF310 hsq rfl rfl (by decide) hf10
    have hs322 := tf_keepF hF310 hsq rfl rfl (by decide) hf11
    have hs323 := tf_keepF hF310 hsq rfl rfl (by decide) hf12
    have hs324 := tf_keepF hF310 hsq rfl rfl (by decide) hf13
    have hs325 := tf_keepC hF310 hlp rfl (by decide) hf14
    have hs326 := tf_keepC hF310 hlh rfl (by decide) hf15
    have hs327 := tf_keepC hF310 hyr rfl (by decide) hf16
    have hs328 := tf_keepC hF310 hwh rfl (by decide) hf17
    have hs329 := tf_keepC hF310 hta rfl (by decide) hf18
    have hs330 := tf_keepC hF310 hdh rfl (by decide) hf19
    have hs331 := tf_keepF hF310 ham rfl rfl (by decide) hf20
    have hs332 := tf_keepF hF310 ham rfl rfl (by decide) hf21
    have hs333 := tf_keepF hF310 ham rfl rfl (by decide) hf22
    have hs334 := tf_keepF hF310 ham rfl rfl (by decide) hf23
    have hs335 := tf_keepF hF310 ham rfl rfl (by decide) hf24
    have hs336 := tf_keepF hF310 ham rfl rfl (by decide) hf25
    have hs337 := tf_keepF hF310 ham rfl rfl (by decide) hf26
    have hs338 := tf_keepF hF310 ham rfl rfl (by decide) hf27
    have hs339 := tf_keepF hF310 ham rfl rfl (by decide) hf28
    have hs340 := tf_keepF hF310 ham rfl rfl (by decide) hf29
    have hs341 := tf_keepC hF310 hro rfl (by decide) hf30
    have hs342 := tf_keepC hF310 hiz rfl (by decide) hf31
    have hs343 := tf_keepC hF310 hkp rfl (by decide) hf32
    have hs344 := tf_keepC hF310 htm rfl (by decide) hf33
    have hs345 := tf_keepC hF310 hdw rfl (by decide) hf34
    have hs346 := tf_keepC hF310 hwd rfl (by decide) hf35
    have hI0 := tf_IS1_keep hF310 him (by decide) (by decide) hI0
    have hI1 := tf_IS2_keep hF310 him (by decide) (by decide) hI1
    obtain ⟨hp310_0, hp310_1⟩ := hp310
    refine lv_pop hx hb dL_law_1448 rfl ?_
    refine lv_aload_n hx hb dL_law_1449 rfl (lv_at hl 1 rfl) ?_
    refine lv_aload_n hx hb dL_law_1450 rfl (lv_at hl 3 rfl) ?_
    refine lv_iload_n hx hb dL_law_1451 rfl (lv_at hl 0 rfl) ?_
    refine tf_iconst hx hb dL_law_1452 ?_
    refine tf_iadd hx hb dL_law_1453 ?_
    refine lw_sld (sx := sx) hx hb hX hbl hBs hL hW (by omega) (by omega) dL_law_1454 ?_
    have hsx347 := hsx (ii + 1)
    refine tf_calli (va_runV (As := [.int (Int32.ofInt ((sx (ii + 1))))]) (rest := []) ⟨hx, hb, hml, hown, hts⟩ (c_X10_back l g T am ham ((sx (ii + 1))) ⟨by omega, by omega⟩ ro hro iz hiz kp hkp rr qq rk) (cwV 1 hts gv_L_171 rfl rfl rfl hd_X10_back ⟨Nat.le_trans (by decide) hR1, Nat.le_trans (by decide) hR2⟩) (tf_preV hk hW ham (ci := 10) rfl rfl ⟨hs331, hs341, hs332, hs333, hs342, hs343⟩) rfl rfl hl.1 rfl (lv_room (Nat.le_of_ble_eq_true rfl)) dL_law_1455 ⟨Nat.le_trans (by omega) hR3, Nat.le_trans (by omega) hR4⟩) hW (by decide) (fun z348 H348 locs348 hW hF348 hp348 => ?_)
    have hs349 := tf_keepF hF348 hax rfl rfl (by decide) hs311
    have hs350 := tf_keepF hF348 hax rfl rfl (by decide) hs312
    have hs351 := tf_keepF hF348 hax rfl rfl (by decide) hs313
    have hs352 := tf_keepF hF348 hax rfl rfl (by decide) hs314
    have hs353 := tf_keepF hF348 hax rfl rfl (by decide) hs315
    have hs354 := tf_keepF hF348 hax rfl rfl (by decide) hs316
    have hs355 := tf_keepF hF348 hax rfl rfl (by decide) hs317
    have hs356 := tf_keepF hF348 hax rfl rfl (by decide) hs318
    have hs357 := tf_keepF hF348 hsq rfl rfl (by decide) hs319
    have hs358 := tf_keepF hF348 hsq rfl rfl (by decide) hs320
    have hs359 := tf_keepF hF348 hsq rfl rfl (by decide) hs321
    have hs360 := tf_keepF hF348 hsq rfl rfl (by decide) hs322
    have hs361 := tf_keepF hF348 hsq rfl rfl (by decide) hs323
    have hs362 := tf_keepF hF348 hsq rfl rfl (by decide) hs324
    have hs363 := tf_keepC hF348 hlp rfl (by decide) hs325
    have hs364 := tf_keepC hF348 hlh rfl (by decide) hs326
    have hs365 := tf_keepC hF348 hyr rfl (by decide) hs327
    have hs366 := tf_keepC hF348 hwh rfl (by decide) hs328
    have hs367 := tf_keepC hF348 hta rfl (by decide) hs329
    have hs368 := tf_keepC hF348 hdh rfl (by decide) hs330
    have hs369 := tf_keepF hF348 ham rfl rfl (by decide) hs331
    have hs370 := tf_keepF hF348 ham rfl rfl (by decide) hs332
    have hs371 := tf_keepF hF348 ham rfl rfl (by decide) hs333
    have hs372 := tf_keepF hF348 ham rfl rfl (by decide) hs334
    have hs373 := tf_keepF hF348 ham rfl rfl (by decide) hs335
    have hs374 := tf_keepF hF348 ham rfl rfl (by decide) hs336
    have hs375 := tf_keepF hF348 ham rfl rfl (by decide) hs337
    have hs376 := tf_keepF hF348 ham rfl rfl (by decide) hs338
    have hs377 := tf_keepF hF348 ham rfl rfl (by decide) hs339
    have hs378 := tf_keepF hF348 ham rfl rfl (by decide) hs340
    have hs379 := tf_keepC hF348 hiz rfl (by decide) hs342
    have hs380 := tf_keepC hF348 hkp rfl (by decide) hs343
    have hs381 := tf_keepC hF348 htm rfl (by decide) hs344
    have hs382 := tf_keepC hF348 hdw rfl (by decide) hs345
    have hs383 := tf_keepC hF348 hwd rfl (by decide) hs346
    have hI0 := tf_IS1_keep hF348 him (by decide) (by decide) hI0
    have hI1 := tf_IS2_keep hF348 him (by decide) (by decide) hI1
    obtain ⟨hp348_0, hp348_1, hp348_2⟩ := hp348
    obtain ⟨r1_348, hX348_0, hR348_0⟩ := hp348_2
    obtain ⟨hzm, hr1⟩ : z348 = -1 ∧ r1_348 = rr := by
      rcases hR348_0 with ⟨-, a, b⟩ | ⟨a, -⟩ | ⟨a, -⟩
      · exact ⟨a, b⟩
      · omega
      · omega
    have hRL := tf_RL_to (rr1 := r1_348) hRL (fun _ _ _ => by rw [hr1])
    have hLM := tf_LM_q (r1 := r1_348) hLM (fun _ _ _ => by rw [hr1])
    refine lv_pop hx hb dL_law_1458 rfl ?_
    refine lv_goto (tgt := 1498) hx hb dL_law_1459 (by decide) ?_
    refine W.widen (k := 130 + 30 * jj) (n := 31200 + 1200 * jj) (by omega) (by omega) ?_
    exact hnx _ _ _ hW hax ham ⟨sq, im, ta, dh, lp, lh, yr, wh, ro, iz, kp, tm, dw, wd, (tt), (uu), (dd), (lm), (fo), (fp), gl, gh, gy, gw, tp, gd, r1_348, qq, rk, tq, gm, gW, hsq, him, hta, hdh, hlp, hlh, hyr, hwh, hro, hiz, hkp, htm, hdw, hwd, ⟨by omega, by omega⟩, ⟨by omega, by omega⟩, ⟨by omega, by omega⟩, ⟨by omega, by omega⟩, ⟨by omega, by omega⟩, ⟨by omega, by omega⟩, hs349, hs350, hs351, hs352, hs353, hs354, hs355, hs356, hs357, hs358, hs359, hs360, hs361, hs362, hs363, hs364, hs365, hs366, hs367, hs368, hs369, hs370, hs371, tf_eqv hs372 (by omega), hs373, tf_eqv hs374 (by omega), tf_eqv hs375 (by omega), hs376, hs377, tf_eqv hs378 (by omega), hX348_0, hs379, hs380, hs381, hs382, hs383, hRL, hDD, hTP, hWW, hLM, hI0, hI1⟩ _ (lv_sub hl [0, 1, 2, 3] rfl)

set_option maxHeartbeats 4000000 in
set_option maxRecDepth 100000 in
theorem lc_1462 {p : Program} {l : Launch} {e : Env} {s : State} {m : MethodId} {below : List Frame} {meth : Method} {c : Code} {b L : Nat} {g : tf_G} {sx : Int → Int} {Q : State → Prop} (E : lw_E p s m c b L g sx) (ax am jj : Nat) (ii : Int) (hii : ii = 6 * (jj : Int)) (hij : ii + 6 ≤ (L : Int)) (hnx : lw_nx p l e s m below meth c b g ax am jj ii Q) (T : tf_T) (H : Heap) (locs : List Loc) (hW : tf_n tf_kt g M_law (fun _ => none) s.heap T H locs) (hax : T ax = some (39, 0)) (ham : T am = some (63, 0)) (hI : lw_I g T H ax am) (ls : Array Slot) (hl : lv_has ls 4 [(3, .int (Int32.ofInt ii)), (2, .ref am), (1, .ref ax), (0, .ref b)]) : W p l e room_1 s m #[Value.ref b] below meth c H locs (100 + 30 * jj) (30000 + 1200 * jj) Q (F0 m 1462 ls []) := by
  obtain ⟨hx, hb, hml, hown, hts, hbl, hk, hBs, hsx, hX, hL⟩ := id E
  have hR1 := lw_R1
  have hR2 := lw_R2
  have hR3 := lw_R3
  have hR4 := lw_R4
  have hK := hk.1
  have hE : tf_E g T := trivial
  obtain ⟨sq, im, ta, dh, lp, lh, yr, wh, ro, iz, kp, tm, dw, wd, tt, uu, dd, lm, fo, fp, gl, gh, gy, gw, tp, gd, rr, qq, rk, tq, gm, gW, hsq, him, hta, hdh, hlp, hlh, hyr, hwh, hro, hiz, hkp, htm, hdw, hwd, htt, huu, hdd, hlm, hfo, hfp, hf0, hf1, hf2, hf3, hf4, hf5, hf6, hf7, hf8, hf9, hf10, hf11, hf12, hf13, hf14, hf15, hf16, hf17, hf18, hf19, hf20, hf21, hf22, hf23, hf24, hf25, hf26, hf27, hf28, hf29, hf30, hf31, hf32, hf33, hf34, hf35, hRL, hDD, hTP, hWW, hLM, hI0, hI1⟩ := hI
  have hWS : tf_WS gy gw := hRL.2.2
  refine lv_aload_n hx hb dL_law_1462 rfl (lv_at hl 2 rfl) ?_
  refine lv_aload_n hx hb dL_law_1463 rfl (lv_at hl 3 rfl) ?_
  refine lv_iload_n hx hb dL_law_1464 rfl (lv_at hl 0 rfl) ?_
  refine tf_iconst hx hb dL_law_1465 ?_
  refine tf_iadd hx hb dL_law_1466 ?_
  refine lw_sld (sx := sx) hx hb hX hbl hBs hL hW (by omega) (by omega) dL_law_1467 ?_
  have hsx1 := hsx (ii + 1)
  refine tf_calli (va_runV (As := [.int (Int32.ofInt ((sx (ii + 1))))]) (rest := []) ⟨hx, hb, hml, hown, hts⟩ (c_X9_count l g T ax hax ((sx (ii + 1))) ⟨by omega, by omega⟩ sq hsq yr hyr wh hwh gy gw (by first | assumption | omega)) (cwV 1 hts gv_L_172 rfl rfl rfl hd_X9_count ⟨Nat.le_trans (by decide) hR1, Nat.le_trans (by decide) hR2⟩) (tf_preV hk hW hax (ci := 9) rfl rfl ⟨hf0, hf10, hf11, hf16, hf17⟩) rfl rfl hl.1 rfl (lv_room (Nat.le_of_ble_eq_true rfl)) dL_law_1468 ⟨Nat.le_trans (by omega) hR3, Nat.le_trans (by omega) hR4⟩) hW (by decide) (fun z2 H2 locs2 hW hF2 hp2 => ?_)
  have hs3 := tf_keepF hF2 hax rfl rfl (by decide) hf0
  have hs4 := tf_keepF hF2 hax rfl rfl (by decide) hf1
  have hs5 := tf_keepF hF2 hax rfl rfl (by decide) hf2
  have hs6 := tf_keepF hF2 hax rfl rfl (by decide) hf3
  have hs7 := tf_keepF hF2 hax rfl rfl (by decide) hf4
  have hs8 := tf_keepF hF2 hax rfl rfl (by decide) hf5
  have hs9 := tf_keepF hF2 hax rfl rfl (by decide) hf6
  have hs10 := tf_keepF hF2 hax rfl rfl (by decide) hf7
  have hs11 := tf_keepF hF2 hsq rfl rfl (by decide) hf8
  have hs12 := tf_keepF hF2 hsq rfl rfl (by decide) hf9
  have hs13 := tf_keepF hF2 hsq rfl rfl (by decide) hf10
  have hs14 := tf_keepF hF2 hsq rfl rfl (by decide) hf11
  have hs15 := tf_keepF hF2 hsq rfl rfl (by decide) hf12
  have hs16 := tf_keepF hF2 hsq rfl rfl (by decide) hf13
  have hs17 := tf_keepC hF2 hlp rfl (by decide) hf14
  have hs18 := tf_keepC hF2 hlh rfl (by decide) hf15
  have hs19 := tf_keepC hF2 hyr rfl (by decide) hf16
  have hs20 := tf_keepC hF2 hwh rfl (by decide) hf17
  have hs21 := tf_keepC hF2 hta rfl (by decide) hf18
  have hs22 := tf_keepC hF2 hdh rfl (by decide) hf19
  have hs23 := tf_keepF hF2 ham rfl rfl (by decide) hf20
  have hs24 := tf_keepF hF2 ham rfl rfl (by decide) hf21
  have hs25 := tf_keepF hF2 ham rfl rfl (by decide) hf22
  have hs26 := tf_keepF hF2 ham rfl rfl (by decide) hf23
  have hs27 := tf_keepF hF2 ham rfl rfl (by decide) hf24
  have hs28 := tf_keepF hF2 ham rfl rfl (by decide) hf25
  have hs29 := tf_keepF hF2 ham rfl rfl (by decide) hf26
  have hs30 := tf_keepF hF2 ham rfl rfl (by decide) hf27
  have hs31 := tf_keepF hF2 ham rfl rfl (by decide) hf28
  have hs32 := tf_keepF hF2 ham rfl rfl (by decide) hf29
  have hs33 := tf_keepC hF2 hro rfl (by decide) hf30
  have hs34 := tf_keepC hF2 hiz rfl (by decide) hf31
  have hs35 := tf_keepC hF2 hkp rfl (by decide) hf32
  have hs36 := tf_keepC hF2 htm rfl (by decide) hf33
  have hs37 := tf_keepC hF2 hdw rfl (by decide) hf34
  have hs38 := tf_keepC hF2 hwd rfl (by decide) hf35
  have hI0 := tf_IS1_keep hF2 him (by decide) (by decide) hI0
  have hI1 := tf_IS2_keep hF2 him (by decide) (by decide) hI1
  obtain ⟨hp2_0, hp2_1⟩ := hp2
  refine lv_pop hx hb dL_law_1471 rfl ?_
  refine lv_aload_n hx hb dL_law_1472 rfl (lv_at hl 1 rfl) ?_
  refine lv_aload_n hx hb dL_law_1473 rfl (lv_at hl 3 rfl) ?_
  refine lv_iload_n hx hb dL_law_1474 rfl (lv_at hl 0 rfl) ?_
  refine tf_iconst hx hb dL_law_1475 ?_
  refine tf_iadd hx hb dL_law_1476 ?_
  refine lw_sld (sx := sx) hx hb hX hbl hBs hL hW (by omega) (by omega) dL_law_1477 ?_
  have hsx39 := hsx (ii + 1)
  refine tf_calli (va_runV (As := [.int (Int32.ofInt ((sx (ii + 1))))]) (rest := []) ⟨hx, hb, hml, hown, hts⟩ (c_X10_count l g T am ham ((sx (ii + 1))) ⟨by omega, by omega⟩) (cwV 1 hts gv_L_175 rfl rfl rfl hd_X10_count ⟨Nat.le_trans (by decide) hR1, Nat.le_trans (by decide) hR2⟩) (tf_preV hk hW ham (ci := 10) rfl rfl trivial) rfl rfl hl.1 rfl (lv_room (Nat.le_of_ble_eq_true rfl)) dL_law_1478 ⟨Nat.le_trans (by omega) hR3, Nat.le_trans (by omega) hR4⟩) hW (by decide) (fun z40 H40 locs40 hW hF40 hp40 => ?_)
  have hs41 := tf_keepF hF40 hax rfl rfl (by decide) hs3
  have hs42 := tf_keepF hF40 hax rfl rfl (by decide) hs4
  have hs43 := tf_keepF hF40 hax rfl rfl (by decide) hs5
  have hs44 := tf_keepF hF40 hax rfl rfl (by decide) hs6
  have hs45 := tf_keepF hF40 hax rfl rfl (by decide) hs7
  have hs46 := tf_keepF hF40 hax rfl rfl (by decide) hs8
  have hs47 := tf_keepF hF40 hax rfl rfl (by decide) hs9
  have hs48 := tf_keepF hF40 hax rfl rfl (by decide) hs10
  have hs49 := tf_keepF hF40 hsq rfl rfl (by decide) hs11
  have hs50 := tf_keepF hF40 hsq rfl rfl (by decide) hs12
  have hs51 := tf_keepF hF40 hsq rfl rfl (by decide) hs13
  have hs52 := tf_keepF hF40 hsq rfl rfl (by decide) hs14
  have hs53 := tf_keepF hF40 hsq rfl rfl (by decide) hs15
  have hs54 := tf_keepF hF40 hsq rfl rfl (by decide) hs16
  have hs55 := tf_keepC hF40 hlp rfl (by decide) hs17
  have hs56 := tf_keepC hF40 hlh rfl (by decide) hs18
  have hs57 := tf_keepC hF40 hyr rfl (by decide) hs19
  have hs58 := tf_keepC hF40 hwh rfl (by decide) hs20
  have hs59 := tf_keepC hF40 hta rfl (by decide) hs21
  have hs60 := tf_keepC hF40 hdh rfl (by decide) hs22
  have hs61 := tf_keepF hF40 ham rfl rfl (by decide) hs23
  have hs62 := tf_keepF hF40 ham rfl rfl (by decide) hs24
  have hs63 := tf_keepF hF40 ham rfl rfl (by decide) hs25
  have hs64 := tf_keepF hF40 ham rfl rfl (by decide) hs26
  have hs65 := tf_keepF hF40 ham rfl rfl (by decide) hs27
  have hs66 := tf_keepF hF40 ham rfl rfl (by decide) hs28
  have hs67 := tf_keepF hF40 ham rfl rfl (by decide) hs29
  have hs68 := tf_keepF hF40 ham rfl rfl (by decide) hs30
  have hs69 := tf_keepF hF40 ham rfl rfl (by decide) hs31
  have hs70 := tf_keepF hF40 ham rfl rfl (by decide) hs32
  have hs71 := tf_keepC hF40 hro rfl (by decide) hs33
  have hs72 := tf_keepC hF40 hiz rfl (by decide) hs34
  have hs73 := tf_keepC hF40 hkp rfl (by decide) hs35
  have hs74 := tf_keepC hF40 htm rfl (by decide) hs36
  have hs75 := tf_keepC hF40 hdw rfl (by decide) hs37
  have hs76 := tf_keepC hF40 hwd rfl (by decide) hs38
  have hI0 := tf_IS1_keep hF40 him (by decide) (by decide) hI0
  have hI1 := tf_IS2_keep hF40 him (by decide) (by decide) hI1
  obtain ⟨hp40_0, hp40_1⟩ := hp40
  refine lv_pop hx hb dL_law_1481 rfl ?_
  refine lv_goto (tgt := 1498) hx hb dL_law_1482 (by decide) ?_
  refine W.widen (k := 130 + 30 * jj) (n := 31200 + 1200 * jj) (by omega) (by omega) ?_
  exact hnx _ _ _ hW hax ham ⟨sq, im, ta, dh, lp, lh, yr, wh, ro, iz, kp, tm, dw, wd, (tt), (uu), (dd), (lm), (fo), (fp), gl, gh, gy, gw, tp, gd, rr, qq, rk, tq, gm, gW, hsq, him, hta, hdh, hlp, hlh, hyr, hwh, hro, hiz, hkp, htm, hdw, hwd, ⟨by omega, by omega⟩, ⟨by omega, by omega⟩, ⟨by omega, by omega⟩, ⟨by omega, by omega⟩, ⟨by omega, by omega⟩, ⟨by omega, by omega⟩, hs41, hs42, hs43, hs44, hs45, hs46, hs47, hs48, hs49, hs50, hs51, hs52, hs53, hs54, hs55, hs56, hs57, hs58, hs59, hs60, hs61, hs62, hs63, tf_eqv hs64 (by omega), hs65, tf_eqv hs66 (by omega), tf_eqv hs67 (by omega), hs68, hs69, tf_eqv hs70 (by omega), hs71, hs72, hs73, hs74, hs75, hs76, hRL, hDD, hTP, hWW, hLM, hI0, hI1⟩ _ (lv_sub hl [0, 1, 2, 3] rfl)

set_option maxHeartbeats 4000000 in
set_option maxRecDepth 100000 in
theorem lc_1485 {p : Program} {l : Launch} {e : Env} {s : State} {m : MethodId} {below : List Frame} {meth : Method} {c : Code} {b L : Nat} {g : tf_G} {sx : Int → Int} {Q : State → Prop} (E : lw_E p s m c b L g sx) (ax am jj : Nat) (ii : Int) (hii : ii = 6 * (jj : Int)) (hij : ii + 6 ≤ (L : Int)) (hnx : lw_nx p l e s m below meth c b g ax am jj ii Q) (T : tf_T) (H : Heap) (locs : List Loc) (hW : tf_n tf_kt g M_law (fun _ => none) s.heap T H locs) (hax : T ax = some (39, 0)) (ham : T am = some (63, 0)) (hI : lw_I g T H ax am) (ls : Array Slot) (hl : lv_has ls 4 [(3, .int (Int32.ofInt ii)), (2, .ref am), (1, .ref ax), (0, .ref b)]) : W p l e room_1 s m #[Value.ref b] below meth c H locs (100 + 30 * jj) (30000 + 1200 * jj) Q (F0 m 1485 ls []) := by
  obtain ⟨hx, hb, hml, hown, hts, hbl, hk, hBs, hsx, hX, hL⟩ := id E
  have hR1 := lw_R1
  have hR2 := lw_R2
  have hR3 := lw_R3
  have hR4 := lw_R4
  have hK := hk.1
  have hE : tf_E g T := trivial
  obtain ⟨sq, im, ta, dh, lp, lh, yr, wh, ro, iz, kp, tm, dw, wd, tt, uu, dd, lm, fo, fp, gl, gh, gy, gw, tp, gd, rr, qq, rk, tq, gm, gW, hsq, him, hta, hdh, hlp, hlh, hyr, hwh, hro, hiz, hkp, htm, hdw, hwd, htt, huu, hdd, hlm, hfo, hfp, hf0, hf1, hf2, hf3, hf4, hf5, hf6, hf7, hf8, hf9, hf10, hf11, hf12, hf13, hf14, hf15, hf16, hf17, hf18, hf19, hf20, hf21, hf22, hf23, hf24, hf25, hf26, hf27, hf28, hf29, hf30, hf31, hf32, hf33, hf34, hf35, hRL, hDD, hTP, hWW, hLM, hI0, hI1⟩ := hI
  have hWS : tf_WS gy gw := hRL.2.2
  refine lv_aload_n hx hb dL_law_1485 rfl (lv_at hl 2 rfl) ?_
  refine tf_calli (va_runV (As := []) (rest := []) ⟨hx, hb, hml, hown, hts⟩ (c_X9_status l g T ax hax) (cwV 0 hts gv_L_176 rfl rfl rfl hd_X9_status ⟨Nat.le_trans (by decide) hR1, Nat.le_trans (by decide) hR2⟩) (tf_preV hk hW hax (ci := 9) rfl rfl trivial) rfl rfl hl.1 rfl (lv_room (Nat.le_of_ble_eq_true rfl)) dL_law_1486 ⟨Nat.le_trans (by omega) hR3, Nat.le_trans (by omega) hR4⟩) hW (by decide) (fun z1 H1 locs1 hW hF1 hp1 => ?_)
  have hs2 := tf_keepF hF1 hax rfl rfl (by decide) hf0
  have hs3 := tf_keepF hF1 hax rfl rfl (by decide) hf1
  have hs4 := tf_keepF hF1 hax rfl rfl (by decide) hf2
  have hs5 := tf_keepF hF1 hax rfl rfl (by decide) hf3
  have hs6 := tf_keepF hF1 hax rfl rfl (by decide) hf4
  have hs7 := tf_keepF hF1 hax rfl rfl (by decide) hf5
  have hs8 := tf_keepF hF1 hax rfl rfl (by decide) hf6
  have hs9 := tf_keepF hF1 hax rfl rfl (by decide) hf7
  have hs10 := tf_keepF hF1 hsq rfl rfl (by decide) hf8
  have hs11 := tf_keepF hF1 hsq rfl rfl (by decide) hf9
  have hs12 := tf_keepF hF1 hsq rfl rfl (by decide) hf10
  have hs13 := tf_keepF hF1 hsq rfl rfl (by decide) hf11
  have hs14 := tf_keepF hF1 hsq rfl rfl (by decide) hf12
  have hs15 := tf_keepF hF1 hsq rfl rfl (by decide) hf13
  have hs16 := tf_keepC hF1 hlp rfl (by decide) hf14
  have hs17 := tf_keepC hF1 hlh rfl (by decide) hf15
  have hs18 := tf_keepC hF1 hyr rfl (by decide) hf16
  have hs19 := tf_keepC hF1 hwh rfl (by decide) hf17
  have hs20 := tf_keepC hF1 hta rfl (by decide) hf18
  have hs21 := tf_keepC hF1 hdh rfl (by decide) hf19
  have hs22 := tf_keepF hF1 ham rfl rfl (by decide) hf20
  have hs23 := tf_keepF hF1 ham rfl rfl (by decide) hf21
  have hs24 := tf_keepF hF1 ham rfl rfl (by decide) hf22
  have hs25 := tf_keepF hF1 ham rfl rfl (by decide) hf23
  have hs26 := tf_keepF hF1 ham rfl rfl (by decide) hf24
  have hs27 := tf_keepF hF1 ham rfl rfl (by decide) hf25
  have hs28 := tf_keepF hF1 ham rfl rfl (by decide) hf26
  have hs29 := tf_keepF hF1 ham rfl rfl (by decide) hf27
  have hs30 := tf_keepF hF1 ham rfl rfl (by decide) hf28
  have hs31 := tf_keepF hF1 ham rfl rfl (by decide) hf29
  have hs32 := tf_keepC hF1 hro rfl (by decide) hf30
  have hs33 := tf_keepC hF1 hiz rfl (by decide) hf31
  have hs34 := tf_keepC hF1 hkp rfl (by decide) hf32
  have hs35 := tf_keepC hF1 htm rfl (by decide) hf33
  have hs36 := tf_keepC hF1 hdw rfl (by decide) hf34
  have hs37 := tf_keepC hF1 hwd rfl (by decide) hf35
  have hI0 := tf_IS1_keep hF1 him (by decide) (by decide) hI0
  have hI1 := tf_IS2_keep hF1 him (by decide) (by decide) hI1
  obtain ⟨hp1_0, hp1_1⟩ := hp1
  refine lv_pop hx hb dL_law_1489 rfl ?_
  refine lv_aload_n hx hb dL_law_1490 rfl (lv_at hl 1 rfl) ?_
  refine tf_calli (va_runV (As := []) (rest := []) ⟨hx, hb, hml, hown, hts⟩ (c_X10_status l g T am ham) (cwV 0 hts gv_L_179 rfl rfl rfl hd_X10_status ⟨Nat.le_trans (by decide) hR1, Nat.le_trans (by decide) hR2⟩) (tf_preV hk hW ham (ci := 10) rfl rfl trivial) rfl rfl hl.1 rfl (lv_room (Nat.le_of_ble_eq_true rfl)) dL_law_1491 ⟨Nat.le_trans (by omega) hR3, Nat.le_trans (by omega) hR4⟩) hW (by decide) (fun z38 H38 locs38 hW hF38 hp38 => ?_)
  have hs39 := tf_keepF hF38 hax rfl rfl (by decide) hs2
  have hs40 := tf_keepF hF38 hax rfl rfl (by decide) hs3
  have hs41 := tf_keepF hF38 hax rfl rfl (by decide) hs4
  have hs42 := tf_keepF hF38 hax rfl rfl (by decide) hs5
  have hs43 := tf_keepF hF38 hax rfl rfl (by decide) hs6
  have hs44 := tf_keepF hF38 hax rfl rfl (by decide) hs7
  have hs45 := tf_keepF hF38 hax rfl rfl (by decide) hs8
  have hs46 := tf_keepF hF38 hax rfl rfl (by decide) hs9
  have hs47 := tf_keepF hF38 hsq rfl rfl (by decide) hs10
  have hs48 := tf_keepF hF38 hsq rfl rfl (by decide) hs11
  have hs49 := tf_keepF hF38 hsq rfl rfl (by decide) hs12
  have hs50 := tf_keepF hF38 hsq rfl rfl (by decide) hs13
  have hs51 := tf_keepF hF38 hsq rfl rfl (by decide) hs14
  have hs52 := tf_keepF hF38 hsq rfl rfl (by decide) hs15
  have hs53 := tf_keepC hF38 hlp rfl (by decide) hs16
  have hs54 := tf_keepC hF38 hlh rfl (by decide) hs17
  have hs55 := tf_keepC hF38 hyr rfl (by decide) hs18
  have hs56 := tf_keepC hF38 hwh rfl (by decide) hs19
  have hs57 := tf_keepC hF38 hta rfl (by decide) hs20
  have hs58 := tf_keepC hF38 hdh rfl (by decide) hs21
  have hs59 := tf_keepF hF38 ham rfl rfl (by decide) hs22
  have hs60 := tf_keepF hF38 ham rfl rfl (by decide) hs23
  have hs61 := tf_keepF hF38 ham rfl rfl (by decide) hs24
  have hs62 := tf_keepF hF38 ham rfl rfl (by decide) hs25
  have hs63 := tf_keepF hF38 ham rfl rfl (by decide) hs26
  have hs64 := tf_keepF hF38 ham rfl rfl (by decide) hs27
  have hs65 := tf_keepF hF38 ham rfl rfl (by decide) hs28
  have hs66 := tf_keepF hF38 ham rfl rfl (by decide) hs29
  have hs67 := tf_keepF hF38 ham rfl rfl (by decide) hs30
  have hs68 := tf_keepF hF38 ham rfl rfl (by decide) hs31
  have hs69 := tf_keepC hF38 hro rfl (by decide) hs32
  have hs70 := tf_keepC hF38 hiz rfl (by decide) hs33
  have hs71 := tf_keepC hF38 hkp rfl (by decide) hs34
  have hs72 := tf_keepC hF38 htm rfl (by decide) hs35
  have hs73 := tf_keepC hF38 hdw rfl (by decide) hs36
  have hs74 := tf_keepC hF38 hwd rfl (by decide) hs37
  have hI0 := tf_IS1_keep hF38 him (by decide) (by decide) hI0
  have hI1 := tf_IS2_keep hF38 him (by decide) (by decide) hI1
  obtain ⟨hp38_0, hp38_1⟩ := hp38
  refine lv_pop hx hb dL_law_1494 rfl ?_
  refine lv_goto (tgt := 1498) hx hb dL_law_1495 (by decide) ?_
  refine W.widen (k := 130 + 30 * jj) (n := 31200 + 1200 * jj) (by omega) (by omega) ?_
  exact hnx _ _ _ hW hax ham ⟨sq, im, ta, dh, lp, lh, yr, wh, ro, iz, kp, tm, dw, wd, (tt), (uu), (dd), (lm), (fo), (fp), gl, gh, gy, gw, tp, gd, rr, qq, rk, tq, gm, gW, hsq, him, hta, hdh, hlp, hlh, hyr, hwh, hro, hiz, hkp, htm, hdw, hwd, ⟨by omega, by omega⟩, ⟨by omega, by omega⟩, ⟨by omega, by omega⟩, ⟨by omega, by omega⟩, ⟨by omega, by omega⟩, ⟨by omega, by omega⟩, hs39, hs40, hs41, hs42, hs43, hs44, hs45, hs46, hs47, hs48, hs49, hs50, hs51, hs52, hs53, hs54, hs55, hs56, hs57, hs58, hs59, hs60, hs61, tf_eqv hs62 (by omega), hs63, tf_eqv hs64 (by omega), tf_eqv hs65 (by omega), hs66, hs67, tf_eqv hs68 (by omega), hs69, hs70, hs71, hs72, hs73, hs74, hRL, hDD, hTP, hWW, hLM, hI0, hI1⟩ _ (lv_sub hl [0, 1, 2, 3] rfl)

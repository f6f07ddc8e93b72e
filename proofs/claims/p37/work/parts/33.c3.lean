set_option maxHeartbeats 4000000 in
set_option maxRecDepth 100000 in
theorem lc_1208 {p : Program} {l : Launch} {e : Env} {s : State} {m : MethodId} {below : List Frame} {meth : Method} {c : Code} {b L : Nat} {g : tf_G} {sx : Int → Int} {Q : State → Prop} (E : lw_E p s m c b L g sx) (ax am jj : Nat) (ii : Int) (hii : ii = 6 * (jj : Int)) (hij : ii + 6 ≤ (L : Int)) (hnx : lw_nx p l e s m below meth c b g ax am jj ii Q) (T : tf_T) (H : Heap) (locs : List Loc) (hW : tf_n tf_kt g M_law (fun _ => none) s.heap T H locs) (hax : T ax = some (39, 0)) (ham : T am = some (63, 0)) (hI : lw_I g T H ax am) (ls : Array Slot) (hl : lv_has ls 4 [(3, .int (Int32.ofInt ii)), (2, .ref am), (1, .ref ax), (0, .ref b)]) : W p l e room_1 s m #[Value.ref b] below meth c H locs (100 + 30 * jj) (30000 + 1200 * jj) Q (F0 m 1208 ls []) := by
  obtain ⟨hx, hb, hml, hown, hts, hbl, hk, hBs, hsx, hX, hL⟩ := id E
  have hR1 := lw_R1
  have hR2 := lw_R2
  have hR3 := lw_R3
  have hR4 := lw_R4
  have hK := hk.1
  have hE : tf_E g T := trivial
  obtain ⟨sq, im, ta, dh, lp, lh, yr, wh, ro, iz, kp, tm, dw, tt, uu, dd, gl, gh, gy, gw, tp, gd, rr, qq, rk, tq, gm, hsq, him, hta, hdh, hlp, hlh, hyr, hwh, hro, hiz, hkp, htm, hdw, htt, huu, hdd, hf0, hf1, hf2, hf3, hf4, hf5, hf6, hf7, hf8, hf9, hf10, hf11, hf12, hf13, hf14, hf15, hf16, hf17, hf18, hf19, hf20, hf21, hf22, hf23, hf24, hf25, hf26, hf27, hf28, hf29, hRL, hDD, hTP, hI0, hI1⟩ := hI
  have hWS : tf_WS gy gw := hRL.2.2
  refine lv_aload_n hx hb dL_law_1208 rfl (lv_at hl 2 rfl) ?_
  refine lv_aload_n hx hb dL_law_1209 rfl (lv_at hl 3 rfl) ?_
  refine lv_iload_n hx hb dL_law_1210 rfl (lv_at hl 0 rfl) ?_
  refine tf_iconst hx hb dL_law_1211 ?_
  refine tf_iadd hx hb dL_law_1212 ?_
  refine lw_sld (sx := sx) hx hb hX hbl hBs hL hW (by omega) (by omega) dL_law_1213 ?_
  have hsx1 := hsx (ii + 1)
  refine tf_calli (va_runV (As := [.int (Int32.ofInt ((sx (ii + 1))))]) (rest := []) ⟨hx, hb, hml, hown, hts⟩ (c_X9_place l g T ax hax ((sx (ii + 1))) ⟨by omega, by omega⟩) (cwV 1 hts gv_L_140 rfl rfl rfl hd_X9_place ⟨Nat.le_trans (by decide) hR1, Nat.le_trans (by decide) hR2⟩) (tf_preV hk hW hax (ci := 9) rfl rfl trivial) rfl rfl hl.1 rfl (lv_room (Nat.le_of_ble_eq_true rfl)) dL_law_1214 ⟨Nat.le_trans (by omega) hR3, Nat.le_trans (by omega) hR4⟩) hW (by decide) (fun z2 H2 locs2 hW hF2 hp2 => ?_)
  have hs3 := tf_keepF hF2 hax rfl rfl (by decide) hf0
  have hs4 := tf_keepF hF2 hax rfl rfl (by decide) hf1
  have hs5 := tf_keepF hF2 hax rfl rfl (by decide) hf2
  have hs6 := tf_keepF hF2 hax rfl rfl (by decide) hf3
  have hs7 := tf_keepF hF2 hax rfl rfl (by decide) hf4
  have hs8 := tf_keepF hF2 hax rfl rfl (by decide) hf5
  have hs9 := tf_keepF hF2 hax rfl rfl (by decide) hf6
  have hs10 := tf_keepF hF2 hsq rfl rfl (by decide) hf7
  have hs11 := tf_keepF hF2 hsq rfl rfl (by decide) hf8
  have hs12 := tf_keepF hF2 hsq rfl rfl (by decide) hf9
  have hs13 := tf_keepF hF2 hsq rfl rfl (by decide) hf10
  have hs14 := tf_keepC hF2 hlp rfl (by decide) hf11
  have hs15 := tf_keepC hF2 hlh rfl (by decide) hf12
  have hs16 := tf_keepC hF2 hyr rfl (by decide) hf13
  have hs17 := tf_keepC hF2 hwh rfl (by decide) hf14
  have hs18 := tf_keepC hF2 hta rfl (by decide) hf15
  have hs19 := tf_keepC hF2 hdh rfl (by decide) hf16
  have hs20 := tf_keepF hF2 ham rfl rfl (by decide) hf17
  have hs21 := tf_keepF hF2 ham rfl rfl (by decide) hf18
  have hs22 := tf_keepF hF2 ham rfl rfl (by decide) hf19
  have hs23 := tf_keepF hF2 ham rfl rfl (by decide) hf20
  have hs24 := tf_keepF hF2 ham rfl rfl (by decide) hf21
  have hs25 := tf_keepF hF2 ham rfl rfl (by decide) hf22
  have hs26 := tf_keepF hF2 ham rfl rfl (by decide) hf23
  have hs27 := tf_keepF hF2 ham rfl rfl (by decide) hf24
  have hs28 := tf_keepC hF2 hro rfl (by decide) hf25
  have hs29 := tf_keepC hF2 hiz rfl (by decide) hf26
  have hs30 := tf_keepC hF2 hkp rfl (by decide) hf27
  have hs31 := tf_keepC hF2 htm rfl (by decide) hf28
  have hs32 := tf_keepC hF2 hdw rfl (by decide) hf29
  have hI0 := tf_IS1_keep hF2 him (by decide) (by decide) hI0
  have hI1 := tf_IS2_keep hF2 him (by decide) (by decide) hI1
  obtain ⟨hp2_0, hp2_1⟩ := hp2
  refine lv_pop hx hb dL_law_1217 rfl ?_
  refine lv_aload_n hx hb dL_law_1218 rfl (lv_at hl 1 rfl) ?_
  refine lv_aload_n hx hb dL_law_1219 rfl (lv_at hl 3 rfl) ?_
  refine lv_iload_n hx hb dL_law_1220 rfl (lv_at hl 0 rfl) ?_
  refine tf_iconst hx hb dL_law_1221 ?_
  refine tf_iadd hx hb dL_law_1222 ?_
  refine lw_sld (sx := sx) hx hb hX hbl hBs hL hW (by omega) (by omega) dL_law_1223 ?_
  have hsx33 := hsx (ii + 1)
  refine tf_calli (va_runV (As := [.int (Int32.ofInt ((sx (ii + 1))))]) (rest := []) ⟨hx, hb, hml, hown, hts⟩ (c_X10_place l g T am ham ((sx (ii + 1))) ⟨by omega, by omega⟩ ro hro rr) (cwV 1 hts gv_L_143 rfl rfl rfl hd_X10_place ⟨Nat.le_trans (by decide) hR1, Nat.le_trans (by decide) hR2⟩) (tf_preV hk hW ham (ci := 10) rfl rfl ⟨hs20, hs28⟩) rfl rfl hl.1 rfl (lv_room (Nat.le_of_ble_eq_true rfl)) dL_law_1224 ⟨Nat.le_trans (by omega) hR3, Nat.le_trans (by omega) hR4⟩) hW (by decide) (fun z34 H34 locs34 hW hF34 hp34 => ?_)
  have hs35 := tf_keepF hF34 hax rfl rfl (by decide) hs3
  have hs36 := tf_keepF hF34 hax rfl rfl (by decide) hs4
  have hs37 := tf_keepF hF34 hax rfl rfl (by decide) hs5
  have hs38 := tf_keepF hF34 hax rfl rfl (by decide) hs6
  have hs39 := tf_keepF hF34 hax rfl rfl (by decide) hs7
  have hs40 := tf_keepF hF34 hax rfl rfl (by decide) hs8
  have hs41 := tf_keepF hF34 hax rfl rfl (by decide) hs9
  have hs42 := tf_keepF hF34 hsq rfl rfl (by decide) hs10
  have hs43 := tf_keepF hF34 hsq rfl rfl (by decide) hs11
  have hs44 := tf_keepF hF34 hsq rfl rfl (by decide) hs12
  have hs45 := tf_keepF hF34 hsq rfl rfl (by decide) hs13
  have hs46 := tf_keepC hF34 hlp rfl (by decide) hs14
  have hs47 := tf_keepC hF34 hlh rfl (by decide) hs15
  have hs48 := tf_keepC hF34 hyr rfl (by decide) hs16
  have hs49 := tf_keepC hF34 hwh rfl (by decide) hs17
  have hs50 := tf_keepC hF34 hta rfl (by decide) hs18
  have hs51 := tf_keepC hF34 hdh rfl (by decide) hs19
  have hs52 := tf_keepF hF34 ham rfl rfl (by decide) hs20
  have hs53 := tf_keepF hF34 ham rfl rfl (by decide) hs21
  have hs54 := tf_keepF hF34 ham rfl rfl (by decide) hs22
  have hs55 := tf_keepF hF34 ham rfl rfl (by decide) hs23
  have hs56 := tf_keepF hF34 ham rfl rfl (by decide) hs24
  have hs57 := tf_keepF hF34 ham rfl rfl (by decide) hs25
  have hs58 := tf_keepF hF34 ham rfl rfl (by decide) hs26
  have hs59 := tf_keepF hF34 ham rfl rfl (by decide) hs27
  have hs60 := tf_keepC hF34 hiz rfl (by decide) hs29
  have hs61 := tf_keepC hF34 hkp rfl (by decide) hs30
  have hs62 := tf_keepC hF34 htm rfl (by decide) hs31
  have hs63 := tf_keepC hF34 hdw rfl (by decide) hs32
  have hI0 := tf_IS1_keep hF34 him (by decide) (by decide) hI0
  have hI1 := tf_IS2_keep hF34 him (by decide) (by decide) hI1
  obtain ⟨hp34_0, hp34_1, hp34_2⟩ := hp34
  obtain ⟨r1_34, hX34_0, hR34_0⟩ := hp34_2
  have hRL := tf_RL_kp hRL hR34_0
  refine lv_pop hx hb dL_law_1227 rfl ?_
  refine lv_goto (tgt := 1498) hx hb dL_law_1228 (by decide) ?_
  refine W.widen (k := 130 + 30 * jj) (n := 31200 + 1200 * jj) (by omega) (by omega) ?_
  exact hnx _ _ _ hW hax ham ⟨sq, im, ta, dh, lp, lh, yr, wh, ro, iz, kp, tm, dw, (tt), (uu), (dd), gl, gh, gy, gw, tp, gd, r1_34, qq, rk, tq, gm, hsq, him, hta, hdh, hlp, hlh, hyr, hwh, hro, hiz, hkp, htm, hdw, ⟨by omega, by omega⟩, ⟨by omega, by omega⟩, ⟨by omega, by omega⟩, hs35, hs36, hs37, hs38, hs39, hs40, hs41, hs42, hs43, hs44, hs45, hs46, hs47, hs48, hs49, hs50, hs51, hs52, hs53, hs54, tf_eqv hs55 (by omega), hs56, tf_eqv hs57 (by omega), hs58, tf_eqv hs59 (by omega), hX34_0, hs60, hs61, hs62, hs63, hRL, hDD, hTP, hI0, hI1⟩ _ (lv_sub hl [0, 1, 2, 3] rfl)

set_option maxHeartbeats 4000000 in
set_option maxRecDepth 100000 in
theorem lc_1231 {p : Program} {l : Launch} {e : Env} {s : State} {m : MethodId} {below : List Frame} {meth : Method} {c : Code} {b L : Nat} {g : tf_G} {sx : Int → Int} {Q : State → Prop} (E : lw_E p s m c b L g sx) (ax am jj : Nat) (ii : Int) (hii : ii = 6 * (jj : Int)) (hij : ii + 6 ≤ (L : Int)) (hnx : lw_nx p l e s m below meth c b g ax am jj ii Q) (T : tf_T) (H : Heap) (locs : List Loc) (hW : tf_n tf_kt g M_law (fun _ => none) s.heap T H locs) (hax : T ax = some (39, 0)) (ham : T am = some (63, 0)) (hI : lw_I g T H ax am) (ls : Array Slot) (hl : lv_has ls 4 [(3, .int (Int32.ofInt ii)), (2, .ref am), (1, .ref ax), (0, .ref b)]) : W p l e room_1 s m #[Value.ref b] below meth c H locs (100 + 30 * jj) (30000 + 1200 * jj) Q (F0 m 1231 ls []) := by
  obtain ⟨hx, hb, hml, hown, hts, hbl, hk, hBs, hsx, hX, hL⟩ := id E
  have hR1 := lw_R1
  have hR2 := lw_R2
  have hR3 := lw_R3
  have hR4 := lw_R4
  have hK := hk.1
  have hE : tf_E g T := trivial
  obtain ⟨sq, im, ta, dh, lp, lh, yr, wh, ro, iz, kp, tm, dw, tt, uu, dd, gl, gh, gy, gw, tp, gd, rr, qq, rk, tq, gm, hsq, him, hta, hdh, hlp, hlh, hyr, hwh, hro, hiz, hkp, htm, hdw, htt, huu, hdd, hf0, hf1, hf2, hf3, hf4, hf5, hf6, hf7, hf8, hf9, hf10, hf11, hf12, hf13, hf14, hf15, hf16, hf17, hf18, hf19, hf20, hf21, hf22, hf23, hf24, hf25, hf26, hf27, hf28, hf29, hRL, hDD, hTP, hI0, hI1⟩ := hI
  have hWS : tf_WS gy gw := hRL.2.2
  refine lv_aload_n hx hb dL_law_1231 rfl (lv_at hl 2 rfl) ?_
  refine lv_aload_n hx hb dL_law_1232 rfl (lv_at hl 3 rfl) ?_
  refine lv_iload_n hx hb dL_law_1233 rfl (lv_at hl 0 rfl) ?_
  refine tf_iconst hx hb dL_law_1234 ?_
  refine tf_iadd hx hb dL_law_1235 ?_
  refine lw_sld (sx := sx) hx hb hX hbl hBs hL hW (by omega) (by omega) dL_law_1236 ?_
  have hsx1 := hsx (ii + 1)
  refine tf_calli (va_runV (As := [.int (Int32.ofInt ((sx (ii + 1))))]) (rest := []) ⟨hx, hb, hml, hown, hts⟩ (c_X9_glass l g T ax hax ((sx (ii + 1))) ⟨by omega, by omega⟩ hE) (cwV 1 hts gv_L_144 rfl rfl rfl hd_X9_glass ⟨Nat.le_trans (by decide) hR1, Nat.le_trans (by decide) hR2⟩) (tf_preV hk hW hax (ci := 9) rfl rfl trivial) rfl rfl hl.1 rfl (lv_room (Nat.le_of_ble_eq_true rfl)) dL_law_1237 ⟨Nat.le_trans (by omega) hR3, Nat.le_trans (by omega) hR4⟩) hW (by decide) (fun z2 H2 locs2 hW hF2 hp2 => ?_)
  have hs3 := tf_keepF hF2 hax rfl rfl (by decide) hf0
  have hs4 := tf_keepF hF2 hax rfl rfl (by decide) hf1
  have hs5 := tf_keepF hF2 hax rfl rfl (by decide) hf2
  have hs6 := tf_keepF hF2 hax rfl rfl (by decide) hf3
  have hs7 := tf_keepF hF2 hax rfl rfl (by decide) hf4
  have hs8 := tf_keepF hF2 hax rfl rfl (by decide) hf5
  have hs9 := tf_keepF hF2 hax rfl rfl (by decide) hf6
  have hs10 := tf_keepF hF2 hsq rfl rfl (by decide) hf7
  have hs11 := tf_keepF hF2 hsq rfl rfl (by decide) hf8
  have hs12 := tf_keepF hF2 hsq rfl rfl (by decide) hf9
  have hs13 := tf_keepF hF2 hsq rfl rfl (by decide) hf10
  have hs14 := tf_keepC hF2 hlp rfl (by decide) hf11
  have hs15 := tf_keepC hF2 hlh rfl (by decide) hf12
  have hs16 := tf_keepC hF2 hyr rfl (by decide) hf13
  have hs17 := tf_keepC hF2 hwh rfl (by decide) hf14
  have hs18 := tf_keepC hF2 hta rfl (by decide) hf15
  have hs19 := tf_keepC hF2 hdh rfl (by decide) hf16
  have hs20 := tf_keepF hF2 ham rfl rfl (by decide) hf17
  have hs21 := tf_keepF hF2 ham rfl rfl (by decide) hf18
  have hs22 := tf_keepF hF2 ham rfl rfl (by decide) hf19
  have hs23 := tf_keepF hF2 ham rfl rfl (by decide) hf20
  have hs24 := tf_keepF hF2 ham rfl rfl (by decide) hf21
  have hs25 := tf_keepF hF2 ham rfl rfl (by decide) hf22
  have hs26 := tf_keepF hF2 ham rfl rfl (by decide) hf23
  have hs27 := tf_keepF hF2 ham rfl rfl (by decide) hf24
  have hs28 := tf_keepC hF2 hro rfl (by decide) hf25
  have hs29 := tf_keepC hF2 hiz rfl (by decide) hf26
  have hs30 := tf_keepC hF2 hkp rfl (by decide) hf27
  have hs31 := tf_keepC hF2 htm rfl (by decide) hf28
  have hs32 := tf_keepC hF2 hdw rfl (by decide) hf29
  have hI0 := tf_IS1_keep hF2 him (by decide) (by decide) hI0
  have hI1 := tf_IS2_keep hF2 him (by decide) (by decide) hI1
  obtain ⟨hp2_0, hp2_1⟩ := hp2
  refine lv_pop hx hb dL_law_1240 rfl ?_
  refine lv_aload_n hx hb dL_law_1241 rfl (lv_at hl 1 rfl) ?_
  refine lv_aload_n hx hb dL_law_1242 rfl (lv_at hl 3 rfl) ?_
  refine lv_iload_n hx hb dL_law_1243 rfl (lv_at hl 0 rfl) ?_
  refine tf_iconst hx hb dL_law_1244 ?_
  refine tf_iadd hx hb dL_law_1245 ?_
  refine lw_sld (sx := sx) hx hb hX hbl hBs hL hW (by omega) (by omega) dL_law_1246 ?_
  have hsx33 := hsx (ii + 1)
  refine tf_calli (va_runV (As := [.int (Int32.ofInt ((sx (ii + 1))))]) (rest := []) ⟨hx, hb, hml, hown, hts⟩ (c_X10_glass l g T am ham ((sx (ii + 1))) ⟨by omega, by omega⟩) (cwV 1 hts gv_L_147 rfl rfl rfl hd_X10_glass ⟨Nat.le_trans (by decide) hR1, Nat.le_trans (by decide) hR2⟩) (tf_preV hk hW ham (ci := 10) rfl rfl trivial) rfl rfl hl.1 rfl (lv_room (Nat.le_of_ble_eq_true rfl)) dL_law_1247 ⟨Nat.le_trans (by omega) hR3, Nat.le_trans (by omega) hR4⟩) hW (by decide) (fun z34 H34 locs34 hW hF34 hp34 => ?_)
  have hs35 := tf_keepF hF34 hax rfl rfl (by decide) hs3
  have hs36 := tf_keepF hF34 hax rfl rfl (by decide) hs4
  have hs37 := tf_keepF hF34 hax rfl rfl (by decide) hs5
  have hs38 := tf_keepF hF34 hax rfl rfl (by decide) hs6
  have hs39 := tf_keepF hF34 hax rfl rfl (by decide) hs7
  have hs40 := tf_keepF hF34 hax rfl rfl (by decide) hs8
  have hs41 := tf_keepF hF34 hax rfl rfl (by decide) hs9
  have hs42 := tf_keepF hF34 hsq rfl rfl (by decide) hs10
  have hs43 := tf_keepF hF34 hsq rfl rfl (by decide) hs11
  have hs44 := tf_keepF hF34 hsq rfl rfl (by decide) hs12
  have hs45 := tf_keepF hF34 hsq rfl rfl (by decide) hs13
  have hs46 := tf_keepC hF34 hlp rfl (by decide) hs14
  have hs47 := tf_keepC hF34 hlh rfl (by decide) hs15
  have hs48 := tf_keepC hF34 hyr rfl (by decide) hs16
  have hs49 := tf_keepC hF34 hwh rfl (by decide) hs17
  have hs50 := tf_keepC hF34 hta rfl (by decide) hs18
  have hs51 := tf_keepC hF34 hdh rfl (by decide) hs19
  have hs52 := tf_keepF hF34 ham rfl rfl (by decide) hs20
  have hs53 := tf_keepF hF34 ham rfl rfl (by decide) hs21
  have hs54 := tf_keepF hF34 ham rfl rfl (by decide) hs22
  have hs55 := tf_keepF hF34 ham rfl rfl (by decide) hs23
  have hs56 := tf_keepF hF34 ham rfl rfl (by decide) hs24
  have hs57 := tf_keepF hF34 ham rfl rfl (by decide) hs25
  have hs58 := tf_keepF hF34 ham rfl rfl (by decide) hs26
  have hs59 := tf_keepF hF34 ham rfl rfl (by decide) hs27
  have hs60 := tf_keepC hF34 hro rfl (by decide) hs28
  have hs61 := tf_keepC hF34 hiz rfl (by decide) hs29
  have hs62 := tf_keepC hF34 hkp rfl (by decide) hs30
  have hs63 := tf_keepC hF34 htm rfl (by decide) hs31
  have hs64 := tf_keepC hF34 hdw rfl (by decide) hs32
  have hI0 := tf_IS1_keep hF34 him (by decide) (by decide) hI0
  have hI1 := tf_IS2_keep hF34 him (by decide) (by decide) hI1
  obtain ⟨hp34_0, hp34_1⟩ := hp34
  refine lv_pop hx hb dL_law_1250 rfl ?_
  refine lv_goto (tgt := 1498) hx hb dL_law_1251 (by decide) ?_
  refine W.widen (k := 130 + 30 * jj) (n := 31200 + 1200 * jj) (by omega) (by omega) ?_
  exact hnx _ _ _ hW hax ham ⟨sq, im, ta, dh, lp, lh, yr, wh, ro, iz, kp, tm, dw, (tt), (uu), (dd), gl, gh, gy, gw, tp, gd, rr, qq, rk, tq, gm, hsq, him, hta, hdh, hlp, hlh, hyr, hwh, hro, hiz, hkp, htm, hdw, ⟨by omega, by omega⟩, ⟨by omega, by omega⟩, ⟨by omega, by omega⟩, hs35, hs36, hs37, hs38, hs39, hs40, hs41, hs42, hs43, hs44, hs45, hs46, hs47, hs48, hs49, hs50, hs51, hs52, hs53, hs54, tf_eqv hs55 (by omega), hs56, tf_eqv hs57 (by omega), hs58, tf_eqv hs59 (by omega), hs60, hs61, hs62, hs63, hs64, hRL, hDD, hTP, hI0, hI1⟩ _ (lv_sub hl [0, 1, 2, 3] rfl)

set_option maxHeartbeats 4000000 in
set_option maxRecDepth 100000 in
theorem lc_1254 {p : Program} {l : Launch} {e : Env} {s : State} {m : MethodId} {below : List Frame} {meth : Method} {c : Code} {b L : Nat} {g : tf_G} {sx : Int → Int} {Q : State → Prop} (E : lw_E p s m c b L g sx) (ax am jj : Nat) (ii : Int) (hii : ii = 6 * (jj : Int)) (hij : ii + 6 ≤ (L : Int)) (hnx : lw_nx p l e s m below meth c b g ax am jj ii Q) (T : tf_T) (H : Heap) (locs : List Loc) (hW : tf_n tf_kt g M_law (fun _ => none) s.heap T H locs) (hax : T ax = some (39, 0)) (ham : T am = some (63, 0)) (hI : lw_I g T H ax am) (ls : Array Slot) (hl : lv_has ls 4 [(3, .int (Int32.ofInt ii)), (2, .ref am), (1, .ref ax), (0, .ref b)]) : W p l e room_1 s m #[Value.ref b] below meth c H locs (100 + 30 * jj) (30000 + 1200 * jj) Q (F0 m 1254 ls []) := by
  obtain ⟨hx, hb, hml, hown, hts, hbl, hk, hBs, hsx, hX, hL⟩ := id E
  have hR1 := lw_R1
  have hR2 := lw_R2
  have hR3 := lw_R3
  have hR4 := lw_R4
  have hK := hk.1
  have hE : tf_E g T := trivial
  obtain ⟨sq, im, ta, dh, lp, lh, yr, wh, ro, iz, kp, tm, dw, tt, uu, dd, gl, gh, gy, gw, tp, gd, rr, qq, rk, tq, gm, hsq, him, hta, hdh, hlp, hlh, hyr, hwh, hro, hiz, hkp, htm, hdw, htt, huu, hdd, hf0, hf1, hf2, hf3, hf4, hf5, hf6, hf7, hf8, hf9, hf10, hf11, hf12, hf13, hf14, hf15, hf16, hf17, hf18, hf19, hf20, hf21, hf22, hf23, hf24, hf25, hf26, hf27, hf28, hf29, hRL, hDD, hTP, hI0, hI1⟩ := hI
  have hWS : tf_WS gy gw := hRL.2.2
  refine lv_aload_n hx hb dL_law_1254 rfl (lv_at hl 2 rfl) ?_
  refine lv_aload_n hx hb dL_law_1255 rfl (lv_at hl 3 rfl) ?_
  refine lv_iload_n hx hb dL_law_1256 rfl (lv_at hl 0 rfl) ?_
  refine tf_iconst hx hb dL_law_1257 ?_
  refine tf_iadd hx hb dL_law_1258 ?_
  refine lw_sld (sx := sx) hx hb hX hbl hBs hL hW (by omega) (by omega) dL_law_1259 ?_
  have hsx1 := hsx (ii + 1)
  refine lv_aload_n hx hb dL_law_1260 rfl (lv_at hl 3 rfl) ?_
  refine lv_iload_n hx hb dL_law_1261 rfl (lv_at hl 0 rfl) ?_
  refine tf_iconst hx hb dL_law_1262 ?_
  refine tf_iadd hx hb dL_law_1263 ?_
  refine lw_sld (sx := sx) hx hb hX hbl hBs hL hW (by omega) (by omega) dL_law_1264 ?_
  have hsx2 := hsx (ii + 2)
  refine lv_aload_n hx hb dL_law_1265 rfl (lv_at hl 3 rfl) ?_
  refine lv_iload_n hx hb dL_law_1266 rfl (lv_at hl 0 rfl) ?_
  refine tf_iconst hx hb dL_law_1267 ?_
  refine tf_iadd hx hb dL_law_1268 ?_
  refine lw_sld (sx := sx) hx hb hX hbl hBs hL hW (by omega) (by omega) dL_law_1269 ?_
  have hsx3 := hsx (ii + 3)
  refine tf_calli (va_runV (As := [.int (Int32.ofInt ((sx (ii + 1)))), .int (Int32.ofInt ((sx (ii + 2)))), .int (Int32.ofInt ((sx (ii + 3))))]) (rest := []) ⟨hx, hb, hml, hown, hts⟩ (c_X9_salt l g T ax hax ((sx (ii + 1))) ⟨by omega, by omega⟩ ((sx (ii + 2))) ⟨by omega, by omega⟩ ((sx (ii + 3))) ⟨by omega, by omega⟩ hE) (cwV 3 hts gv_L_148 rfl rfl rfl hd_X9_salt ⟨Nat.le_trans (by decide) hR1, Nat.le_trans (by decide) hR2⟩) (tf_preV hk hW hax (ci := 9) rfl rfl trivial) rfl rfl hl.1 rfl (lv_room (Nat.le_of_ble_eq_true rfl)) dL_law_1270 ⟨Nat.le_trans (by omega) hR3, Nat.le_trans (by omega) hR4⟩) hW (by decide) (fun z4 H4 locs4 hW hF4 hp4 => ?_)
  have hs5 := tf_keepF hF4 hax rfl rfl (by decide) hf0
  have hs6 := tf_keepF hF4 hax rfl rfl (by decide) hf1
  have hs7 := tf_keepF hF4 hax rfl rfl (by decide) hf2
  have hs8 := tf_keepF hF4 hax rfl rfl (by decide) hf3
  have hs9 := tf_keepF hF4 hax rfl rfl (by decide) hf4
  have hs10 := tf_keepF hF4 hax rfl rfl (by decide) hf5
  have hs11 := tf_keepF hF4 hax rfl rfl (by decide) hf6
  have hs12 := tf_keepF hF4 hsq rfl rfl (by decide) hf7
  have hs13 := tf_keepF hF4 hsq rfl rfl (by decide) hf8
  have hs14 := tf_keepF hF4 hsq rfl rfl (by decide) hf9
  have hs15 := tf_keepF hF4 hsq rfl rfl (by decide) hf10
  have hs16 := tf_keepC hF4 hlp rfl (by decide) hf11
  have hs17 := tf_keepC hF4 hlh rfl (by decide) hf12
  have hs18 := tf_keepC hF4 hyr rfl (by decide) hf13
  have hs19 := tf_keepC hF4 hwh rfl (by decide) hf14
  have hs20 := tf_keepC hF4 hta rfl (by decide) hf15
  have hs21 := tf_keepC hF4 hdh rfl (by decide) hf16
  have hs22 := tf_keepF hF4 ham rfl rfl (by decide) hf17
  have hs23 := tf_keepF hF4 ham rfl rfl (by decide) hf18
  have hs24 := tf_keepF hF4 ham rfl rfl (by decide) hf19
  have hs25 := tf_keepF hF4 ham rfl rfl (by decide) hf20
  have hs26 := tf_keepF hF4 ham rfl rfl (by decide) hf21
  have hs27 := tf_keepF hF4 ham rfl rfl (by decide) hf22
  have hs28 := tf_keepF hF4 ham rfl rfl (by decide) hf23
  have hs29 := tf_keepF hF4 ham rfl rfl (by decide) hf24
  have hs30 := tf_keepC hF4 hro rfl (by decide) hf25
  have hs31 := tf_keepC hF4 hiz rfl (by decide) hf26
  have hs32 := tf_keepC hF4 hkp rfl (by decide) hf27
  have hs33 := tf_keepC hF4 htm rfl (by decide) hf28
  have hs34 := tf_keepC hF4 hdw rfl (by decide) hf29
  have hI0 := tf_IS1_keep hF4 him (by decide) (by decide) hI0
  have hI1 := tf_IS2_keep hF4 him (by decide) (by decide) hI1
  obtain ⟨hp4_0, hp4_1⟩ := hp4
  refine lv_pop hx hb dL_law_1273 rfl ?_
  refine lv_aload_n hx hb dL_law_1274 rfl (lv_at hl 1 rfl) ?_
  refine lv_aload_n hx hb dL_law_1275 rfl (lv_at hl 3 rfl) ?_
  refine lv_iload_n hx hb dL_law_1276 rfl (lv_at hl 0 rfl) ?_
  refine tf_iconst hx hb dL_law_1277 ?_
  refine tf_iadd hx hb dL_law_1278 ?_
  refine lw_sld (sx := sx) hx hb hX hbl hBs hL hW (by omega) (by omega) dL_law_1279 ?_
  have hsx35 := hsx (ii + 1)
  refine lv_aload_n hx hb dL_law_1280 rfl (lv_at hl 3 rfl) ?_
  refine lv_iload_n hx hb dL_law_1281 rfl (lv_at hl 0 rfl) ?_
  refine tf_iconst hx hb dL_law_1282 ?_
  refine tf_iadd hx hb dL_law_1283 ?_
  refine lw_sld (sx := sx) hx hb hX hbl hBs hL hW (by omega) (by omega) dL_law_1284 ?_
  have hsx36 := hsx (ii + 2)
  refine lv_aload_n hx hb dL_law_1285 rfl (lv_at hl 3 rfl) ?_
  refine lv_iload_n hx hb dL_law_1286 rfl (lv_at hl 0 rfl) ?_
  refine tf_iconst hx hb dL_law_1287 ?_
  refine tf_iadd hx hb dL_law_1288 ?_
  refine lw_sld (sx := sx) hx hb hX hbl hBs hL hW (by omega) (by omega) dL_law_1289 ?_
  have hsx37 := hsx (ii + 3)
  refine tf_calli (va_runV (As := [.int (Int32.ofInt ((sx (ii + 1)))), .int (Int32.ofInt ((sx (ii + 2)))), .int (Int32.ofInt ((sx (ii + 3))))]) (rest := []) ⟨hx, hb, hml, hown, hts⟩ (c_X10_salt l g T am ham ((sx (ii + 1))) ⟨by omega, by omega⟩ ((sx (ii + 2))) ⟨by omega, by omega⟩ ((sx (ii + 3))) ⟨by omega, by omega⟩) (cwV 3 hts gv_L_151 rfl rfl rfl hd_X10_salt ⟨Nat.le_trans (by decide) hR1, Nat.le_trans (by decide) hR2⟩) (tf_preV hk hW ham (ci := 10) rfl rfl trivial) rfl rfl hl.1 rfl (lv_room (Nat.le_of_ble_eq_true rfl)) dL_law_1290 ⟨Nat.le_trans (by omega) hR3, Nat.le_trans (by omega) hR4⟩) hW (by decide) (fun z38 H38 locs38 hW hF38 hp38 => ?_)
  have hs39 := tf_keepF hF38 hax rfl rfl (by decide) hs5
  have hs40 := tf_keepF hF38 hax rfl rfl (by decide) hs6
  have hs41 := tf_keepF hF38 hax rfl rfl (by decide) hs7
  have hs42 := tf_keepF hF38 hax rfl rfl (by decide) hs8
  have hs43 := tf_keepF hF38 hax rfl rfl (by decide) hs9
  have hs44 := tf_keepF hF38 hax rfl rfl (by decide) hs10
  have hs45 := tf_keepF hF38 hax rfl rfl (by decide) hs11
  have hs46 := tf_keepF hF38 hsq rfl rfl (by decide) hs12
  have hs47 := tf_keepF hF38 hsq rfl rfl (by decide) hs13
  have hs48 := tf_keepF hF38 hsq rfl rfl (by decide) hs14
  have hs49 := tf_keepF hF38 hsq rfl rfl (by decide) hs15
  have hs50 := tf_keepC hF38 hlp rfl (by decide) hs16
  have hs51 := tf_keepC hF38 hlh rfl (by decide) hs17
  have hs52 := tf_keepC hF38 hyr rfl (by decide) hs18
  have hs53 := tf_keepC hF38 hwh rfl (by decide) hs19
  have hs54 := tf_keepC hF38 hta rfl (by decide) hs20
  have hs55 := tf_keepC hF38 hdh rfl (by decide) hs21
  have hs56 := tf_keepF hF38 ham rfl rfl (by decide) hs22
  have hs57 := tf_keepF hF38 ham rfl rfl (by decide) hs23
  have hs58 := tf_keepF hF38 ham rfl rfl (by decide) hs24
  have hs59 := tf_keepF hF38 ham rfl rfl (by decide) hs25
  have hs60 := tf_keepF hF38 ham rfl rfl (by decide) hs26
  have hs61 := tf_keepF hF38 ham rfl rfl (by decide) hs27
  have hs62 := tf_keepF hF38 ham rfl rfl (by decide) hs28
  have hs63 := tf_keepF hF38 ham rfl rfl (by decide) hs29
  have hs64 := tf_keepC hF38 hro rfl (by decide) hs30
  have hs65 := tf_keepC hF38 hiz rfl (by decide) hs31
  have hs66 := tf_keepC hF38 hkp rfl (by decide) hs32
  have hs67 := tf_keepC hF38 htm rfl (by decide) hs33
  have hs68 := tf_keepC hF38 hdw rfl (by decide) hs34
  have hI0 := tf_IS1_keep hF38 him (by decide) (by decide) hI0
  have hI1 := tf_IS2_keep hF38 him (by decide) (by decide) hI1
  obtain ⟨hp38_0, hp38_1⟩ := hp38
  refine lv_pop hx hb dL_law_1293 rfl ?_
  refine lv_goto (tgt := 1498) hx hb dL_law_1294 (by decide) ?_
  refine W.widen (k := 130 + 30 * jj) (n := 31200 + 1200 * jj) (by omega) (by omega) ?_
  exact hnx _ _ _ hW hax ham ⟨sq, im, ta, dh, lp, lh, yr, wh, ro, iz, kp, tm, dw, (tt), (uu), (dd), gl, gh, gy, gw, tp, gd, rr, qq, rk, tq, gm, hsq, him, hta, hdh, hlp, hlh, hyr, hwh, hro, hiz, hkp, htm, hdw, ⟨by omega, by omega⟩, ⟨by omega, by omega⟩, ⟨by omega, by omega⟩, hs39, hs40, hs41, hs42, hs43, hs44, hs45, hs46, hs47, hs48, hs49, hs50, hs51, hs52, hs53, hs54, hs55, hs56, hs57, hs58, tf_eqv hs59 (by omega), hs60, tf_eqv hs61 (by omega), hs62, tf_eqv hs63 (by omega), hs64, hs65, hs66, hs67, hs68, hRL, hDD, hTP, hI0, hI1⟩ _ (lv_sub hl [0, 1, 2, 3] rfl)

set_option maxHeartbeats 4000000 in
set_option maxRecDepth 100000 in
theorem lc_1297 {p : Program} {l : Launch} {e : Env} {s : State} {m : MethodId} {below : List Frame} {meth : Method} {c : Code} {b L : Nat} {g : tf_G} {sx : Int → Int} {Q : State → Prop} (E : lw_E p s m c b L g sx) (ax am jj : Nat) (ii : Int) (hii : ii = 6 * (jj : Int)) (hij : ii + 6 ≤ (L : Int)) (hnx : lw_nx p l e s m below meth c b g ax am jj ii Q) (T : tf_T) (H : Heap) (locs : List Loc) (hW : tf_n tf_kt g M_law (fun _ => none) s.heap T H locs) (hax : T ax = some (39, 0)) (ham : T am = some (63, 0)) (hI : lw_I g T H ax am) (ls : Array Slot) (hl : lv_has ls 4 [(3, .int (Int32.ofInt ii)), (2, .ref am), (1, .ref ax), (0, .ref b)]) : W p l e room_1 s m #[Value.ref b] below meth c H locs (100 + 30 * jj) (30000 + 1200 * jj) Q (F0 m 1297 ls []) := by
  obtain ⟨hx, hb, hml, hown, hts, hbl, hk, hBs, hsx, hX, hL⟩ := id E
  have hR1 := lw_R1
  have hR2 := lw_R2
  have hR3 := lw_R3
  have hR4 := lw_R4
  have hK := hk.1
  have hE : tf_E g T := trivial
  obtain ⟨sq, im, ta, dh, lp, lh, yr, wh, ro, iz, kp, tm, dw, tt, uu, dd, gl, gh, gy, gw, tp, gd, rr, qq, rk, tq, gm, hsq, him, hta, hdh, hlp, hlh, hyr, hwh, hro, hiz, hkp, htm, hdw, htt, huu, hdd, hf0, hf1, hf2, hf3, hf4, hf5, hf6, hf7, hf8, hf9, hf10, hf11, hf12, hf13, hf14, hf15, hf16, hf17, hf18, hf19, hf20, hf21, hf22, hf23, hf24, hf25, hf26, hf27, hf28, hf29, hRL, hDD, hTP, hI0, hI1⟩ := hI
  have hWS : tf_WS gy gw := hRL.2.2
  refine lv_aload_n hx hb dL_law_1297 rfl (lv_at hl 2 rfl) ?_
  refine lv_aload_n hx hb dL_law_1298 rfl (lv_at hl 3 rfl) ?_
  refine lv_iload_n hx hb dL_law_1299 rfl (lv_at hl 0 rfl) ?_
  refine tf_iconst hx hb dL_law_1300 ?_
  refine tf_iadd hx hb dL_law_1301 ?_
  refine lw_sld (sx := sx) hx hb hX hbl hBs hL hW (by omega) (by omega) dL_law_1302 ?_
  have hsx1 := hsx (ii + 1)
  refine lv_aload_n hx hb dL_law_1303 rfl (lv_at hl 3 rfl) ?_
  refine lv_iload_n hx hb dL_law_1304 rfl (lv_at hl 0 rfl) ?_
  refine tf_iconst hx hb dL_law_1305 ?_
  refine tf_iadd hx hb dL_law_1306 ?_
  refine lw_sld (sx := sx) hx hb hX hbl hBs hL hW (by omega) (by omega) dL_law_1307 ?_
  have hsx2 := hsx (ii + 2)
  refine lv_aload_n hx hb dL_law_1308 rfl (lv_at hl 3 rfl) ?_
  refine lv_iload_n hx hb dL_law_1309 rfl (lv_at hl 0 rfl) ?_
  refine tf_iconst hx hb dL_law_1310 ?_
  refine tf_iadd hx hb dL_law_1311 ?_
  refine lw_sld (sx := sx) hx hb hX hbl hBs hL hW (by omega) (by omega) dL_law_1312 ?_
  have hsx3 := hsx (ii + 3)
  refine lv_aload_n hx hb dL_law_1313 rfl (lv_at hl 3 rfl) ?_
  refine lv_iload_n hx hb dL_law_1314 rfl (lv_at hl 0 rfl) ?_
  refine tf_iconst hx hb dL_law_1315 ?_
  refine tf_iadd hx hb dL_law_1316 ?_
  refine lw_sld (sx := sx) hx hb hX hbl hBs hL hW (by omega) (by omega) dL_law_1317 ?_
  have hsx4 := hsx (ii + 4)
  refine lv_aload_n hx hb dL_law_1318 rfl (lv_at hl 3 rfl) ?_
  refine lv_iload_n hx hb dL_law_1319 rfl (lv_at hl 0 rfl) ?_
  refine tf_iconst hx hb dL_law_1320 ?_
  refine tf_iadd hx hb dL_law_1321 ?_
  refine lw_sld (sx := sx) hx hb hX hbl hBs hL hW (by omega) (by omega) dL_law_1322 ?_
  have hsx5 := hsx (ii + 5)
  refine tf_calli (va_runV (As := [.int (Int32.ofInt ((sx (ii + 1)))), .int (Int32.ofInt ((sx (ii + 2)))), .int (Int32.ofInt ((sx (ii + 3)))), .int (Int32.ofInt ((sx (ii + 4)))), .int (Int32.ofInt ((sx (ii + 5))))]) (rest := []) ⟨hx, hb, hml, hown, hts⟩ (c_X9_odds l g T ax hax ((sx (ii + 1))) ⟨by omega, by omega⟩ ((sx (ii + 2))) ⟨by omega, by omega⟩ ((sx (ii + 3))) ⟨by omega, by omega⟩ ((sx (ii + 4))) ⟨by omega, by omega⟩ ((sx (ii + 5))) ⟨by omega, by omega⟩ hE) (cwV 5 hts gv_L_152 rfl rfl rfl hd_X9_odds ⟨Nat.le_trans (by decide) hR1, Nat.le_trans (by decide) hR2⟩) (tf_preV hk hW hax (ci := 9) rfl rfl trivial) rfl rfl hl.1 rfl (lv_room (Nat.le_of_ble_eq_true rfl)) dL_law_1323 ⟨Nat.le_trans (by omega) hR3, Nat.le_trans (by omega) hR4⟩) hW (by decide) (fun z6 H6 locs6 hW hF6 hp6 => ?_)
  have hs7 := tf_keepF hF6 hax rfl rfl (by decide) hf0
  have hs8 := tf_keepF hF6 hax rfl rfl (by decide) hf1
  have hs9 := tf_keepF hF6 hax rfl rfl (by decide) hf2
  have hs10 := tf_keepF hF6 hax rfl rfl (by decide) hf3
  have hs11 := tf_keepF hF6 hax rfl rfl (by decide) hf4
  have hs12 := tf_keepF hF6 hax rfl rfl (by decide) hf5
  have hs13 := tf_keepF hF6 hax rfl rfl (by decide) hf6
  have hs14 := tf_keepF hF6 hsq rfl rfl (by decide) hf7
  have hs15 := tf_keepF hF6 hsq rfl rfl (by decide) hf8
  have hs16 := tf_keepF hF6 hsq rfl rfl (by decide) hf9
  have hs17 := tf_keepF hF6 hsq rfl rfl (by decide) hf10
  have hs18 := tf_keepC hF6 hlp rfl (by decide) hf11
  have hs19 := tf_keepC hF6 hlh rfl (by decide) hf12
  have hs20 := tf_keepC hF6 hyr rfl (by decide) hf13
  have hs21 := tf_keepC hF6 hwh rfl (by decide) hf14
  have hs22 := tf_keepC hF6 hta rfl (by decide) hf15
  have hs23 := tf_keepC hF6 hdh rfl (by decide) hf16
  have hs24 := tf_keepF hF6 ham rfl rfl (by decide) hf17
  have hs25 := tf_keepF hF6 ham rfl rfl (by decide) hf18
  have hs26 := tf_keepF hF6 ham rfl rfl (by decide) hf19
  have hs27 := tf_keepF hF6 ham rfl rfl (by decide) hf20
  have hs28 := tf_keepF hF6 ham rfl rfl (by decide) hf21
  have hs29 := tf_keepF hF6 ham rfl rfl (by decide) hf22
  have hs30 := tf_keepF hF6 ham rfl rfl (by decide) hf23
  have hs31 := tf_keepF hF6 ham rfl rfl (by decide) hf24
  have hs32 := tf_keepC hF6 hro rfl (by decide) hf25
  have hs33 := tf_keepC hF6 hiz rfl (by decide) hf26
  have hs34 := tf_keepC hF6 hkp rfl (by decide) hf27
  have hs35 := tf_keepC hF6 htm rfl (by decide) hf28
  have hs36 := tf_keepC hF6 hdw rfl (by decide) hf29
  have hI0 := tf_IS1_keep hF6 him (by decide) (by decide) hI0
  have hI1 := tf_IS2_keep hF6 him (by decide) (by decide) hI1
  obtain ⟨hp6_0, hp6_1⟩ := hp6
  refine lv_pop hx hb dL_law_1326 rfl ?_
  refine lv_aload_n hx hb dL_law_1327 rfl (lv_at hl 1 rfl) ?_
  refine lv_aload_n hx hb dL_law_1328 rfl (lv_at hl 3 rfl) ?_
  refine lv_iload_n hx hb dL_law_1329 rfl (lv_at hl 0 rfl) ?_
  refine tf_iconst hx hb dL_law_1330 ?_
  refine tf_iadd hx hb dL_law_1331 ?_
  refine lw_sld (sx := sx) hx hb hX hbl hBs hL hW (by omega) (by omega) dL_law_1332 ?_
  have hsx37 := hsx (ii + 1)
  refine lv_aload_n hx hb dL_law_1333 rfl (lv_at hl 3 rfl) ?_
  refine lv_iload_n hx hb dL_law_1334 rfl (lv_at hl 0 rfl) ?_
  refine tf_iconst hx hb dL_law_1335 ?_
  refine tf_iadd hx hb dL_law_1336 ?_
  refine lw_sld (sx := sx) hx hb hX hbl hBs hL hW (by omega) (by omega) dL_law_1337 ?_
  have hsx38 := hsx (ii + 2)
  refine lv_aload_n hx hb dL_law_1338 rfl (lv_at hl 3 rfl) ?_
  refine lv_iload_n hx hb dL_law_1339 rfl (lv_at hl 0 rfl) ?_
  refine tf_iconst hx hb dL_law_1340 ?_
  refine tf_iadd hx hb dL_law_1341 ?_
  refine lw_sld (sx := sx) hx hb hX hbl hBs hL hW (by omega) (by omega) dL_law_1342 ?_
  have hsx39 := hsx (ii + 3)
  refine lv_aload_n hx hb dL_law_1343 rfl (lv_at hl 3 rfl) ?_
  refine lv_iload_n hx hb dL_law_1344 rfl (lv_at hl 0 rfl) ?_
  refine tf_iconst hx hb dL_law_1345 ?_
  refine tf_iadd hx hb dL_law_1346 ?_
  refine lw_sld (sx := sx) hx hb hX hbl hBs hL hW (by omega) (by omega) dL_law_1347 ?_
  have hsx40 := hsx (ii + 4)
  refine lv_aload_n hx hb dL_law_1348 rfl (lv_at hl 3 rfl) ?_
  refine lv_iload_n hx hb dL_law_1349 rfl (lv_at hl 0 rfl) ?_
  refine tf_iconst hx hb dL_law_1350 ?_
  refine tf_iadd hx hb dL_law_1351 ?_
  refine lw_sld (sx := sx) hx hb hX hbl hBs hL hW (by omega) (by omega) dL_law_1352 ?_
  have hsx41 := hsx (ii + 5)
  refine tf_calli (va_runV (As := [.int (Int32.ofInt ((sx (ii + 1)))), .int (Int32.ofInt ((sx (ii + 2)))), .int (Int32.ofInt ((sx (ii + 3)))), .int (Int32.ofInt ((sx (ii + 4)))), .int (Int32.ofInt ((sx (ii + 5))))]) (rest := []) ⟨hx, hb, hml, hown, hts⟩ (c_X10_odds l g T am ham ((sx (ii + 1))) ⟨by omega, by omega⟩ ((sx (ii + 2))) ⟨by omega, by omega⟩ ((sx (ii + 3))) ⟨by omega, by omega⟩ ((sx (ii + 4))) ⟨by omega, by omega⟩ ((sx (ii + 5))) ⟨by omega, by omega⟩) (cwV 5 hts gv_L_155 rfl rfl rfl hd_X10_odds ⟨Nat.le_trans (by decide) hR1, Nat.le_trans (by decide) hR2⟩) (tf_preV hk hW ham (ci := 10) rfl rfl trivial) rfl rfl hl.1 rfl (lv_room (Nat.le_of_ble_eq_true rfl)) dL_law_1353 ⟨Nat.le_trans (by omega) hR3, Nat.le_trans (by omega) hR4⟩) hW (by decide) (fun z42 H42 locs42 hW hF42 hp42 => ?_)
  have hs43 := tf_keepF hF42 hax rfl rfl (by decide) hs7
  have hs44 := tf_keepF hF42 hax rfl rfl (by decide) hs8
  have hs45 := tf_keepF hF42 hax rfl rfl (by decide) hs9
  have hs46 := tf_keepF hF42 hax rfl rfl (by decide) hs10
  have hs47 := tf_keepF hF42 hax rfl rfl (by decide) hs11
  have hs48 := tf_keepF hF42 hax rfl rfl (by decide) hs12
  have hs49 := tf_keepF hF42 hax rfl rfl (by decide) hs13
  have hs50 := tf_keepF hF42 hsq rfl rfl (by decide) hs14
  have hs51 := tf_keepF hF42 hsq rfl rfl (by decide) hs15
  have hs52 := tf_keepF hF42 hsq rfl rfl (by decide) hs16
  have hs53 := tf_keepF hF42 hsq rfl rfl (by decide) hs17
  have hs54 := tf_keepC hF42 hlp rfl (by decide) hs18
  have hs55 := tf_keepC hF42 hlh rfl (by decide) hs19
  have hs56 := tf_keepC hF42 hyr rfl (by decide) hs20
  have hs57 := tf_keepC hF42 hwh rfl (by decide) hs21
  have hs58 := tf_keepC hF42 hta rfl (by decide) hs22
  have hs59 := tf_keepC hF42 hdh rfl (by decide) hs23
  have hs60 := tf_keepF hF42 ham rfl rfl (by decide) hs24
  have hs61 := tf_keepF hF42 ham rfl rfl (by decide) hs25
  have hs62 := tf_keepF hF42 ham rfl rfl (by decide) hs26
  have hs63 := tf_keepF hF42 ham rfl rfl (by decide) hs27
  have hs64 := tf_keepF hF42 ham rfl rfl (by decide) hs28
  have hs65 := tf_keepF hF42 ham rfl rfl (by decide) hs29
  have hs66 := tf_keepF hF42 ham rfl rfl (by decide) hs30
  have hs67 := tf_keepF hF42 ham rfl rfl (by decide) hs31
  have hs68 := tf_keepC hF42 hro rfl (by decide) hs32
  have hs69 := tf_keepC hF42 hiz rfl (by decide) hs33
  have hs70 := tf_keepC hF42 hkp rfl (by decide) hs34
  have hs71 := tf_keepC hF42 htm rfl (by decide) hs35
  have hs72 := tf_keepC hF42 hdw rfl (by decide) hs36
  have hI0 := tf_IS1_keep hF42 him (by decide) (by decide) hI0
  have hI1 := tf_IS2_keep hF42 him (by decide) (by decide) hI1
  obtain ⟨hp42_0, hp42_1⟩ := hp42
  refine lv_pop hx hb dL_law_1356 rfl ?_
  refine lv_goto (tgt := 1498) hx hb dL_law_1357 (by decide) ?_
  refine W.widen (k := 130 + 30 * jj) (n := 31200 + 1200 * jj) (by omega) (by omega) ?_
  exact hnx _ _ _ hW hax ham ⟨sq, im, ta, dh, lp, lh, yr, wh, ro, iz, kp, tm, dw, (tt), (uu), (dd), gl, gh, gy, gw, tp, gd, rr, qq, rk, tq, gm, hsq, him, hta, hdh, hlp, hlh, hyr, hwh, hro, hiz, hkp, htm, hdw, ⟨by omega, by omega⟩, ⟨by omega, by omega⟩, ⟨by omega, by omega⟩, hs43, hs44, hs45, hs46, hs47, hs48, hs49, hs50, hs51, hs52, hs53, hs54, hs55, hs56, hs57, hs58, hs59, hs60, hs61, hs62, tf_eqv hs63 (by omega), hs64, tf_eqv hs65 (by omega), hs66, tf_eqv hs67 (by omega), hs68, hs69, hs70, hs71, hs72, hRL, hDD, hTP, hI0, hI1⟩ _ (lv_sub hl [0, 1, 2, 3] rfl)

set_option maxHeartbeats 4000000 in
set_option maxRecDepth 100000 in
theorem lc_1360 {p : Program} {l : Launch} {e : Env} {s : State} {m : MethodId} {below : List Frame} {meth : Method} {c : Code} {b L : Nat} {g : tf_G} {sx : Int → Int} {Q : State → Prop} (E : lw_E p s m c b L g sx) (ax am jj : Nat) (ii : Int) (hii : ii = 6 * (jj : Int)) (hij : ii + 6 ≤ (L : Int)) (hnx : lw_nx p l e s m below meth c b g ax am jj ii Q) (T : tf_T) (H : Heap) (locs : List Loc) (hW : tf_n tf_kt g M_law (fun _ => none) s.heap T H locs) (hax : T ax = some (39, 0)) (ham : T am = some (63, 0)) (hI : lw_I g T H ax am) (ls : Array Slot) (hl : lv_has ls 4 [(3, .int (Int32.ofInt ii)), (2, .ref am), (1, .ref ax), (0, .ref b)]) : W p l e room_1 s m #[Value.ref b] below meth c H locs (100 + 30 * jj) (30000 + 1200 * jj) Q (F0 m 1360 ls []) := by
  obtain ⟨hx, hb, hml, hown, hts, hbl, hk, hBs, hsx, hX, hL⟩ := id E
  have hR1 := lw_R1
  have hR2 := lw_R2
  have hR3 := lw_R3
  have hR4 := lw_R4
  have hK := hk.1
  have hE : tf_E g T := trivial
  obtain ⟨sq, im, ta, dh, lp, lh, yr, wh, ro, iz, kp, tm, dw, tt, uu, dd, gl, gh, gy, gw, tp, gd, rr, qq, rk, tq, gm, hsq, him, hta, hdh, hlp, hlh, hyr, hwh, hro, hiz, hkp, htm, hdw, htt, huu, hdd, hf0, hf1, hf2, hf3, hf4, hf5, hf6, hf7, hf8, hf9, hf10, hf11, hf12, hf13, hf14, hf15, hf16, hf17, hf18, hf19, hf20, hf21, hf22, hf23, hf24, hf25, hf26, hf27, hf28, hf29, hRL, hDD, hTP, hI0, hI1⟩ := hI
  have hWS : tf_WS gy gw := hRL.2.2
  refine lv_aload_n hx hb dL_law_1360 rfl (lv_at hl 2 rfl) ?_
  refine lv_aload_n hx hb dL_law_1361 rfl (lv_at hl 3 rfl) ?_
  refine lv_iload_n hx hb dL_law_1362 rfl (lv_at hl 0 rfl) ?_
  refine tf_iconst hx hb dL_law_1363 ?_
  refine tf_iadd hx hb dL_law_1364 ?_
  refine lw_sld (sx := sx) hx hb hX hbl hBs hL hW (by omega) (by omega) dL_law_1365 ?_
  have hsx1 := hsx (ii + 1)
  refine tf_calli (va_runV (As := [.int (Int32.ofInt ((sx (ii + 1))))]) (rest := []) ⟨hx, hb, hml, hown, hts⟩ (c_X9_day l g T ax hax ((sx (ii + 1))) ⟨by omega, by omega⟩ sq hsq yr hyr wh hwh dh hdh gy gw (dd) ⟨by omega, by omega⟩ gd (by first | omega | assumption) hE) (cwV 1 hts gv_L_156 rfl rfl rfl hd_X9_day ⟨Nat.le_trans (by decide) hR1, Nat.le_trans (by decide) hR2⟩) (tf_preV hk hW hax (ci := 9) rfl rfl ⟨hf0, hf9, hf10, hf13, hf14, hf5, hf6, hf16⟩) rfl rfl hl.1 rfl (lv_room (Nat.le_of_ble_eq_true rfl)) dL_law_1366 ⟨Nat.le_trans (by omega) hR3, Nat.le_trans (by omega) hR4⟩) hW (by decide) (fun z2 H2 locs2 hW hF2 hp2 => ?_)
  have hs3 := tf_keepF hF2 hax rfl rfl (by decide) hf0
  have hs4 := tf_keepF hF2 hax rfl rfl (by decide) hf1
  have hs5 := tf_keepF hF2 hax rfl rfl (by decide) hf2
  have hs6 := tf_keepF hF2 hax rfl rfl (by decide) hf3
  have hs7 := tf_keepF hF2 hax rfl rfl (by decide) hf4
  have hs8 := tf_keepF hF2 hax rfl rfl (by decide) hf5
  have hs9 := tf_keepF hF2 hsq rfl rfl (by decide) hf7
  have hs10 := tf_keepF hF2 hsq rfl rfl (by decide) hf8
  have hs11 := tf_keepF hF2 hsq rfl rfl (by decide) hf9
  have hs12 := tf_keepF hF2 hsq rfl rfl (by decide) hf10
  have hs13 := tf_keepC hF2 hlp rfl (by decide) hf11
  have hs14 := tf_keepC hF2 hlh rfl (by decide) hf12
  have hs15 := tf_keepC hF2 hyr rfl (by decide) hf13
  have hs16 := tf_keepC hF2 hwh rfl (by decide) hf14
  have hs17 := tf_keepC hF2 hta rfl (by decide) hf15
  have hs18 := tf_keepF hF2 ham rfl rfl (by decide) hf17
  have hs19 := tf_keepF hF2 ham rfl rfl (by decide) hf18
  have hs20 := tf_keepF hF2 ham rfl rfl (by decide) hf19
  have hs21 := tf_keepF hF2 ham rfl rfl (by decide) hf20
  have hs22 := tf_keepF hF2 ham rfl rfl (by decide) hf21
  have hs23 := tf_keepF hF2 ham rfl rfl (by decide) hf22
  have hs24 := tf_keepF hF2 ham rfl rfl (by decide) hf23
  have hs25 := tf_keepF hF2 ham rfl rfl (by decide) hf24
  have hs26 := tf_keepC hF2 hro rfl (by decide) hf25
  have hs27 := tf_keepC hF2 hiz rfl (by decide) hf26
  have hs28 := tf_keepC hF2 hkp rfl (by decide) hf27
  have hs29 := tf_keepC hF2 htm rfl (by decide) hf28
  have hs30 := tf_keepC hF2 hdw rfl (by decide) hf29
  have hI0 := tf_IS1_keep hF2 him (by decide) (by decide) hI0
  have hI1 := tf_IS2_keep hF2 him (by decide) (by decide) hI1
  obtain ⟨hp2_0, hp2_1, hp2_2⟩ := hp2
  obtain ⟨d1_2, gd1_2, hX2_0, hX2_1, hB2_0, hR2_0⟩ := hp2_2
  refine lv_pop hx hb dL_law_1369 rfl ?_
  refine lv_aload_n hx hb dL_law_1370 rfl (lv_at hl 1 rfl) ?_
  refine lv_aload_n hx hb dL_law_1371 rfl (lv_at hl 3 rfl) ?_
  refine lv_iload_n hx hb dL_law_1372 rfl (lv_at hl 0 rfl) ?_
  refine tf_iconst hx hb dL_law_1373 ?_
  refine tf_iadd hx hb dL_law_1374 ?_
  refine lw_sld (sx := sx) hx hb hX hbl hBs hL hW (by omega) (by omega) dL_law_1375 ?_
  have hsx31 := hsx (ii + 1)
  refine tf_calli (va_runV (As := [.int (Int32.ofInt ((sx (ii + 1))))]) (rest := []) ⟨hx, hb, hml, hown, hts⟩ (c_X10_day l g T am ham ((sx (ii + 1))) ⟨by omega, by omega⟩ ro hro dw hdw rr (dd) ⟨by omega, by omega⟩ gm) (cwV 1 hts gv_L_159 rfl rfl rfl hd_X10_day ⟨Nat.le_trans (by decide) hR1, Nat.le_trans (by decide) hR2⟩) (tf_preV hk hW ham (ci := 10) rfl rfl ⟨hs18, hs26, hs24, hs25, hs30⟩) rfl rfl hl.1 rfl (lv_room (Nat.le_of_ble_eq_true rfl)) dL_law_1376 ⟨Nat.le_trans (by omega) hR3, Nat.le_trans (by omega) hR4⟩) hW (by decide) (fun z32 H32 locs32 hW hF32 hp32 => ?_)
  have hs33 := tf_keepF hF32 hax rfl rfl (by decide) hs3
  have hs34 := tf_keepF hF32 hax rfl rfl (by decide) hs4
  have hs35 := tf_keepF hF32 hax rfl rfl (by decide) hs5
  have hs36 := tf_keepF hF32 hax rfl rfl (by decide) hs6
  have hs37 := tf_keepF hF32 hax rfl rfl (by decide) hs7
  have hs38 := tf_keepF hF32 hax rfl rfl (by decide) hs8
  have hs39 := tf_keepF hF32 hsq rfl rfl (by decide) hs9
  have hs40 := tf_keepF hF32 hsq rfl rfl (by decide) hs10
  have hs41 := tf_keepF hF32 hsq rfl rfl (by decide) hs11
  have hs42 := tf_keepF hF32 hsq rfl rfl (by decide) hs12
  have hs43 := tf_keepC hF32 hlp rfl (by decide) hs13
  have hs44 := tf_keepC hF32 hlh rfl (by decide) hs14
  have hs45 := tf_keepC hF32 hyr rfl (by decide) hs15
  have hs46 := tf_keepC hF32 hwh rfl (by decide) hs16
  have hs47 := tf_keepC hF32 hta rfl (by decide) hs17
  have hs48 := tf_keepF hF32 ham rfl rfl (by decide) hs18
  have hs49 := tf_keepF hF32 ham rfl rfl (by decide) hs19
  have hs50 := tf_keepF hF32 ham rfl rfl (by decide) hs20
  have hs51 := tf_keepF hF32 ham rfl rfl (by decide) hs21
  have hs52 := tf_keepF hF32 ham rfl rfl (by decide) hs22
  have hs53 := tf_keepF hF32 ham rfl rfl (by decide) hs23
  have hs54 := tf_keepF hF32 ham rfl rfl (by decide) hs24
  have hs55 := tf_keepC hF32 hro rfl (by decide) hs26
  have hs56 := tf_keepC hF32 hiz rfl (by decide) hs27
  have hs57 := tf_keepC hF32 hkp rfl (by decide) hs28
  have hs58 := tf_keepC hF32 htm rfl (by decide) hs29
  have hs59 := tf_keepF hF32 hax rfl rfl (by decide) hX2_0
  have hs60 := tf_keepC hF32 hdh rfl (by decide) hX2_1
  have hI0 := tf_IS1_keep hF32 him (by decide) (by decide) hI0
  have hI1 := tf_IS2_keep hF32 him (by decide) (by decide) hI1
  obtain ⟨hp32_0, hp32_1, hp32_2⟩ := hp32
  obtain ⟨d1_32, gd1_32, hX32_0, hX32_1, hB32_0, hR32_0⟩ := hp32_2
  obtain ⟨hdz, hDD⟩ := tf_day_eq hRL hDD hR2_0 hR32_0
  refine lv_pop hx hb dL_law_1379 rfl ?_
  refine lv_goto (tgt := 1498) hx hb dL_law_1380 (by decide) ?_
  refine W.widen (k := 130 + 30 * jj) (n := 31200 + 1200 * jj) (by omega) (by omega) ?_
  exact hnx _ _ _ hW hax ham ⟨sq, im, ta, dh, lp, lh, yr, wh, ro, iz, kp, tm, dw, (tt), (uu), (d1_2), gl, gh, gy, gw, tp, gd1_2, rr, qq, rk, tq, gd1_32, hsq, him, hta, hdh, hlp, hlh, hyr, hwh, hro, hiz, hkp, htm, hdw, ⟨by omega, by omega⟩, ⟨by omega, by omega⟩, ⟨by omega, by omega⟩, hs33, hs34, hs35, hs36, hs37, hs38, hs59, hs39, hs40, hs41, hs42, hs43, hs44, hs45, hs46, hs47, hs60, hs48, hs49, hs50, tf_eqv hs51 (by omega), hs52, tf_eqv hs53 (by omega), hs54, tf_eqv hX32_0 (by omega), hs55, hs56, hs57, hs58, hX32_1, hRL, hDD, hTP, hI0, hI1⟩ _ (lv_sub hl [0, 1, 2, 3] rfl)

set_option maxHeartbeats 4000000 in
set_option maxRecDepth 100000 in
theorem lc_1383 {p : Program} {l : Launch} {e : Env} {s : State} {m : MethodId} {below : List Frame} {meth : Method} {c : Code} {b L : Nat} {g : tf_G} {sx : Int → Int} {Q : State → Prop} (E : lw_E p s m c b L g sx) (ax am jj : Nat) (ii : Int) (hii : ii = 6 * (jj : Int)) (hij : ii + 6 ≤ (L : Int)) (hnx : lw_nx p l e s m below meth c b g ax am jj ii Q) (T : tf_T) (H : Heap) (locs : List Loc) (hW : tf_n tf_kt g M_law (fun _ => none) s.heap T H locs) (hax : T ax = some (39, 0)) (ham : T am = some (63, 0)) (hI : lw_I g T H ax am) (ls : Array Slot) (hl : lv_has ls 4 [(3, .int (Int32.ofInt ii)), (2, .ref am), (1, .ref ax), (0, .ref b)]) : W p l e room_1 s m #[Value.ref b] below meth c H locs (100 + 30 * jj) (30000 + 1200 * jj) Q (F0 m 1383 ls []) := by
  obtain ⟨hx, hb, hml, hown, hts, hbl, hk, hBs, hsx, hX, hL⟩ := id E
  have hR1 := lw_R1
  have hR2 := lw_R2
  have hR3 := lw_R3
  have hR4 := lw_R4
  have hK := hk.1
  have hE : tf_E g T := trivial
  obtain ⟨sq, im, ta, dh, lp, lh, yr, wh, ro, iz, kp, tm, dw, tt, uu, dd, gl, gh, gy, gw, tp, gd, rr, qq, rk, tq, gm, hsq, him, hta, hdh, hlp, hlh, hyr, hwh, hro, hiz, hkp, htm, hdw, htt, huu, hdd, hf0, hf1, hf2, hf3, hf4, hf5, hf6, hf7, hf8, hf9, hf10, hf11, hf12, hf13, hf14, hf15, hf16, hf17, hf18, hf19, hf20, hf21, hf22, hf23, hf24, hf25, hf26, hf27, hf28, hf29, hRL, hDD, hTP, hI0, hI1⟩ := hI
  have hWS : tf_WS gy gw := hRL.2.2
  refine lv_aload_n hx hb dL_law_1383 rfl (lv_at hl 2 rfl) ?_
  refine lv_aload_n hx hb dL_law_1384 rfl (lv_at hl 3 rfl) ?_
  refine lv_iload_n hx hb dL_law_1385 rfl (lv_at hl 0 rfl) ?_
  refine tf_iconst hx hb dL_law_1386 ?_
  refine tf_iadd hx hb dL_law_1387 ?_
  refine lw_sld (sx := sx) hx hb hX hbl hBs hL hW (by omega) (by omega) dL_law_1388 ?_
  have hsx1 := hsx (ii + 1)
  refine lv_aload_n hx hb dL_law_1389 rfl (lv_at hl 3 rfl) ?_
  refine lv_iload_n hx hb dL_law_1390 rfl (lv_at hl 0 rfl) ?_
  refine tf_iconst hx hb dL_law_1391 ?_
  refine tf_iadd hx hb dL_law_1392 ?_
  refine lw_sld (sx := sx) hx hb hX hbl hBs hL hW (by omega) (by omega) dL_law_1393 ?_
  have hsx2 := hsx (ii + 2)
  refine tf_calli (va_runV (As := [.int (Int32.ofInt ((sx (ii + 1)))), .int (Int32.ofInt ((sx (ii + 2))))]) (rest := []) ⟨hx, hb, hml, hown, hts⟩ (c_X9_drawn l g T ax hax ((sx (ii + 1))) ⟨by omega, by omega⟩ ((sx (ii + 2))) ⟨by omega, by omega⟩ dh hdh (dd) ⟨by omega, by omega⟩ gd) (cwV 2 hts gv_L_160 rfl rfl rfl hd_X9_drawn ⟨Nat.le_trans (by decide) hR1, Nat.le_trans (by decide) hR2⟩) (tf_preV hk hW hax (ci := 9) rfl rfl ⟨hf5, hf6, hf16⟩) rfl rfl hl.1 rfl (lv_room (Nat.le_of_ble_eq_true rfl)) dL_law_1394 ⟨Nat.le_trans (by omega) hR3, Nat.le_trans (by omega) hR4⟩) hW (by decide) (fun z3 H3 locs3 hW hF3 hp3 => ?_)
  have hs4 := tf_keepF hF3 hax rfl rfl (by decide) hf0
  have hs5 := tf_keepF hF3 hax rfl rfl (by decide) hf1
  have hs6 := tf_keepF hF3 hax rfl rfl (by decide) hf2
  have hs7 := tf_keepF hF3 hax rfl rfl (by decide) hf3
  have hs8 := tf_keepF hF3 hax rfl rfl (by decide) hf4
  have hs9 := tf_keepF hF3 hax rfl rfl (by decide) hf5
  have hs10 := tf_keepF hF3 hax rfl rfl (by decide) hf6
  have hs11 := tf_keepF hF3 hsq rfl rfl (by decide) hf7
  have hs12 := tf_keepF hF3 hsq rfl rfl (by decide) hf8
  have hs13 := tf_keepF hF3 hsq rfl rfl (by decide) hf9
  have hs14 := tf_keepF hF3 hsq rfl rfl (by decide) hf10
  have hs15 := tf_keepC hF3 hlp rfl (by decide) hf11
  have hs16 := tf_keepC hF3 hlh rfl (by decide) hf12
  have hs17 := tf_keepC hF3 hyr rfl (by decide) hf13
  have hs18 := tf_keepC hF3 hwh rfl (by decide) hf14
  have hs19 := tf_keepC hF3 hta rfl (by decide) hf15
  have hs20 := tf_keepC hF3 hdh rfl (by decide) hf16
  have hs21 := tf_keepF hF3 ham rfl rfl (by decide) hf17
  have hs22 := tf_keepF hF3 ham rfl rfl (by decide) hf18
  have hs23 := tf_keepF hF3 ham rfl rfl (by decide) hf19
  have hs24 := tf_keepF hF3 ham rfl rfl (by decide) hf20
  have hs25 := tf_keepF hF3 ham rfl rfl (by decide) hf21
  have hs26 := tf_keepF hF3 ham rfl rfl (by decide) hf22
  have hs27 := tf_keepF hF3 ham rfl rfl (by decide) hf23
  have hs28 := tf_keepF hF3 ham rfl rfl (by decide) hf24
  have hs29 := tf_keepC hF3 hro rfl (by decide) hf25
  have hs30 := tf_keepC hF3 hiz rfl (by decide) hf26
  have hs31 := tf_keepC hF3 hkp rfl (by decide) hf27
  have hs32 := tf_keepC hF3 htm rfl (by decide) hf28
  have hs33 := tf_keepC hF3 hdw rfl (by decide) hf29
  have hI0 := tf_IS1_keep hF3 him (by decide) (by decide) hI0
  have hI1 := tf_IS2_keep hF3 him (by decide) (by decide) hI1
  obtain ⟨hp3_0, hp3_1, hp3_2⟩ := hp3
  refine lv_aload_n hx hb dL_law_1397 rfl (lv_at hl 1 rfl) ?_
  refine lv_aload_n hx hb dL_law_1398 rfl (lv_at hl 3 rfl) ?_
  refine lv_iload_n hx hb dL_law_1399 rfl (lv_at hl 0 rfl) ?_
  refine tf_iconst hx hb dL_law_1400 ?_
  refine tf_iadd hx hb dL_law_1401 ?_
  refine lw_sld (sx := sx) hx hb hX hbl hBs hL hW (by omega) (by omega) dL_law_1402 ?_
  have hsx34 := hsx (ii + 1)
  refine lv_aload_n hx hb dL_law_1403 rfl (lv_at hl 3 rfl) ?_
  refine lv_iload_n hx hb dL_law_1404 rfl (lv_at hl 0 rfl) ?_
  refine tf_iconst hx hb dL_law_1405 ?_
  refine tf_iadd hx hb dL_law_1406 ?_
  refine lw_sld (sx := sx) hx hb hX hbl hBs hL hW (by omega) (by omega) dL_law_1407 ?_
  have hsx35 := hsx (ii + 2)
  refine tf_calli (va_runV (As := [.int (Int32.ofInt ((sx (ii + 1)))), .int (Int32.ofInt ((sx (ii + 2))))]) (rest := [.int (Int32.ofInt z3)]) ⟨hx, hb, hml, hown, hts⟩ (c_X10_drawn l g T am ham ((sx (ii + 1))) ⟨by omega, by omega⟩ ((sx (ii + 2))) ⟨by omega, by omega⟩ dw hdw (dd) ⟨by omega, by omega⟩ gm) (cwV 2 hts gv_L_163 rfl rfl rfl hd_X10_drawn ⟨Nat.le_trans (by decide) hR1, Nat.le_trans (by decide) hR2⟩) (tf_preV hk hW ham (ci := 10) rfl rfl ⟨hs27, hs28, hs33⟩) rfl rfl hl.1 rfl (lv_room (Nat.le_of_ble_eq_true rfl)) dL_law_1408 ⟨Nat.le_trans (by omega) hR3, Nat.le_trans (by omega) hR4⟩) hW (by decide) (fun z36 H36 locs36 hW hF36 hp36 => ?_)
  have hs37 := tf_keepF hF36 hax rfl rfl (by decide) hs4
  have hs38 := tf_keepF hF36 hax rfl rfl (by decide) hs5
  have hs39 := tf_keepF hF36 hax rfl rfl (by decide) hs6
  have hs40 := tf_keepF hF36 hax rfl rfl (by decide) hs7
  have hs41 := tf_keepF hF36 hax rfl rfl (by decide) hs8
  have hs42 := tf_keepF hF36 hax rfl rfl (by decide) hs9
  have hs43 := tf_keepF hF36 hax rfl rfl (by decide) hs10
  have hs44 := tf_keepF hF36 hsq rfl rfl (by decide) hs11
  have hs45 := tf_keepF hF36 hsq rfl rfl (by decide) hs12
  have hs46 := tf_keepF hF36 hsq rfl rfl (by decide) hs13
  have hs47 := tf_keepF hF36 hsq rfl rfl (by decide) hs14
  have hs48 := tf_keepC hF36 hlp rfl (by decide) hs15
  have hs49 := tf_keepC hF36 hlh rfl (by decide) hs16
  have hs50 := tf_keepC hF36 hyr rfl (by decide) hs17
  have hs51 := tf_keepC hF36 hwh rfl (by decide) hs18
  have hs52 := tf_keepC hF36 hta rfl (by decide) hs19
  have hs53 := tf_keepC hF36 hdh rfl (by decide) hs20
  have hs54 := tf_keepF hF36 ham rfl rfl (by decide) hs21
  have hs55 := tf_keepF hF36 ham rfl rfl (by decide) hs22
  have hs56 := tf_keepF hF36 ham rfl rfl (by decide) hs23
  have hs57 := tf_keepF hF36 ham rfl rfl (by decide) hs24
  have hs58 := tf_keepF hF36 ham rfl rfl (by decide) hs25
  have hs59 := tf_keepF hF36 ham rfl rfl (by decide) hs26
  have hs60 := tf_keepF hF36 ham rfl rfl (by decide) hs27
  have hs61 := tf_keepF hF36 ham rfl rfl (by decide) hs28
  have hs62 := tf_keepC hF36 hro rfl (by decide) hs29
  have hs63 := tf_keepC hF36 hiz rfl (by decide) hs30
  have hs64 := tf_keepC hF36 hkp rfl (by decide) hs31
  have hs65 := tf_keepC hF36 htm rfl (by decide) hs32
  have hs66 := tf_keepC hF36 hdw rfl (by decide) hs33
  have hI0 := tf_IS1_keep hF36 him (by decide) (by decide) hI0
  have hI1 := tf_IS2_keep hF36 him (by decide) (by decide) hI1
  obtain ⟨hp36_0, hp36_1, hp36_2⟩ := hp36
  have hdx : 0 ≤ (sx (ii + 1)) → (sx (ii + 1)) ≤ 23 → gd (sx (ii + 1)) = gm (sx (ii + 1)) := fun a b => hDD _ a (by omega)
  refine tf_icmp_eq (tgt := 1498) hx hb ⟨by omega, by omega⟩ ⟨by omega, by omega⟩ dL_law_1411 (by decide) (fun h67 => ?_) (fun h67 => ?_)
  · refine W.widen (k := 130 + 30 * jj) (n := 31200 + 1200 * jj) (by omega) (by omega) ?_
    exact hnx _ _ _ hW hax ham ⟨sq, im, ta, dh, lp, lh, yr, wh, ro, iz, kp, tm, dw, (tt), (uu), (dd), gl, gh, gy, gw, tp, gd, rr, qq, rk, tq, gm, hsq, him, hta, hdh, hlp, hlh, hyr, hwh, hro, hiz, hkp, htm, hdw, ⟨by omega, by omega⟩, ⟨by omega, by omega⟩, ⟨by omega, by omega⟩, hs37, hs38, hs39, hs40, hs41, hs42, hs43, hs44, hs45, hs46, hs47, hs48, hs49, hs50, hs51, hs52, hs53, hs54, hs55, hs56, tf_eqv hs57 (by omega), hs58, tf_eqv hs59 (by omega), hs60, tf_eqv hs61 (by omega), hs62, hs63, hs64, hs65, hs66, hRL, hDD, hTP, hI0, hI1⟩ _ (lv_sub hl [0, 1, 2, 3] rfl)
  · exfalso; omega

set_option maxHeartbeats 4000000 in
set_option maxRecDepth 100000 in
theorem lc_1416 {p : Program} {l : Launch} {e : Env} {s : State} {m : MethodId} {below : List Frame} {meth : Method} {c : Code} {b L : Nat} {g : tf_G} {sx : Int → Int} {Q : State → Prop} (E : lw_E p s m c b L g sx) (ax am jj : Nat) (ii : Int) (hii : ii = 6 * (jj : Int)) (hij : ii + 6 ≤ (L : Int)) (hnx : lw_nx p l e s m below meth c b g ax am jj ii Q) (T : tf_T) (H : Heap) (locs : List Loc) (hW : tf_n tf_kt g M_law (fun _ => none) s.heap T H locs) (hax : T ax = some (39, 0)) (ham : T am = some (63, 0)) (hI : lw_I g T H ax am) (ls : Array Slot) (hl : lv_has ls 4 [(3, .int (Int32.ofInt ii)), (2, .ref am), (1, .ref ax), (0, .ref b)]) : W p l e room_1 s m #[Value.ref b] below meth c H locs (100 + 30 * jj) (30000 + 1200 * jj) Q (F0 m 1416 ls []) := by
  obtain ⟨hx, hb, hml, hown, hts, hbl, hk, hBs, hsx, hX, hL⟩ := id E
  have hR1 := lw_R1
  have hR2 := lw_R2
  have hR3 := lw_R3
  have hR4 := lw_R4
  have hK := hk.1
  have hE : tf_E g T := trivial
  obtain ⟨sq, im, ta, dh, lp, lh, yr, wh, ro, iz, kp, tm, dw, tt, uu, dd, gl, gh, gy, gw, tp, gd, rr, qq, rk, tq, gm, hsq, him, hta, hdh, hlp, hlh, hyr, hwh, hro, hiz, hkp, htm, hdw, htt, huu, hdd, hf0, hf1, hf2, hf3, hf4, hf5, hf6, hf7, hf8, hf9, hf10, hf11, hf12, hf13, hf14, hf15, hf16, hf17, hf18, hf19, hf20, hf21, hf22, hf23, hf24, hf25, hf26, hf27, hf28, hf29, hRL, hDD, hTP, hI0, hI1⟩ := hI
  have hWS : tf_WS gy gw := hRL.2.2
  refine lv_aload_n hx hb dL_law_1416 rfl (lv_at hl 2 rfl) ?_
  refine lv_aload_n hx hb dL_law_1417 rfl (lv_at hl 3 rfl) ?_
  refine lv_iload_n hx hb dL_law_1418 rfl (lv_at hl 0 rfl) ?_
  refine tf_iconst hx hb dL_law_1419 ?_
  refine tf_iadd hx hb dL_law_1420 ?_
  refine lw_sld (sx := sx) hx hb hX hbl hBs hL hW (by omega) (by omega) dL_law_1421 ?_
  have hsx1 := hsx (ii + 1)
  rcases (show (sx (ii + 1)) = 0 ∨ (sx (ii + 1)) = 1 ∨ ((sx (ii + 1)) < 0 ∨ 1 < (sx (ii + 1))) by omega) with hv | hv | hv
  · rcases id hI0 with ⟨hkk, hbn⟩ | ⟨hkk, ss, slp, slh, syr, swh, hss, hslp, hslh, hsyr, hswh, hb1, hb2, hb3, hb4, hb5, hbR⟩
    · obtain ⟨vo, hvo⟩ := tf_IS2_v hI1
      refine tf_callI (va_runV (As := [.int (Int32.ofInt ((sx (ii + 1))))]) (rest := []) ⟨hx, hb, hml, hown, hts⟩ (c_n0_X9_image l g T ax hax ((sx (ii + 1))) ⟨by omega, by omega⟩ sq hsq im him lp hlp lh hlh yr hyr wh hwh gl gh gy gw (vo)) (cwV 1 hts gv_L_164 rfl rfl rfl hd_X9_image ⟨Nat.le_trans (by decide) hR1, Nat.le_trans (by decide) hR2⟩) (tf_preV hk hW hax (ci := 9) rfl rfl ⟨hf0, hf7, hf8, hf9, hf10, hf11, hf12, hf13, hf14, hf1, hbn, hvo⟩) rfl rfl hl.1 rfl (lv_room (Nat.le_of_ble_eq_true rfl)) dL_law_1422 ⟨Nat.le_trans (by omega) hR3, Nat.le_trans (by omega) hR4⟩) hW (by decide) (fun z2 H2 locs2 T hW hE2 hF2 hp2 => ?_)
      have hs3 := tf_keepF hF2 hax rfl rfl (by decide) hf0
      have hs4 := tf_keepF hF2 hax rfl rfl (by decide) hf1
      have hs5 := tf_keepF hF2 hax rfl rfl (by decide) hf2
      have hs6 := tf_keepF hF2 hax rfl rfl (by decide) hf3
      have hs7 := tf_keepF hF2 hax rfl rfl (by decide) hf4
      have hs8 := tf_keepF hF2 hax rfl rfl (by decide) hf5
      have hs9 := tf_keepF hF2 hax rfl rfl (by decide) hf6
      have hs10 := tf_keepF hF2 hsq rfl rfl (by decide) hf7
      have hs11 := tf_keepF hF2 hsq rfl rfl (by decide) hf8
      have hs12 := tf_keepF hF2 hsq rfl rfl (by decide) hf9
      have hs13 := tf_keepF hF2 hsq rfl rfl (by decide) hf10
      have hs14 := tf_keepC hF2 hlp rfl (by decide) hf11
      have hs15 := tf_keepC hF2 hlh rfl (by decide) hf12
      have hs16 := tf_keepC hF2 hyr rfl (by decide) hf13
      have hs17 := tf_keepC hF2 hwh rfl (by decide) hf14
      have hs18 := tf_keepC hF2 hta rfl (by decide) hf15
      have hs19 := tf_keepC hF2 hdh rfl (by decide) hf16
      have hs20 := tf_keepF hF2 ham rfl rfl (by decide) hf17
      have hs21 := tf_keepF hF2 ham rfl rfl (by decide) hf18
      have hs22 := tf_keepF hF2 ham rfl rfl (by decide) hf19
      have hs23 := tf_keepF hF2 ham rfl rfl (by decide) hf20
      have hs24 := tf_keepF hF2 ham rfl rfl (by decide) hf21
      have hs25 := tf_keepF hF2 ham rfl rfl (by decide) hf22
      have hs26 := tf_keepF hF2 ham rfl rfl (by decide) hf23
      have hs27 := tf_keepF hF2 ham rfl rfl (by decide) hf24
      have hs28 := tf_keepC hF2 hro rfl (by decide) hf25
      have hs29 := tf_keepC hF2 hiz rfl (by decide) hf26
      have hs30 := tf_keepC hF2 hkp rfl (by decide) hf27
      have hs31 := tf_keepC hF2 htm rfl (by decide) hf28
      have hs32 := tf_keepC hF2 hdw rfl (by decide) hf29
      have ham := hE2 _ _ ham
      have hax := hE2 _ _ hax
      have hsq := hE2 _ _ hsq
      have him := hE2 _ _ him
      have hta := hE2 _ _ hta
      have hdh := hE2 _ _ hdh
      have hlp := hE2 _ _ hlp
      have hlh := hE2 _ _ hlh
      have hyr := hE2 _ _ hyr
      have hwh := hE2 _ _ hwh
      have hro := hE2 _ _ hro
      have hiz := hE2 _ _ hiz
      have hkp := hE2 _ _ hkp
      have htm := hE2 _ _ htm
      have hdw := hE2 _ _ hdw
      have hE := hE.mono hE2
      obtain ⟨hp2_0, hp2_1, hp2_2⟩ := hp2
      obtain ⟨ss_2, slp_2, slh_2, syr_2, swh_2, hss_2, hslp_2, hslh_2, hsyr_2, hswh_2, hw2_0, hw2_1, hw2_2, hw2_3, hw2_4, hw2_5, hw2_6, hw2_7, hw2_8, hw2_9⟩ := hp2_2
      have hI0 : tf_IS1 g T _ im 1 rr := Or.inr ⟨rfl, ss_2, slp_2, slh_2, syr_2, swh_2, hss_2, hslp_2, hslh_2, hsyr_2, hswh_2, hw2_0, hw2_2, hw2_3, hw2_4, hw2_5, by rw [hw2_6, hw2_7, hw2_8, hw2_9]; exact hRL⟩
      have hI1 := tf_IS2_mono hE2 (tf_IS2_slot hF2 hvo hw2_1 (by decide) hI1)
      refine lv_pop hx hb dL_law_1425 rfl ?_
      refine lv_aload_n hx hb dL_law_1426 rfl (lv_at hl 1 rfl) ?_
      refine lv_aload_n hx hb dL_law_1427 rfl (lv_at hl 3 rfl) ?_
      refine lv_iload_n hx hb dL_law_1428 rfl (lv_at hl 0 rfl) ?_
      refine tf_iconst hx hb dL_law_1429 ?_
      refine tf_iadd hx hb dL_law_1430 ?_
      refine lw_sld (sx := sx) hx hb hX hbl hBs hL hW (by omega) (by omega) dL_law_1431 ?_
      have hsx33 := hsx (ii + 1)
      refine tf_calli (va_runV (As := [.int (Int32.ofInt ((sx (ii + 1))))]) (rest := []) ⟨hx, hb, hml, hown, hts⟩ (c_X10_image l g T am ham ((sx (ii + 1))) ⟨by omega, by omega⟩ ro hro iz hiz kp hkp rr qq rk) (cwV 1 hts gv_L_167 rfl rfl rfl hd_X10_image ⟨Nat.le_trans (by decide) hR1, Nat.le_trans (by decide) hR2⟩) (tf_preV hk hW ham (ci := 10) rfl rfl ⟨hs20, hs28, hs21, hs22, hs29, hs30⟩) rfl rfl hl.1 rfl (lv_room (Nat.le_of_ble_eq_true rfl)) dL_law_1432 ⟨Nat.le_trans (by omega) hR3, Nat.le_trans (by omega) hR4⟩) hW (by decide) (fun z34 H34 locs34 hW hF34 hp34 => ?_)
      have hs35 := tf_keepF hF34 hax rfl rfl (by decide) hs3
      have hs36 := tf_keepF hF34 hax rfl rfl (by decide) hs4
      have hs37 := tf_keepF hF34 hax rfl rfl (by decide) hs5
      have hs38 := tf_keepF hF34 hax rfl rfl (by decide) hs6
      have hs39 := tf_keepF hF34 hax rfl rfl (by decide) hs7
      have hs40 := tf_keepF hF34 hax rfl rfl (by decide) hs8
      have hs41 := tf_keepF hF34 hax rfl rfl (by decide) hs9
      have hs42 := tf_keepF hF34 hsq rfl rfl (by decide) hs10
      have hs43 := tf_keepF hF34 hsq rfl rfl (by decide) hs11
      have hs44 := tf_keepF hF34 hsq rfl rfl (by decide) hs12
      have hs45 := tf_keepF hF34 hsq rfl rfl (by decide) hs13
      have hs46 := tf_keepC hF34 hlp rfl (by decide) hs14
      have hs47 := tf_keepC hF34 hlh rfl (by decide) hs15
      have hs48 := tf_keepC hF34 hyr rfl (by decide) hs16
      have hs49 := tf_keepC hF34 hwh rfl (by decide) hs17
      have hs50 := tf_keepC hF34 hta rfl (by decide) hs18
      have hs51 := tf_keepC hF34 hdh rfl (by decide) hs19
      have hs52 := tf_keepF hF34 ham rfl rfl (by decide) hs20
      have hs53 := tf_keepF hF34 ham rfl rfl (by decide) hs21
      have hs54 := tf_keepF hF34 ham rfl rfl (by decide) hs22
      have hs55 := tf_keepF hF34 ham rfl rfl (by decide) hs23
      have hs56 := tf_keepF hF34 ham rfl rfl (by decide) hs24
      have hs57 := tf_keepF hF34 ham rfl rfl (by decide) hs25
      have hs58 := tf_keepF hF34 ham rfl rfl (by decide) hs26
      have hs59 := tf_keepF hF34 ham rfl rfl (by decide) hs27
      have hs60 := tf_keepC hF34 hro rfl (by decide) hs28
      have hs61 := tf_keepC hF34 htm rfl (by decide) hs31
      have hs62 := tf_keepC hF34 hdw rfl (by decide) hs32
      have hI0 := tf_IS1_keep hF34 him (by decide) (by decide) hI0
      have hI1 := tf_IS2_keep hF34 him (by decide) (by decide) hI1
      obtain ⟨hp34_0, hp34_1, hp34_2⟩ := hp34
      obtain ⟨q1_34, rk1_34, hX34_0, hX34_1, hR34_0⟩ := hp34_2
      obtain ⟨hzm, hq1, hk1⟩ : z34 = 0 ∧ tf_im qq rr ((sx (ii + 1))) 5830 q1_34 ∧ rk1_34 = tf_up rk ((sx (ii + 1))) 1 := by
        rcases hR34_0 with ⟨a, -⟩ | ⟨-, a, b, c⟩
        · omega
        · exact ⟨a, b, c⟩
      have hI0 := tf_IS1_to (kept2 := rk1_34 0) (q2 := tf_qk q1_34 0) hI0 (by rw [hk1, hv, tf_up_at]) (tf_im_at hq1 hv)
      have hI1 := tf_IS2_to (kept2 := rk1_34 1) (q2 := tf_qk q1_34 1) hI1 (by rw [hk1, hv, tf_up_ne (by omega)]) (tf_im_ne hq1 hv (by omega))
      refine lv_pop hx hb dL_law_1435 rfl ?_
      refine lv_goto (tgt := 1498) hx hb dL_law_1436 (by decide) ?_
      refine W.widen (k := 130 + 30 * jj) (n := 31200 + 1200 * jj) (by omega) (by omega) ?_
      exact hnx _ _ _ hW hax ham ⟨sq, im, ta, dh, lp, lh, yr, wh, ro, iz, kp, tm, dw, (tt), (uu), (dd), gl, gh, gy, gw, tp, gd, rr, q1_34, rk1_34, tq, gm, hsq, him, hta, hdh, hlp, hlh, hyr, hwh, hro, hiz, hkp, htm, hdw, ⟨by omega, by omega⟩, ⟨by omega, by omega⟩, ⟨by omega, by omega⟩, hs35, hs36, hs37, hs38, hs39, hs40, hs41, hs42, hs43, hs44, hs45, hs46, hs47, hs48, hs49, hs50, hs51, hs52, hs53, hs54, tf_eqv hs55 (by omega), hs56, tf_eqv hs57 (by omega), hs58, tf_eqv hs59 (by omega), hs60, hX34_0, hX34_1, hs61, hs62, hRL, hDD, hTP, hI0, hI1⟩ _ (lv_sub hl [0, 1, 2, 3] rfl)
    · obtain ⟨sgl, hsgl⟩ := tf_rname hW slp
      obtain ⟨sgh, hsgh⟩ := tf_rname hW slh
      obtain ⟨sgy, hsgy⟩ := tf_rname hW syr
      obtain ⟨sgw, hsgw⟩ := tf_rname hW swh
      rw [hsgl, hsgh, hsgy, hsgw] at hbR
      refine tf_calli (va_runV (As := [.int (Int32.ofInt ((sx (ii + 1))))]) (rest := []) ⟨hx, hb, hml, hown, hts⟩ (c_s0_X9_image l g T ax hax ((sx (ii + 1))) ⟨by omega, by omega⟩ sq hsq im him lp hlp lh hlh yr hyr wh hwh ss hss slp hslp slh hslh syr hsyr swh hswh gl gh gy gw sgl sgh sgy sgw) (cwV 1 hts gv_L_164 rfl rfl rfl hd_X9_image ⟨Nat.le_trans (by decide) hR1, Nat.le_trans (by decide) hR2⟩) (tf_preV hk hW hax (ci := 9) rfl rfl ⟨hf0, hf7, hf8, hf9, hf10, hf11, hf12, hf13, hf14, hf1, hb1, hb2, hb3, hb4, hb5, hsgl, hsgh, hsgy, hsgw⟩) rfl rfl hl.1 rfl (lv_room (Nat.le_of_ble_eq_true rfl)) dL_law_1422 ⟨Nat.le_trans (by omega) hR3, Nat.le_trans (by omega) hR4⟩) hW (by decide) (fun z63 H63 locs63 hW hF63 hp63 => ?_)
      have hs64 := tf_keepF hF63 hax rfl rfl (by decide) hf0
      have hs65 := tf_keepF hF63 hax rfl rfl (by decide) hf1
      have hs66 := tf_keepF hF63 hax rfl rfl (by decide) hf2
      have hs67 := tf_keepF hF63 hax rfl rfl (by decide) hf3
      have hs68 := tf_keepF hF63 hax rfl rfl (by decide) hf4
      have hs69 := tf_keepF hF63 hax rfl rfl (by decide) hf5
      have hs70 := tf_keepF hF63 hax rfl rfl (by decide) hf6
      have hs71 := tf_keepF hF63 hsq rfl rfl (by decide) hf7
      have hs72 := tf_keepF hF63 hsq rfl rfl (by decide) hf8
      have hs73 := tf_keepF hF63 hsq rfl rfl (by decide) hf9
      have hs74 := tf_keepF hF63 hsq rfl rfl (by decide) hf10
      have hs75 := tf_keepC hF63 hlp rfl (by decide) hf11
      have hs76 := tf_keepC hF63 hlh rfl (by decide) hf12
      have hs77 := tf_keepC hF63 hyr rfl (by decide) hf13
      have hs78 := tf_keepC hF63 hwh rfl (by decide) hf14
      have hs79 := tf_keepC hF63 hta rfl (by decide) hf15
      have hs80 := tf_keepC hF63 hdh rfl (by decide) hf16
      have hs81 := tf_keepF hF63 ham rfl rfl (by decide) hf17
      have hs82 := tf_keepF hF63 ham rfl rfl (by decide) hf18
      have hs83 := tf_keepF hF63 ham rfl rfl (by decide) hf19
      have hs84 := tf_keepF hF63 ham rfl rfl (by decide) hf20
      have hs85 := tf_keepF hF63 ham rfl rfl (by decide) hf21
      have hs86 := tf_keepF hF63 ham rfl rfl (by decide) hf22
      have hs87 := tf_keepF hF63 ham rfl rfl (by decide) hf23
      have hs88 := tf_keepF hF63 ham rfl rfl (by decide) hf24
      have hs89 := tf_keepC hF63 hro rfl (by decide) hf25
      have hs90 := tf_keepC hF63 hiz rfl (by decide) hf26
      have hs91 := tf_keepC hF63 hkp rfl (by decide) hf27
      have hs92 := tf_keepC hF63 htm rfl (by decide) hf28
      have hs93 := tf_keepC hF63 hdw rfl (by decide) hf29
      have hs94 := tf_keepS hF63 him rfl (by decide) hb1
      have hs95 := tf_keepF hF63 hss rfl rfl (by decide) hb2
      have hs96 := tf_keepF hF63 hss rfl rfl (by decide) hb3
      have hs97 := tf_keepF hF63 hss rfl rfl (by decide) hb4
      have hs98 := tf_keepF hF63 hss rfl rfl (by decide) hb5
      have hI1 := tf_IS2_keep hF63 him (by decide) (by decide) hI1
      obtain ⟨hp63_0, hp63_1, hp63_2⟩ := hp63
      obtain ⟨hw63_0, hw63_1, hw63_2, hw63_3⟩ := hp63_2
      have hI0 : tf_IS1 g T _ im 1 rr := Or.inr ⟨rfl, ss, slp, slh, syr, swh, hss, hslp, hslh, hsyr, hswh, hs94, hs95, hs96, hs97, hs98, by rw [hw63_0, hw63_1, hw63_2, hw63_3]; exact hRL⟩
      refine lv_pop hx hb dL_law_1425 rfl ?_
      refine lv_aload_n hx hb dL_law_1426 rfl (lv_at hl 1 rfl) ?_
      refine lv_aload_n hx hb dL_law_1427 rfl (lv_at hl 3 rfl) ?_
      refine lv_iload_n hx hb dL_law_1428 rfl (lv_at hl 0 rfl) ?_
      refine tf_iconst hx hb dL_law_1429 ?_
      refine tf_iadd hx hb dL_law_1430 ?_
      refine lw_sld (sx := sx) hx hb hX hbl hBs hL hW (by omega) (by omega) dL_law_1431 ?_
      have hsx99 := hsx (ii + 1)
      refine tf_calli (va_runV (As := [.int (Int32.ofInt ((sx (ii + 1))))]) (rest := []) ⟨hx, hb, hml, hown, hts⟩ (c_X10_image l g T am ham ((sx (ii + 1))) ⟨by omega, by omega⟩ ro hro iz hiz kp hkp rr qq rk) (cwV 1 hts gv_L_167 rfl rfl rfl hd_X10_image ⟨Nat.le_trans (by decide) hR1, Nat.le_trans (by decide) hR2⟩) (tf_preV hk hW ham (ci := 10) rfl rfl ⟨hs81, hs89, hs82, hs83, hs90, hs91⟩) rfl rfl hl.1 rfl (lv_room (Nat.le_of_ble_eq_true rfl)) dL_law_1432 ⟨Nat.le_trans (by omega) hR3, Nat.le_trans (by omega) hR4⟩) hW (by decide) (fun z100 H100 locs100 hW hF100 hp100 => ?_)
      have hs101 := tf_keepF hF100 hax rfl rfl (by decide) hs64
      have hs102 := tf_keepF hF100 hax rfl rfl (by decide) hs65
      have hs103 := tf_keepF hF100 hax rfl rfl (by decide) hs66
      have hs104 := tf_keepF hF100 hax rfl rfl (by decide) hs67
      have hs105 := tf_keepF hF100 hax rfl rfl (by decide) hs68
      have hs106 := tf_keepF hF100 hax rfl rfl (by decide) hs69
      have hs107 := tf_keepF hF100 hax rfl rfl (by decide) hs70
      have hs108 := tf_keepF hF100 hsq rfl rfl (by decide) hs71
      have hs109 := tf_keepF hF100 hsq rfl rfl (by decide) hs72
      have hs110 := tf_keepF hF100 hsq rfl rfl (by decide) hs73
      have hs111 := tf_keepF hF100 hsq rfl rfl (by decide) hs74
      have hs112 := tf_keepC hF100 hlp rfl (by decide) hs75
      have hs113 := tf_keepC hF100 hlh rfl (by decide) hs76
      have hs114 := tf_keepC hF100 hyr rfl (by decide) hs77
      have hs115 := tf_keepC hF100 hwh rfl (by decide) hs78
      have hs116 := tf_keepC hF100 hta rfl (by decide) hs79
      have hs117 := tf_keepC hF100 hdh rfl (by decide) hs80
      have hs118 := tf_keepF hF100 ham rfl rfl (by decide) hs81
      have hs119 := tf_keepF hF100 ham rfl rfl (by decide) hs82
      have hs120 := tf_keepF hF100 ham rfl rfl (by decide) hs83
      have hs121 := tf_keepF hF100 ham rfl rfl (by decide) hs84
      have hs122 := tf_keepF hF100 ham rfl rfl (by decide) hs85
      have hs123 := tf_keepF hF100 ham rfl rfl (by decide) hs86
      have hs124 := tf_keepF hF100 ham rfl rfl (by decide) hs87
      have hs125 := tf_keepF hF100 ham rfl rfl (by decide) hs88
      have hs126 := tf_keepC hF100 hro rfl (by decide) hs89
      have hs127 := tf_keepC hF100 htm rfl (by decide) hs92
      have hs128 := tf_keepC hF100 hdw rfl (by decide) hs93
      have hI0 := tf_IS1_keep hF100 him (by decide) (by decide) hI0
      have hI1 := tf_IS2_keep hF100 him (by decide) (by decide) hI1
      obtain ⟨hp100_0, hp100_1, hp100_2⟩ := hp100
      obtain ⟨q1_100, rk1_100, hX100_0, hX100_1, hR100_0⟩ := hp100_2
      obtain ⟨hzm, hq1, hk1⟩ : z100 = 0 ∧ tf_im qq rr ((sx (ii + 1))) 5830 q1_100 ∧ rk1_100 = tf_up rk ((sx (ii + 1))) 1 := by
        rcases hR100_0 with ⟨a, -⟩ | ⟨-, a, b, c⟩
        · omega
        · exact ⟨a, b, c⟩
      have hI0 := tf_IS1_to (kept2 := rk1_100 0) (q2 := tf_qk q1_100 0) hI0 (by rw [hk1, hv, tf_up_at]) (tf_im_at hq1 hv)
      have hI1 := tf_IS2_to (kept2 := rk1_100 1) (q2 := tf_qk q1_100 1) hI1 (by rw [hk1, hv, tf_up_ne (by omega)]) (tf_im_ne hq1 hv (by omega))
      refine lv_pop hx hb dL_law_1435 rfl ?_
      refine lv_goto (tgt := 1498) hx hb dL_law_1436 (by decide) ?_
      refine W.widen (k := 130 + 30 * jj) (n := 31200 + 1200 * jj) (by omega) (by omega) ?_
      exact hnx _ _ _ hW hax ham ⟨sq, im, ta, dh, lp, lh, yr, wh, ro, iz, kp, tm, dw, (tt), (uu), (dd), gl, gh, gy, gw, tp, gd, rr, q1_100, rk1_100, tq, gm, hsq, him, hta, hdh, hlp, hlh, hyr, hwh, hro, hiz, hkp, htm, hdw, ⟨by omega, by omega⟩, ⟨by omega, by omega⟩, ⟨by omega, by omega⟩, hs101, hs102, hs103, hs104, hs105, hs106, hs107, hs108, hs109, hs110, hs111, hs112, hs113, hs114, hs115, hs116, hs117, hs118, hs119, hs120, tf_eqv hs121 (by omega), hs122, tf_eqv hs123 (by omega), hs124, tf_eqv hs125 (by omega), hs126, hX100_0, hX100_1, hs127, hs128, hRL, hDD, hTP, hI0, hI1⟩ _ (lv_sub hl [0, 1, 2, 3] rfl)
  · rcases id hI1 with ⟨hkk, hbn⟩ | ⟨hkk, ss, slp, slh, syr, swh, hss, hslp, hslh, hsyr, hswh, hb1, hb2, hb3, hb4, hb5, hbR⟩
    · obtain ⟨vo, hvo⟩ := tf_IS1_v hI0
      refine tf_callI (va_runV (As := [.int (Int32.ofInt ((sx (ii + 1))))]) (rest := []) ⟨hx, hb, hml, hown, hts⟩ (c_n1_X9_image l g T ax hax ((sx (ii + 1))) ⟨by omega, by omega⟩ sq hsq im him lp hlp lh hlh yr hyr wh hwh gl gh gy gw (vo)) (cwV 1 hts gv_L_164 rfl rfl rfl hd_X9_image ⟨Nat.le_trans (by decide) hR1, Nat.le_trans (by decide) hR2⟩) (tf_preV hk hW hax (ci := 9) rfl rfl ⟨hf0, hf7, hf8, hf9, hf10, hf11, hf12, hf13, hf14, hf1, hbn, hvo⟩) rfl rfl hl.1 rfl (lv_room (Nat.le_of_ble_eq_true rfl)) dL_law_1422 ⟨Nat.le_trans (by omega) hR3, Nat.le_trans (by omega) hR4⟩) hW (by decide) (fun z129 H129 locs129 T hW hE129 hF129 hp129 => ?_)
      have hs130 := tf_keepF hF129 hax rfl rfl (by decide) hf0
      have hs131 := tf_keepF hF129 hax rfl rfl (by decide) hf1
      have hs132 := tf_keepF hF129 hax rfl rfl (by decide) hf2
      have hs133 := tf_keepF hF129 hax rfl rfl (by decide) hf3
      have hs134 := tf_keepF hF129 hax rfl rfl (by decide) hf4
      have hs135 := tf_keepF hF129 hax rfl rfl (by decide) hf5
      have hs136 := tf_keepF hF129 hax rfl rfl (by decide) hf6
      have hs137 := tf_keepF hF129 hsq rfl rfl (by decide) hf7
      have hs138 := tf_keepF hF129 hsq rfl rfl (by decide) hf8
      have hs139 := tf_keepF hF129 hsq rfl rfl (by decide) hf9
      have hs140 := tf_keepF hF129 hsq rfl rfl (by decide) hf10
      have hs141 := tf_keepC hF129 hlp rfl (by decide) hf11
      have hs142 := tf_keepC hF129 hlh rfl (by decide) hf12
      have hs143 := tf_keepC hF129 hyr rfl (by decide) hf13
      have hs144 := tf_keepC hF129 hwh rfl (by decide) hf14
      have hs145 := tf_keepC hF129 hta rfl (by decide) hf15
      have hs146 := tf_keepC hF129 hdh rfl (by decide) hf16
      have hs147 := tf_keepF hF129 ham rfl rfl (by decide) hf17
      have hs148 := tf_keepF hF129 ham rfl rfl (by decide) hf18
      have hs149 := tf_keepF hF129 ham rfl rfl (by decide) hf19
      have hs150 := tf_keepF hF129 ham rfl rfl (by decide) hf20
      have hs151 := tf_keepF hF129 ham rfl rfl (by decide) hf21
      have hs152 := tf_keepF hF129 ham rfl rfl (by decide) hf22
      have hs153 := tf_keepF hF129 ham rfl rfl (by decide) hf23
      have hs154 := tf_keepF hF129 ham rfl rfl (by decide) hf24
      have hs155 := tf_keepC hF129 hro rfl (by decide) hf25
      have hs156 := tf_keepC hF129 hiz rfl (by decide) hf26
      have hs157 := tf_keepC hF129 hkp rfl (by decide) hf27
      have hs158 := tf_keepC hF129 htm rfl (by decide) hf28
      have hs159 := tf_keepC hF129 hdw rfl (by decide) hf29
      have ham := hE129 _ _ ham
      have hax := hE129 _ _ hax
      have hsq := hE129 _ _ hsq
      have him := hE129 _ _ him
      have hta := hE129 _ _ hta
      have hdh := hE129 _ _ hdh
      have hlp := hE129 _ _ hlp
      have hlh := hE129 _ _ hlh
      have hyr := hE129 _ _ hyr
      have hwh := hE129 _ _ hwh
      have hro := hE129 _ _ hro
      have hiz := hE129 _ _ hiz
      have hkp := hE129 _ _ hkp
      have htm := hE129 _ _ htm
      have hdw := hE129 _ _ hdw
      have hE := hE.mono hE129
      obtain ⟨hp129_0, hp129_1, hp129_2⟩ := hp129
      obtain ⟨ss_129, slp_129, slh_129, syr_129, swh_129, hss_129, hslp_129, hslh_129, hsyr_129, hswh_129, hw129_0, hw129_1, hw129_2, hw129_3, hw129_4, hw129_5, hw129_6, hw129_7, hw129_8, hw129_9⟩ := hp129_2
      have hI1 : tf_IS2 g T _ im 1 rr := Or.inr ⟨rfl, ss_129, slp_129, slh_129, syr_129, swh_129, hss_129, hslp_129, hslh_129, hsyr_129, hswh_129, hw129_0, hw129_2, hw129_3, hw129_4, hw129_5, by rw [hw129_6, hw129_7, hw129_8, hw129_9]; exact hRL⟩
      have hI0 := tf_IS1_mono hE129 (tf_IS1_slot hF129 hvo hw129_1 (by decide) hI0)
      refine lv_pop hx hb dL_law_1425 rfl ?_
      refine lv_aload_n hx hb dL_law_1426 rfl (lv_at hl 1 rfl) ?_
      refine lv_aload_n hx hb dL_law_1427 rfl (lv_at hl 3 rfl) ?_
      refine lv_iload_n hx hb dL_law_1428 rfl (lv_at hl 0 rfl) ?_
      refine tf_iconst hx hb dL_law_1429 ?_
      refine tf_iadd hx hb dL_law_1430 ?_
      refine lw_sld (sx := sx) hx hb hX hbl hBs hL hW (by omega) (by omega) dL_law_1431 ?_
      have hsx160 := hsx (ii + 1)
      refine tf_calli (va_runV (As := [.int (Int32.ofInt ((sx (ii + 1))))]) (rest := []) ⟨hx, hb, hml, hown, hts⟩ (c_X10_image l g T am ham ((sx (ii + 1))) ⟨by omega, by omega⟩ ro hro iz hiz kp hkp rr qq rk) (cwV 1 hts gv_L_167 rfl rfl rfl hd_X10_image ⟨Nat.le_trans (by decide) hR1, Nat.le_trans (by decide) hR2⟩) (tf_preV hk hW ham (ci := 10) rfl rfl ⟨hs147, hs155, hs148, hs149, hs156, hs157⟩) rfl rfl hl.1 rfl (lv_room (Nat.le_of_ble_eq_true rfl)) dL_law_1432 ⟨Nat.le_trans (by omega) hR3, Nat.le_trans (by omega) hR4⟩) hW (by decide) (fun z161 H161 locs161 hW hF161 hp161 => ?_)
      have hs162 := tf_keepF hF161 hax rfl rfl (by decide) hs130
      have hs163 := tf_keepF hF161 hax rfl rfl (by decide) hs131
      have hs164 := tf_keepF hF161 hax rfl rfl (by decide) hs132
      have hs165 := tf_keepF hF161 hax rfl rfl (by decide) hs133
      have hs166 := tf_keepF hF161 hax rfl rfl (by decide) hs134
      have hs167 := tf_keepF hF161 hax rfl rfl (by decide) hs135
      have hs168 := tf_keepF hF161 hax rfl rfl (by decide) hs136
      have hs169 := tf_keepF hF161 hsq rfl rfl (by decide) hs137
      have hs170 := tf_keepF hF161 hsq rfl rfl (by decide) hs138
      have hs171 := tf_keepF hF161 hsq rfl rfl (by decide) hs139
      have hs172 := tf_keepF hF161 hsq rfl rfl (by decide) hs140
      have hs173 := tf_keepC hF161 hlp rfl (by decide) hs141
      have hs174 := tf_keepC hF161 hlh rfl (by decide) hs142
      have hs175 := tf_keepC hF161 hyr rfl (by decide) hs143
      have hs176 := tf_keepC hF161 hwh rfl (by decide) hs144
      have hs177 := tf_keepC hF161 hta rfl (by decide) hs145
      have hs178 := tf_keepC hF161 hdh rfl (by decide) hs146
      have hs179 := tf_keepF hF161 ham rfl rfl (by decide) hs147
      have hs180 := tf_keepF hF161 ham rfl rfl (by decide) hs148
      have hs181 := tf_keepF hF161 ham rfl rfl (by decide) hs149
      have hs182 := tf_keepF hF161 ham rfl rfl (by decide) hs150
      have hs183 := tf_keepF hF161 ham rfl rfl (by decide) hs151
      have hs184 := tf_keepF hF161 ham rfl rfl (by decide) hs152
      have hs185 := tf_keepF hF161 ham rfl rfl (by decide) hs153
      have hs186 := tf_keepF hF161 ham rfl rfl (by decide) hs154
      have hs187 := tf_keepC hF161 hro rfl (by decide) hs155
      have hs188 := tf_keepC hF161 htm rfl (by decide) hs158
      have hs189 := tf_keepC hF161 hdw rfl (by decide) hs159
      have hI0 := tf_IS1_keep hF161 him (by decide) (by decide) hI0
      have hI1 := tf_IS2_keep hF161 him (by decide) (by decide) hI1
      obtain ⟨hp161_0, hp161_1, hp161_2⟩ := hp161
      obtain ⟨q1_161, rk1_161, hX161_0, hX161_1, hR161_0⟩ := hp161_2
      obtain ⟨hzm, hq1, hk1⟩ : z161 = 0 ∧ tf_im qq rr ((sx (ii + 1))) 5830 q1_161 ∧ rk1_161 = tf_up rk ((sx (ii + 1))) 1 := by
        rcases hR161_0 with ⟨a, -⟩ | ⟨-, a, b, c⟩
        · omega
        · exact ⟨a, b, c⟩
      have hI1 := tf_IS2_to (kept2 := rk1_161 1) (q2 := tf_qk q1_161 1) hI1 (by rw [hk1, hv, tf_up_at]) (tf_im_at hq1 hv)
      have hI0 := tf_IS1_to (kept2 := rk1_161 0) (q2 := tf_qk q1_161 0) hI0 (by rw [hk1, hv, tf_up_ne (by omega)]) (tf_im_ne hq1 hv (by omega))
      refine lv_pop hx hb dL_law_1435 rfl ?_
      refine lv_goto (tgt := 1498) hx hb dL_law_1436 (by decide) ?_
      refine W.widen (k := 130 + 30 * jj) (n := 31200 + 1200 * jj) (by omega) (by omega) ?_
      exact hnx _ _ _ hW hax ham ⟨sq, im, ta, dh, lp, lh, yr, wh, ro, iz, kp, tm, dw, (tt), (uu), (dd), gl, gh, gy, gw, tp, gd, rr, q1_161, rk1_161, tq, gm, hsq, him, hta, hdh, hlp, hlh, hyr, hwh, hro, hiz, hkp, htm, hdw, ⟨by omega, by omega⟩, ⟨by omega, by omega⟩, ⟨by omega, by omega⟩, hs162, hs163, hs164, hs165, hs166, hs167, hs168, hs169, hs170, hs171, hs172, hs173, hs174, hs175, hs176, hs177, hs178, hs179, hs180, hs181, tf_eqv hs182 (by omega), hs183, tf_eqv hs184 (by omega), hs185, tf_eqv hs186 (by omega), hs187, hX161_0, hX161_1, hs188, hs189, hRL, hDD, hTP, hI0, hI1⟩ _ (lv_sub hl [0, 1, 2, 3] rfl)
    · obtain ⟨sgl, hsgl⟩ := tf_rname hW slp
      obtain ⟨sgh, hsgh⟩ := tf_rname hW slh
      obtain ⟨sgy, hsgy⟩ := tf_rname hW syr
      obtain ⟨sgw, hsgw⟩ := tf_rname hW swh
      rw [hsgl, hsgh, hsgy, hsgw] at hbR
      refine tf_calli (va_runV (As := [.int (Int32.ofInt ((sx (ii + 1))))]) (rest := []) ⟨hx, hb, hml, hown, hts⟩ (c_s1_X9_image l g T ax hax ((sx (ii + 1))) ⟨by omega, by omega⟩ sq hsq im him lp hlp lh hlh yr hyr wh hwh ss hss slp hslp slh hslh syr hsyr swh hswh gl gh gy gw sgl sgh sgy sgw) (cwV 1 hts gv_L_164 rfl rfl rfl hd_X9_image ⟨Nat.le_trans (by decide) hR1, Nat.le_trans (by decide) hR2⟩) (tf_preV hk hW hax (ci := 9) rfl rfl ⟨hf0, hf7, hf8, hf9, hf10, hf11, hf12, hf13, hf14, hf1, hb1, hb2, hb3, hb4, hb5, hsgl, hsgh, hsgy, hsgw⟩) rfl rfl hl.1 rfl (lv_room (Nat.le_of_ble_eq_true rfl)) dL_law_1422 ⟨Nat.le_trans (by omega) hR3, Nat.le_trans (by omega) hR4⟩) hW (by decide) (fun z190 H190 locs190 hW hF190 hp190 => ?_)
      have hs191 := tf_keepF hF190 hax rfl rfl (by decide) hf0
      have hs192 := tf_keepF hF190 hax rfl rfl (by decide) hf1
      have hs193 := tf_keepF hF190 hax rfl rfl (by decide) hf2
      have hs194 := tf_keepF hF190 hax rfl rfl (by decide) hf3
      have hs195 := tf_keepF hF190 hax rfl rfl (by decide) hf4
      have hs196 := tf_keepF hF190 hax rfl rfl (by decide) hf5
      have hs197 := tf_keepF hF190 hax rfl rfl (by decide) hf6
      have hs198 := tf_keepF hF190 hsq rfl rfl (by decide) hf7
      have hs199 := tf_keepF hF190 hsq rfl rfl (by decide) hf8
      have hs200 := tf_keepF hF190 hsq rfl rfl (by decide) hf9
      have hs201 := tf_keepF hF190 hsq rfl rfl (by decide) hf10
      have hs202 := tf_keepC hF190 hlp rfl (by decide) hf11
      have hs203 := tf_keepC hF190 hlh rfl (by decide) hf12
      have hs204 := tf_keepC hF190 hyr rfl (by decide) hf13
      have hs205 := tf_keepC hF190 hwh rfl (by decide) hf14
      have hs206 := tf_keepC hF190 hta rfl (by decide) hf15
      have hs207 := tf_keepC hF190 hdh rfl (by decide) hf16
      have hs208 := tf_keepF hF190 ham rfl rfl (by decide) hf17
      have hs209 := tf_keepF hF190 ham rfl rfl (by decide) hf18
      have hs210 := tf_keepF hF190 ham rfl rfl (by decide) hf19
      have hs211 := tf_keepF hF190 ham rfl rfl (by decide) hf20
      have hs212 := tf_keepF hF190 ham rfl rfl (by decide) hf21
      have hs213 := tf_keepF hF190 ham rfl rfl (by decide) hf22
      have hs214 := tf_keepF hF190 ham rfl rfl (by decide) hf23
      have hs215 := tf_keepF hF190 ham rfl rfl (by decide) hf24
      have hs216 := tf_keepC hF190 hro rfl (by decide) hf25
      have hs217 := tf_keepC hF190 hiz rfl (by decide) hf26
      have hs218 := tf_keepC hF190 hkp rfl (by decide) hf27
      have hs219 := tf_keepC hF190 htm rfl (by decide) hf28
      have hs220 := tf_keepC hF190 hdw rfl (by decide) hf29
      have hs221 := tf_keepS hF190 him rfl (by decide) hb1
      have hs222 := tf_keepF hF190 hss rfl rfl (by decide) hb2
      have hs223 := tf_keepF hF190 hss rfl rfl (by decide) hb3
      have hs224 := tf_keepF hF190 hss rfl rfl (by decide) hb4
      have hs225 := tf_keepF hF190 hss rfl rfl (by decide) hb5
      have hI0 := tf_IS1_keep hF190 him (by decide) (by decide) hI0
      obtain ⟨hp190_0, hp190_1, hp190_2⟩ := hp190
      obtain ⟨hw190_0, hw190_1, hw190_2, hw190_3⟩ := hp190_2
      have hI1 : tf_IS2 g T _ im 1 rr := Or.inr ⟨rfl, ss, slp, slh, syr, swh, hss, hslp, hslh, hsyr, hswh, hs221, hs222, hs223, hs224, hs225, by rw [hw190_0, hw190_1, hw190_2, hw190_3]; exact hRL⟩
      refine lv_pop hx hb dL_law_1425 rfl ?_
      refine lv_aload_n hx hb dL_law_1426 rfl (lv_at hl 1 rfl) ?_
      refine lv_aload_n hx hb dL_law_1427 rfl (lv_at hl 3 rfl) ?_
      refine lv_iload_n hx hb dL_law_1428 rfl (lv_at hl 0 rfl) ?_
      refine tf_iconst hx hb dL_law_1429 ?_
      refine tf_iadd hx hb dL_law_1430 ?_
      refine lw_sld (sx := sx) hx hb hX hbl hBs hL hW (by omega) (by omega) dL_law_1431 ?_
      have hsx226 := hsx (ii + 1)
      refine tf_calli (va_runV (As := [.int (Int32.ofInt ((sx (ii + 1))))]) (rest := []) ⟨hx, hb, hml, hown, hts⟩ (c_X10_image l g T am ham ((sx (ii + 1))) ⟨by omega, by omega⟩ ro hro iz hiz kp hkp rr qq rk) (cwV 1 hts gv_L_167 rfl rfl rfl hd_X10_image ⟨Nat.le_trans (by decide) hR1, Nat.le_trans (by decide) hR2⟩) (tf_preV hk hW ham (ci := 10) rfl rfl ⟨hs208, hs216, hs209, hs210, hs217, hs218⟩) rfl rfl hl.1 rfl (lv_room (Nat.le_of_ble_eq_true rfl)) dL_law_1432 ⟨Nat.le_trans (by omega) hR3, Nat.le_trans (by omega) hR4⟩) hW (by decide) (fun z227 H227 locs227 hW hF227 hp227 => ?_)
      have hs228 := tf_keepF hF227 hax rfl rfl (by decide) hs191
      have hs229 := tf_keepF hF227 hax rfl rfl (by decide) hs192
      have hs230 := tf_keepF hF227 hax rfl rfl (by decide) hs193
      have hs231 := tf_keepF hF227 hax rfl rfl (by decide) hs194
      have hs232 := tf_keepF hF227 hax rfl rfl (by decide) hs195
      have hs233 := tf_keepF hF227 hax rfl rfl (by decide) hs196
      have hs234 := tf_keepF hF227 hax rfl rfl (by decide) hs197
      have hs235 := tf_keepF hF227 hsq rfl rfl (by decide) hs198
      have hs236 := tf_keepF hF227 hsq rfl rfl (by decide) hs199
      have hs237 := tf_keepF hF227 hsq rfl rfl (by decide) hs200
      have hs238 := tf_keepF hF227 hsq rfl rfl (by decide) hs201
      have hs239 := tf_keepC hF227 hlp rfl (by decide) hs202
      have hs240 := tf_keepC hF227 hlh rfl (by decide) hs203
      have hs241 := tf_keepC hF227 hyr rfl (by decide) hs204
      have hs242 := tf_keepC hF227 hwh rfl (by decide) hs205
      have hs243 := tf_keepC hF227 hta rfl (by decide) hs206
      have hs244 := tf_keepC hF227 hdh rfl (by decide) hs207
      have hs245 := tf_keepF hF227 ham rfl rfl (by decide) hs208
      have hs246 := tf_keepF hF227 ham rfl rfl (by decide) hs209
      have hs247 := tf_keepF hF227 ham rfl rfl (by decide) hs210
      have hs248 := tf_keepF hF227 ham rfl rfl (by decide) hs211
      have hs249 := tf_keepF hF227 ham rfl rfl (by decide) hs212
      have hs250 := tf_keepF hF227 ham rfl rfl (by decide) hs213
      have hs251 := tf_keepF hF227 ham rfl rfl (by decide) hs214
      have hs252 := tf_keepF hF227 ham rfl rfl (by decide) hs215
      have hs253 := tf_keepC hF227 hro rfl (by decide) hs216
      have hs254 := tf_keepC hF227 htm rfl (by decide) hs219
      have hs255 := tf_keepC hF227 hdw rfl (by decide) hs220
      have hI0 := tf_IS1_keep hF227 him (by decide) (by decide) hI0
      have hI1 := tf_IS2_keep hF227 him (by decide) (by decide) hI1
      obtain ⟨hp227_0, hp227_1, hp227_2⟩ := hp227
      obtain ⟨q1_227, rk1_227, hX227_0, hX227_1, hR227_0⟩ := hp227_2
      obtain ⟨hzm, hq1, hk1⟩ : z227 = 0 ∧ tf_im qq rr ((sx (ii + 1))) 5830 q1_227 ∧ rk1_227 = tf_up rk ((sx (ii + 1))) 1 := by
        rcases hR227_0 with ⟨a, -⟩ | ⟨-, a, b, c⟩
        · omega
        · exact ⟨a, b, c⟩
      have hI1 := tf_IS2_to (kept2 := rk1_227 1) (q2 := tf_qk q1_227 1) hI1 (by rw [hk1, hv, tf_up_at]) (tf_im_at hq1 hv)
      have hI0 := tf_IS1_to (kept2 := rk1_227 0) (q2 := tf_qk q1_227 0) hI0 (by rw [hk1, hv, tf_up_ne (by omega)]) (tf_im_ne hq1 hv (by omega))
      refine lv_pop hx hb dL_law_1435 rfl ?_
      refine lv_goto (tgt := 1498) hx hb dL_law_1436 (by decide) ?_
      refine W.widen (k := 130 + 30 * jj) (n := 31200 + 1200 * jj) (by omega) (by omega) ?_
      exact hnx _ _ _ hW hax ham ⟨sq, im, ta, dh, lp, lh, yr, wh, ro, iz, kp, tm, dw, (tt), (uu), (dd), gl, gh, gy, gw, tp, gd, rr, q1_227, rk1_227, tq, gm, hsq, him, hta, hdh, hlp, hlh, hyr, hwh, hro, hiz, hkp, htm, hdw, ⟨by omega, by omega⟩, ⟨by omega, by omega⟩, ⟨by omega, by omega⟩, hs228, hs229, hs230, hs231, hs232, hs233, hs234, hs235, hs236, hs237, hs238, hs239, hs240, hs241, hs242, hs243, hs244, hs245, hs246, hs247, tf_eqv hs248 (by omega), hs249, tf_eqv hs250 (by omega), hs251, tf_eqv hs252 (by omega), hs253, hX227_0, hX227_1, hs254, hs255, hRL, hDD, hTP, hI0, hI1⟩ _ (lv_sub hl [0, 1, 2, 3] rfl)
  · refine tf_calli (va_runV (As := [.int (Int32.ofInt ((sx (ii + 1))))]) (rest := []) ⟨hx, hb, hml, hown, hts⟩ (c_r_X9_image l g T ax hax ((sx (ii + 1))) ⟨by omega, by omega⟩ (by omega)) (cwV 1 hts gv_L_164 rfl rfl rfl hd_X9_image ⟨Nat.le_trans (by decide) hR1, Nat.le_trans (by decide) hR2⟩) (tf_preV hk hW hax (ci := 9) rfl rfl trivial) rfl rfl hl.1 rfl (lv_room (Nat.le_of_ble_eq_true rfl)) dL_law_1422 ⟨Nat.le_trans (by omega) hR3, Nat.le_trans (by omega) hR4⟩) hW (by decide) (fun z256 H256 locs256 hW hF256 hp256 => ?_)
    have hs257 := tf_keepF hF256 hax rfl rfl (by decide) hf0
    have hs258 := tf_keepF hF256 hax rfl rfl (by decide) hf1
    have hs259 := tf_keepF hF256 hax rfl rfl (by decide) hf2
    have hs260 := tf_keepF hF256 hax rfl rfl (by decide) hf3
    have hs261 := tf_keepF hF256 hax rfl rfl (by decide) hf4
    have hs262 := tf_keepF hF256 hax rfl rfl (by decide) hf5
    have hs263 := tf_keepF hF256 hax rfl rfl (by decide) hf6
    have hs264 := tf_keepF hF256 hsq rfl rfl (by decide) hf7
    have hs265 := tf_keepF hF256 hsq rfl rfl (by decide) hf8
    have hs266 := tf_keepF hF256 hsq rfl rfl (by decide) hf9
    have hs267 := tf_keepF hF256 hsq rfl rfl (by decide) hf10
    have hs268 := tf_keepC hF256 hlp rfl (by decide) hf11
    have hs269 := tf_keepC hF256 hlh rfl (by decide) hf12
    have hs270 := tf_keepC hF256 hyr rfl (by decide) hf13
    have hs271 := tf_keepC hF256 hwh rfl (by decide) hf14
    have hs272 := tf_keepC hF256 hta rfl (by decide) hf15
    have hs273 := tf_keepC hF256 hdh rfl (by decide) hf16
    have hs274 := tf_keepF hF256 ham rfl rfl (by decide) hf17
    have hs275 := tf_keepF hF256 ham rfl rfl (by decide) hf18
    have hs276 := tf_keepF hF256 ham rfl rfl (by decide) hf19
    have hs277 := tf_keepF hF256 ham rfl rfl (by decide) hf20
    have hs278 := tf_keepF hF256 ham rfl rfl (by decide) hf21
    have hs279 := tf_keepF hF256 ham rfl rfl (by decide) hf22
    have hs280 := tf_keepF hF256 ham rfl rfl (by decide) hf23
    have hs281 := tf_keepF hF256 ham rfl rfl (by decide) hf24
    have hs282 := tf_keepC hF256 hro rfl (by decide) hf25
    have hs283 := tf_keepC hF256 hiz rfl (by decide) hf26
    have hs284 := tf_keepC hF256 hkp rfl (by decide) hf27
    have hs285 := tf_keepC hF256 htm rfl (by decide) hf28
    have hs286 := tf_keepC hF256 hdw rfl (by decide) hf29
    have hI0 := tf_IS1_keep hF256 him (by decide) (by decide) hI0
    have hI1 := tf_IS2_keep hF256 him (by decide) (by decide) hI1
    obtain ⟨hp256_0, hp256_1⟩ := hp256
    refine lv_pop hx hb dL_law_1425 rfl ?_
    refine lv_aload_n hx hb dL_law_1426 rfl (lv_at hl 1 rfl) ?_
    refine lv_aload_n hx hb dL_law_1427 rfl (lv_at hl 3 rfl) ?_
    refine lv_iload_n hx hb dL_law_1428 rfl (lv_at hl 0 rfl) ?_
    refine tf_iconst hx hb dL_law_1429 ?_
    refine tf_iadd hx hb dL_law_1430 ?_
    refine lw_sld (sx := sx) hx hb hX hbl hBs hL hW (by omega) (by omega) dL_law_1431 ?_
    have hsx287 := hsx (ii + 1)
    refine tf_calli (va_runV (As := [.int (Int32.ofInt ((sx (ii + 1))))]) (rest := []) ⟨hx, hb, hml, hown, hts⟩ (c_X10_image l g T am ham ((sx (ii + 1))) ⟨by omega, by omega⟩ ro hro iz hiz kp hkp rr qq rk) (cwV 1 hts gv_L_167 rfl rfl rfl hd_X10_image ⟨Nat.le_trans (by decide) hR1, Nat.le_trans (by decide) hR2⟩) (tf_preV hk hW ham (ci := 10) rfl rfl ⟨hs274, hs282, hs275, hs276, hs283, hs284⟩) rfl rfl hl.1 rfl (lv_room (Nat.le_of_ble_eq_true rfl)) dL_law_1432 ⟨Nat.le_trans (by omega) hR3, Nat.le_trans (by omega) hR4⟩) hW (by decide) (fun z288 H288 locs288 hW hF288 hp288 => ?_)
    have hs289 := tf_keepF hF288 hax rfl rfl (by decide) hs257
    have hs290 := tf_keepF hF288 hax rfl rfl (by decide) hs258
    have hs291 := tf_keepF hF288 hax rfl rfl (by decide) hs259
    have hs292 := tf_keepF hF288 hax rfl rfl (by decide) hs260
    have hs293 := tf_keepF hF288 hax rfl rfl (by decide) hs261
    have hs294 := tf_keepF hF288 hax rfl rfl (by decide) hs262
    have hs295 := tf_keepF hF288 hax rfl rfl (by decide) hs263
    have hs296 := tf_keepF hF288 hsq rfl rfl (by decide) hs264
    have hs297 := tf_keepF hF288 hsq rfl rfl (by decide) hs265
    have hs298 := tf_keepF hF288 hsq rfl rfl (by decide) hs266
    have hs299 := tf_keepF hF288 hsq rfl rfl (by decide) hs267
    have hs300 := tf_keepC hF288 hlp rfl (by decide) hs268
    have hs301 := tf_keepC hF288 hlh rfl (by decide) hs269
    have hs302 := tf_keepC hF288 hyr rfl (by decide) hs270
    have hs303 := tf_keepC hF288 hwh rfl (by decide) hs271
    have hs304 := tf_keepC hF288 hta rfl (by decide) hs272
    have hs305 := tf_keepC hF288 hdh rfl (by decide) hs273
    have hs306 := tf_keepF hF288 ham rfl rfl (by decide) hs274
    have hs307 := tf_keepF hF288 ham rfl rfl (by decide) hs275
    have hs308 := tf_keepF hF288 ham rfl rfl (by decide) hs276
    have hs309 := tf_keepF hF288 ham rfl rfl (by decide) hs277
    have hs310 := tf_keepF hF288 ham rfl rfl (by decide) hs278
    have hs311 := tf_keepF hF288 ham rfl rfl (by decide) hs279
    have hs312 := tf_keepF hF288 ham rfl rfl (by decide) hs280
    have hs313 := tf_keepF hF288 ham rfl rfl (by decide) hs281
    have hs314 := tf_keepC hF288 hro rfl (by decide) hs282
    have hs315 := tf_keepC hF288 htm rfl (by decide) hs285
    have hs316 := tf_keepC hF288 hdw rfl (by decide) hs286
    have hI0 := tf_IS1_keep hF288 him (by decide) (by decide) hI0
    have hI1 := tf_IS2_keep hF288 him (by decide) (by decide) hI1
    obtain ⟨hp288_0, hp288_1, hp288_2⟩ := hp288
    obtain ⟨q1_288, rk1_288, hX288_0, hX288_1, hR288_0⟩ := hp288_2
    obtain ⟨hzm, hq1, hk1⟩ : z288 = -1 ∧ q1_288 = qq ∧ rk1_288 = rk := by
      rcases hR288_0 with ⟨-, a, b, c⟩ | ⟨a, -⟩
      · exact ⟨a, b, c⟩
      · omega
    have hI0 := tf_IS1_to (kept2 := rk1_288 0) (q2 := tf_qk q1_288 0) hI0 (by rw [hk1]) (fun _ _ _ => by rw [hq1])
    have hI1 := tf_IS2_to (kept2 := rk1_288 1) (q2 := tf_qk q1_288 1) hI1 (by rw [hk1]) (fun _ _ _ => by rw [hq1])
    refine lv_pop hx hb dL_law_1435 rfl ?_
    refine lv_goto (tgt := 1498) hx hb dL_law_1436 (by decide) ?_
    refine W.widen (k := 130 + 30 * jj) (n := 31200 + 1200 * jj) (by omega) (by omega) ?_
    exact hnx _ _ _ hW hax ham ⟨sq, im, ta, dh, lp, lh, yr, wh, ro, iz, kp, tm, dw, (tt), (uu), (dd), gl, gh, gy, gw, tp, gd, rr, q1_288, rk1_288, tq, gm, hsq, him, hta, hdh, hlp, hlh, hyr, hwh, hro, hiz, hkp, htm, hdw, ⟨by omega, by omega⟩, ⟨by omega, by omega⟩, ⟨by omega, by omega⟩, hs289, hs290, hs291, hs292, hs293, hs294, hs295, hs296, hs297, hs298, hs299, hs300, hs301, hs302, hs303, hs304, hs305, hs306, hs307, hs308, tf_eqv hs309 (by omega), hs310, tf_eqv hs311 (by omega), hs312, tf_eqv hs313 (by omega), hs314, hX288_0, hX288_1, hs315, hs316, hRL, hDD, hTP, hI0, hI1⟩ _ (lv_sub hl [0, 1, 2, 3] rfl)

set_option maxHeartbeats 4000000 in
set_option maxRecDepth 100000 in
theorem lc_1439 {p : Program} {l : Launch} {e : Env} {s : State} {m : MethodId} {below : List Frame} {meth : Method} {c : Code} {b L : Nat} {g : tf_G} {sx : Int → Int} {Q : State → Prop} (E : lw_E p s m c b L g sx) (ax am jj : Nat) (ii : Int) (hii : ii = 6 * (jj : Int)) (hij : ii + 6 ≤ (L : Int)) (hnx : lw_nx p l e s m below meth c b g ax am jj ii Q) (T : tf_T) (H : Heap) (locs : List Loc) (hW : tf_n tf_kt g M_law (fun _ => none) s.heap T H locs) (hax : T ax = some (39, 0)) (ham : T am = some (63, 0)) (hI : lw_I g T H ax am) (ls : Array Slot) (hl : lv_has ls 4 [(3, .int (Int32.ofInt ii)), (2, .ref am), (1, .ref ax), (0, .ref b)]) : W p l e room_1 s m #[Value.ref b] below meth c H locs (100 + 30 * jj) (30000 + 1200 * jj) Q (F0 m 1439 ls []) := by
  obtain ⟨hx, hb, hml, hown, hts, hbl, hk, hBs, hsx, hX, hL⟩ := id E
  have hR1 := lw_R1
  have hR2 := lw_R2
  have hR3 := lw_R3
  have hR4 := lw_R4
  have hK := hk.1
  have hE : tf_E g T := trivial
  obtain ⟨sq, im, ta, dh, lp, lh, yr, wh, ro, iz, kp, tm, dw, tt, uu, dd, gl, gh, gy, gw, tp, gd, rr, qq, rk, tq, gm, hsq, him, hta, hdh, hlp, hlh, hyr, hwh, hro, hiz, hkp, htm, hdw, htt, huu, hdd, hf0, hf1, hf2, hf3, hf4, hf5, hf6, hf7, hf8, hf9, hf10, hf11, hf12, hf13, hf14, hf15, hf16, hf17, hf18, hf19, hf20, hf21, hf22, hf23, hf24, hf25, hf26, hf27, hf28, hf29, hRL, hDD, hTP, hI0, hI1⟩ := hI
  have hWS : tf_WS gy gw := hRL.2.2
  refine lv_aload_n hx hb dL_law_1439 rfl (lv_at hl 2 rfl) ?_
  refine lv_aload_n hx hb dL_law_1440 rfl (lv_at hl 3 rfl) ?_
  refine lv_iload_n hx hb dL_law_1441 rfl (lv_at hl 0 rfl) ?_
  refine tf_iconst hx hb dL_law_1442 ?_
  refine tf_iadd hx hb dL_law_1443 ?_
  refine lw_sld (sx := sx) hx hb hX hbl hBs hL hW (by omega) (by omega) dL_law_1444 ?_
  have hsx1 := hsx (ii + 1)
  rcases (show (sx (ii + 1)) = 0 ∨ (sx (ii + 1)) = 1 ∨ ((sx (ii + 1)) < 0 ∨ 1 < (sx (ii + 1))) by omega) with hv | hv | hv
  · rcases id hI0 with ⟨hkk, hbn⟩ | ⟨hkk, ss, slp, slh, syr, swh, hss, hslp, hslh, hsyr, hswh, hb1, hb2, hb3, hb4, hb5, hbR⟩
    · refine tf_calli (va_runV (As := [.int (Int32.ofInt ((sx (ii + 1))))]) (rest := []) ⟨hx, hb, hml, hown, hts⟩ (c_n0_X9_back l g T ax hax ((sx (ii + 1))) ⟨by omega, by omega⟩ im him) (cwV 1 hts gv_L_168 rfl rfl rfl hd_X9_back ⟨Nat.le_trans (by decide) hR1, Nat.le_trans (by decide) hR2⟩) (tf_preV hk hW hax (ci := 9) rfl rfl ⟨hf1, hbn⟩) rfl rfl hl.1 rfl (lv_room (Nat.le_of_ble_eq_true rfl)) dL_law_1445 ⟨Nat.le_trans (by omega) hR3, Nat.le_trans (by omega) hR4⟩) hW (by decide) (fun z2 H2 locs2 hW hF2 hp2 => ?_)
      have hs3 := tf_keepF hF2 hax rfl rfl (by decide) hf0
      have hs4 := tf_keepF hF2 hax rfl rfl (by decide) hf1
      have hs5 := tf_keepF hF2 hax rfl rfl (by decide) hf2
      have hs6 := tf_keepF hF2 hax rfl rfl (by decide) hf3
      have hs7 := tf_keepF hF2 hax rfl rfl (by decide) hf4
      have hs8 := tf_keepF hF2 hax rfl rfl (by decide) hf5
      have hs9 := tf_keepF hF2 hax rfl rfl (by decide) hf6
      have hs10 := tf_keepF hF2 hsq rfl rfl (by decide) hf7
      have hs11 := tf_keepF hF2 hsq rfl rfl (by decide) hf8
      have hs12 := tf_keepF hF2 hsq rfl rfl (by decide) hf9
      have hs13 := tf_keepF hF2 hsq rfl rfl (by decide) hf10
      have hs14 := tf_keepC hF2 hlp rfl (by decide) hf11
      have hs15 := tf_keepC hF2 hlh rfl (by decide) hf12
      have hs16 := tf_keepC hF2 hyr rfl (by decide) hf13
      have hs17 := tf_keepC hF2 hwh rfl (by decide) hf14
      have hs18 := tf_keepC hF2 hta rfl (by decide) hf15
      have hs19 := tf_keepC hF2 hdh rfl (by decide) hf16
      have hs20 := tf_keepF hF2 ham rfl rfl (by decide) hf17
      have hs21 := tf_keepF hF2 ham rfl rfl (by decide) hf18
      have hs22 := tf_keepF hF2 ham rfl rfl (by decide) hf19
      have hs23 := tf_keepF hF2 ham rfl rfl (by decide) hf20
      have hs24 := tf_keepF hF2 ham rfl rfl (by decide) hf21
      have hs25 := tf_keepF hF2 ham rfl rfl (by decide) hf22
      have hs26 := tf_keepF hF2 ham rfl rfl (by decide) hf23
      have hs27 := tf_keepF hF2 ham rfl rfl (by decide) hf24
      have hs28 := tf_keepC hF2 hro rfl (by decide) hf25
      have hs29 := tf_keepC hF2 hiz rfl (by decide) hf26
      have hs30 := tf_keepC hF2 hkp rfl (by decide) hf27
      have hs31 := tf_keepC hF2 htm rfl (by decide) hf28
      have hs32 := tf_keepC hF2 hdw rfl (by decide) hf29
      have hs33 := tf_keepS hF2 him rfl (by decide) hbn
      have hI0 := tf_IS1_keep hF2 him (by decide) (by decide) hI0
      have hI1 := tf_IS2_keep hF2 him (by decide) (by decide) hI1
      obtain ⟨hp2_0, hp2_1⟩ := hp2
      refine lv_pop hx hb dL_law_1448 rfl ?_
      refine lv_aload_n hx hb dL_law_1449 rfl (lv_at hl 1 rfl) ?_
      refine lv_aload_n hx hb dL_law_1450 rfl (lv_at hl 3 rfl) ?_
      refine lv_iload_n hx hb dL_law_1451 rfl (lv_at hl 0 rfl) ?_
      refine tf_iconst hx hb dL_law_1452 ?_
      refine tf_iadd hx hb dL_law_1453 ?_
      refine lw_sld (sx := sx) hx hb hX hbl hBs hL hW (by omega) (by omega) dL_law_1454 ?_
      have hsx34 := hsx (ii + 1)
      refine tf_calli (va_runV (As := [.int (Int32.ofInt ((sx (ii + 1))))]) (rest := []) ⟨hx, hb, hml, hown, hts⟩ (c_X10_back l g T am ham ((sx (ii + 1))) ⟨by omega, by omega⟩ ro hro iz hiz kp hkp rr qq rk) (cwV 1 hts gv_L_171 rfl rfl rfl hd_X10_back ⟨Nat.le_trans (by decide) hR1, Nat.le_trans (by decide) hR2⟩) (tf_preV hk hW ham (ci := 10) rfl rfl ⟨hs20, hs28, hs21, hs22, hs29, hs30⟩) rfl rfl hl.1 rfl (lv_room (Nat.le_of_ble_eq_true rfl)) dL_law_1455 ⟨Nat.le_trans (by omega) hR3, Nat.le_trans (by omega) hR4⟩) hW (by decide) (fun z35 H35 locs35 hW hF35 hp35 => ?_)
      have hs36 := tf_keepF hF35 hax rfl rfl (by decide) hs3
      have hs37 := tf_keepF hF35 hax rfl rfl (by decide) hs4
      have hs38 := tf_keepF hF35 hax rfl rfl (by decide) hs5
      have hs39 := tf_keepF hF35 hax rfl rfl (by decide) hs6
      have hs40 := tf_keepF hF35 hax rfl rfl (by decide) hs7
      have hs41 := tf_keepF hF35 hax rfl rfl (by decide) hs8
      have hs42 := tf_keepF hF35 hax rfl rfl (by decide) hs9
      have hs43 := tf_keepF hF35 hsq rfl rfl (by decide) hs10
      have hs44 := tf_keepF hF35 hsq rfl rfl (by decide) hs11
      have hs45 := tf_keepF hF35 hsq rfl rfl (by decide) hs12
      have hs46 := tf_keepF hF35 hsq rfl rfl (by decide) hs13
      have hs47 := tf_keepC hF35 hlp rfl (by decide) hs14
      have hs48 := tf_keepC hF35 hlh rfl (by decide) hs15
      have hs49 := tf_keepC hF35 hyr rfl (by decide) hs16
      have hs50 := tf_keepC hF35 hwh rfl (by decide) hs17
      have hs51 := tf_keepC hF35 hta rfl (by decide) hs18
      have hs52 := tf_keepC hF35 hdh rfl (by decide) hs19
      have hs53 := tf_keepF hF35 ham rfl rfl (by decide) hs20
      have hs54 := tf_keepF hF35 ham rfl rfl (by decide) hs21
      have hs55 := tf_keepF hF35 ham rfl rfl (by decide) hs22
      have hs56 := tf_keepF hF35 ham rfl rfl (by decide) hs23
      have hs57 := tf_keepF hF35 ham rfl rfl (by decide) hs24
      have hs58 := tf_keepF hF35 ham rfl rfl (by decide) hs25
      have hs59 := tf_keepF hF35 ham rfl rfl (by decide) hs26
      have hs60 := tf_keepF hF35 ham rfl rfl (by decide) hs27
      have hs61 := tf_keepC hF35 hiz rfl (by decide) hs29
      have hs62 := tf_keepC hF35 hkp rfl (by decide) hs30
      have hs63 := tf_keepC hF35 htm rfl (by decide) hs31
      have hs64 := tf_keepC hF35 hdw rfl (by decide) hs32
      have hI0 := tf_IS1_keep hF35 him (by decide) (by decide) hI0
      have hI1 := tf_IS2_keep hF35 him (by decide) (by decide) hI1
      obtain ⟨hp35_0, hp35_1, hp35_2⟩ := hp35
      obtain ⟨r1_35, hX35_0, hR35_0⟩ := hp35_2
      have hcc : rk ((sx (ii + 1))) = rk 0 := by rw [hv]
      obtain ⟨hzm, hr1⟩ : z35 = -2 ∧ r1_35 = rr := by
        rcases hR35_0 with ⟨a, -⟩ | ⟨-, -, a, b⟩ | ⟨-, a, -⟩
        · omega
        · exact ⟨a, b⟩
        · omega
      have hRL := tf_RL_to (rr1 := r1_35) hRL (fun _ _ _ => by rw [hr1])
      refine lv_pop hx hb dL_law_1458 rfl ?_
      refine lv_goto (tgt := 1498) hx hb dL_law_1459 (by decide) ?_
      refine W.widen (k := 130 + 30 * jj) (n := 31200 + 1200 * jj) (by omega) (by omega) ?_
      exact hnx _ _ _ hW hax ham ⟨sq, im, ta, dh, lp, lh, yr, wh, ro, iz, kp, tm, dw, (tt), (uu), (dd), gl, gh, gy, gw, tp, gd, r1_35, qq, rk, tq, gm, hsq, him, hta, hdh, hlp, hlh, hyr, hwh, hro, hiz, hkp, htm, hdw, ⟨by omega, by omega⟩, ⟨by omega, by omega⟩, ⟨by omega, by omega⟩, hs36, hs37, hs38, hs39, hs40, hs41, hs42, hs43, hs44, hs45, hs46, hs47, hs48, hs49, hs50, hs51, hs52, hs53, hs54, hs55, tf_eqv hs56 (by omega), hs57, tf_eqv hs58 (by omega), hs59, tf_eqv hs60 (by omega), hX35_0, hs61, hs62, hs63, hs64, hRL, hDD, hTP, hI0, hI1⟩ _ (lv_sub hl [0, 1, 2, 3] rfl)
    · obtain ⟨sgl, hsgl⟩ := tf_rname hW slp
      obtain ⟨sgh, hsgh⟩ := tf_rname hW slh
      obtain ⟨sgy, hsgy⟩ := tf_rname hW syr
      obtain ⟨sgw, hsgw⟩ := tf_rname hW swh
      rw [hsgl, hsgh, hsgy, hsgw] at hbR
      refine tf_calli (va_runV (As := [.int (Int32.ofInt ((sx (ii + 1))))]) (rest := []) ⟨hx, hb, hml, hown, hts⟩ (c_s0_X9_back l g T ax hax ((sx (ii + 1))) ⟨by omega, by omega⟩ sq hsq im him lp hlp lh hlh yr hyr wh hwh ss hss slp hslp slh hslh syr hsyr swh hswh gl gh gy gw sgl sgh sgy sgw) (cwV 1 hts gv_L_168 rfl rfl rfl hd_X9_back ⟨Nat.le_trans (by decide) hR1, Nat.le_trans (by decide) hR2⟩) (tf_preV hk hW hax (ci := 9) rfl rfl ⟨hf0, hf7, hf8, hf9, hf10, hf11, hf12, hf13, hf14, hf1, hb1, hb2, hb3, hb4, hb5, hsgl, hsgh, hsgy, hsgw⟩) rfl rfl hl.1 rfl (lv_room (Nat.le_of_ble_eq_true rfl)) dL_law_1445 ⟨Nat.le_trans (by omega) hR3, Nat.le_trans (by omega) hR4⟩) hW (by decide) (fun z65 H65 locs65 hW hF65 hp65 => ?_)
      have hs66 := tf_keepF hF65 hax rfl rfl (by decide) hf0
      have hs67 := tf_keepF hF65 hax rfl rfl (by decide) hf1
      have hs68 := tf_keepF hF65 hax rfl rfl (by decide) hf2
      have hs69 := tf_keepF hF65 hax rfl rfl (by decide) hf3
      have hs70 := tf_keepF hF65 hax rfl rfl (by decide) hf4
      have hs71 := tf_keepF hF65 hax rfl rfl (by decide) hf5
      have hs72 := tf_keepF hF65 hax rfl rfl (by decide) hf6
      have hs73 := tf_keepF hF65 hsq rfl rfl (by decide) hf7
      have hs74 := tf_keepF hF65 hsq rfl rfl (by decide) hf8
      have hs75 := tf_keepF hF65 hsq rfl rfl (by decide) hf9
      have hs76 := tf_keepF hF65 hsq rfl rfl (by decide) hf10
      have hs77 := tf_keepC hF65 hta rfl (by decide) hf15
      have hs78 := tf_keepC hF65 hdh rfl (by decide) hf16
      have hs79 := tf_keepF hF65 ham rfl rfl (by decide) hf17
      have hs80 := tf_keepF hF65 ham rfl rfl (by decide) hf18
      have hs81 := tf_keepF hF65 ham rfl rfl (by decide) hf19
      have hs82 := tf_keepF hF65 ham rfl rfl (by decide) hf20
      have hs83 := tf_keepF hF65 ham rfl rfl (by decide) hf21
      have hs84 := tf_keepF hF65 ham rfl rfl (by decide) hf22
      have hs85 := tf_keepF hF65 ham rfl rfl (by decide) hf23
      have hs86 := tf_keepF hF65 ham rfl rfl (by decide) hf24
      have hs87 := tf_keepC hF65 hro rfl (by decide) hf25
      have hs88 := tf_keepC hF65 hiz rfl (by decide) hf26
      have hs89 := tf_keepC hF65 hkp rfl (by decide) hf27
      have hs90 := tf_keepC hF65 htm rfl (by decide) hf28
      have hs91 := tf_keepC hF65 hdw rfl (by decide) hf29
      have hs92 := tf_keepS hF65 him rfl (by decide) hb1
      have hs93 := tf_keepF hF65 hss rfl rfl (by decide) hb2
      have hs94 := tf_keepC hF65 hslp rfl (by decide) hsgl
      have hs95 := tf_keepF hF65 hss rfl rfl (by decide) hb3
      have hs96 := tf_keepC hF65 hslh rfl (by decide) hsgh
      have hs97 := tf_keepF hF65 hss rfl rfl (by decide) hb4
      have hs98 := tf_keepC hF65 hsyr rfl (by decide) hsgy
      have hs99 := tf_keepF hF65 hss rfl rfl (by decide) hb5
      have hs100 := tf_keepC hF65 hswh rfl (by decide) hsgw
      have hI0 := tf_IS1_keep hF65 him (by decide) (by decide) hI0
      have hI1 := tf_IS2_keep hF65 him (by decide) (by decide) hI1
      obtain ⟨hp65_0, hp65_1, hp65_2⟩ := hp65
      obtain ⟨hw65_0, hw65_1, hw65_2, hw65_3⟩ := hp65_2
      refine lv_pop hx hb dL_law_1448 rfl ?_
      refine lv_aload_n hx hb dL_law_1449 rfl (lv_at hl 1 rfl) ?_
      refine lv_aload_n hx hb dL_law_1450 rfl (lv_at hl 3 rfl) ?_
      refine lv_iload_n hx hb dL_law_1451 rfl (lv_at hl 0 rfl) ?_
      refine tf_iconst hx hb dL_law_1452 ?_
      refine tf_iadd hx hb dL_law_1453 ?_
      refine lw_sld (sx := sx) hx hb hX hbl hBs hL hW (by omega) (by omega) dL_law_1454 ?_
      have hsx101 := hsx (ii + 1)
      refine tf_calli (va_runV (As := [.int (Int32.ofInt ((sx (ii + 1))))]) (rest := []) ⟨hx, hb, hml, hown, hts⟩ (c_X10_back l g T am ham ((sx (ii + 1))) ⟨by omega, by omega⟩ ro hro iz hiz kp hkp rr qq rk) (cwV 1 hts gv_L_171 rfl rfl rfl hd_X10_back ⟨Nat.le_trans (by decide) hR1, Nat.le_trans (by decide) hR2⟩) (tf_preV hk hW ham (ci := 10) rfl rfl ⟨hs79, hs87, hs80, hs81, hs88, hs89⟩) rfl rfl hl.1 rfl (lv_room (Nat.le_of_ble_eq_true rfl)) dL_law_1455 ⟨Nat.le_trans (by omega) hR3, Nat.le_trans (by omega) hR4⟩) hW (by decide) (fun z102 H102 locs102 hW hF102 hp102 => ?_)
      have hs103 := tf_keepF hF102 hax rfl rfl (by decide) hs66
      have hs104 := tf_keepF hF102 hax rfl rfl (by decide) hs67
      have hs105 := tf_keepF hF102 hax rfl rfl (by decide) hs68
      have hs106 := tf_keepF hF102 hax rfl rfl (by decide) hs69
      have hs107 := tf_keepF hF102 hax rfl rfl (by decide) hs70
      have hs108 := tf_keepF hF102 hax rfl rfl (by decide) hs71
      have hs109 := tf_keepF hF102 hax rfl rfl (by decide) hs72
      have hs110 := tf_keepF hF102 hsq rfl rfl (by decide) hs73
      have hs111 := tf_keepF hF102 hsq rfl rfl (by decide) hs74
      have hs112 := tf_keepF hF102 hsq rfl rfl (by decide) hs75
      have hs113 := tf_keepF hF102 hsq rfl rfl (by decide) hs76
      have hs114 := tf_keepC hF102 hta rfl (by decide) hs77
      have hs115 := tf_keepC hF102 hdh rfl (by decide) hs78
      have hs116 := tf_keepF hF102 ham rfl rfl (by decide) hs79
      have hs117 := tf_keepF hF102 ham rfl rfl (by decide) hs80
      have hs118 := tf_keepF hF102 ham rfl rfl (by decide) hs81
      have hs119 := tf_keepF hF102 ham rfl rfl (by decide) hs82
      have hs120 := tf_keepF hF102 ham rfl rfl (by decide) hs83
      have hs121 := tf_keepF hF102 ham rfl rfl (by decide) hs84
      have hs122 := tf_keepF hF102 ham rfl rfl (by decide) hs85
      have hs123 := tf_keepF hF102 ham rfl rfl (by decide) hs86
      have hs124 := tf_keepC hF102 hiz rfl (by decide) hs88
      have hs125 := tf_keepC hF102 hkp rfl (by decide) hs89
      have hs126 := tf_keepC hF102 htm rfl (by decide) hs90
      have hs127 := tf_keepC hF102 hdw rfl (by decide) hs91
      have hs128 := tf_keepC hF102 hlp rfl (by decide) hw65_0
      have hs129 := tf_keepC hF102 hlh rfl (by decide) hw65_1
      have hs130 := tf_keepC hF102 hyr rfl (by decide) hw65_2
      have hs131 := tf_keepC hF102 hwh rfl (by decide) hw65_3
      have hI0 := tf_IS1_keep hF102 him (by decide) (by decide) hI0
      have hI1 := tf_IS2_keep hF102 him (by decide) (by decide) hI1
      obtain ⟨hp102_0, hp102_1, hp102_2⟩ := hp102
      obtain ⟨r1_102, hX102_0, hR102_0⟩ := hp102_2
      have hcc : rk ((sx (ii + 1))) = rk 0 := by rw [hv]
      obtain ⟨hzm, hr1⟩ : z102 = 0 ∧ tf_bk rr qq ((sx (ii + 1))) 5830 r1_102 := by
        rcases hR102_0 with ⟨a, -⟩ | ⟨-, a, -⟩ | ⟨-, -, a, b⟩
        · omega
        · omega
        · exact ⟨a, b⟩
      have hRL := tf_RL_to hbR (tf_bk_at hr1 hv)
      refine lv_pop hx hb dL_law_1458 rfl ?_
      refine lv_goto (tgt := 1498) hx hb dL_law_1459 (by decide) ?_
      refine W.widen (k := 130 + 30 * jj) (n := 31200 + 1200 * jj) (by omega) (by omega) ?_
      exact hnx _ _ _ hW hax ham ⟨sq, im, ta, dh, lp, lh, yr, wh, ro, iz, kp, tm, dw, (tt), (uu), (dd), sgl, sgh, sgy, sgw, tp, gd, r1_102, qq, rk, tq, gm, hsq, him, hta, hdh, hlp, hlh, hyr, hwh, hro, hiz, hkp, htm, hdw, ⟨by omega, by omega⟩, ⟨by omega, by omega⟩, ⟨by omega, by omega⟩, hs103, hs104, hs105, hs106, hs107, hs108, hs109, hs110, hs111, hs112, hs113, hs128, hs129, hs130, hs131, hs114, hs115, hs116, hs117, hs118, tf_eqv hs119 (by omega), hs120, tf_eqv hs121 (by omega), hs122, tf_eqv hs123 (by omega), hX102_0, hs124, hs125, hs126, hs127, hRL, hDD, hTP, hI0, hI1⟩ _ (lv_sub hl [0, 1, 2, 3] rfl)
  · rcases id hI1 with ⟨hkk, hbn⟩ | ⟨hkk, ss, slp, slh, syr, swh, hss, hslp, hslh, hsyr, hswh, hb1, hb2, hb3, hb4, hb5, hbR⟩
    · refine tf_calli (va_runV (As := [.int (Int32.ofInt ((sx (ii + 1))))]) (rest := []) ⟨hx, hb, hml, hown, hts⟩ (c_n1_X9_back l g T ax hax ((sx (ii + 1))) ⟨by omega, by omega⟩ im him) (cwV 1 hts gv_L_168 rfl rfl rfl hd_X9_back ⟨Nat.le_trans (by decide) hR1, Nat.le_trans (by decide) hR2⟩) (tf_preV hk hW hax (ci := 9) rfl rfl ⟨hf1, hbn⟩) rfl rfl hl.1 rfl (lv_room (Nat.le_of_ble_eq_true rfl)) dL_law_1445 ⟨Nat.le_trans (by omega) hR3, Nat.le_trans (by omega) hR4⟩) hW (by decide) (fun z132 H132 locs132 hW hF132 hp132 => ?_)
      have hs133 := tf_keepF hF132 hax rfl rfl (by decide) hf0
      have hs134 := tf_keepF hF132 hax rfl rfl (by decide) hf1
      have hs135 := tf_keepF hF132 hax rfl rfl (by decide) hf2
      have hs136 := tf_keepF hF132 hax rfl rfl (by decide) hf3
      have hs137 := tf_keepF hF132 hax rfl rfl (by decide) hf4
      have hs138 := tf_keepF hF132 hax rfl rfl (by decide) hf5
      have hs139 := tf_keepF hF132 hax rfl rfl (by decide) hf6
      have hs140 := tf_keepF hF132 hsq rfl rfl (by decide) hf7
      have hs141 := tf_keepF hF132 hsq rfl rfl (by decide) hf8
      have hs142 := tf_keepF hF132 hsq rfl rfl (by decide) hf9
      have hs143 := tf_keepF hF132 hsq rfl rfl (by decide) hf10
      have hs144 := tf_keepC hF132 hlp rfl (by decide) hf11
      have hs145 := tf_keepC hF132 hlh rfl (by decide) hf12
      have hs146 := tf_keepC hF132 hyr rfl (by decide) hf13
      have hs147 := tf_keepC hF132 hwh rfl (by decide) hf14
      have hs148 := tf_keepC hF132 hta rfl (by decide) hf15
      have hs149 := tf_keepC hF132 hdh rfl (by decide) hf16
      have hs150 := tf_keepF hF132 ham rfl rfl (by decide) hf17
      have hs151 := tf_keepF hF132 ham rfl rfl (by decide) hf18
      have hs152 := tf_keepF hF132 ham rfl rfl (by decide) hf19
      have hs153 := tf_keepF hF132 ham rfl rfl (by decide) hf20
      have hs154 := tf_keepF hF132 ham rfl rfl (by decide) hf21
      have hs155 := tf_keepF hF132 ham rfl rfl (by decide) hf22
      have hs156 := tf_keepF hF132 ham rfl rfl (by decide) hf23
      have hs157 := tf_keepF hF132 ham rfl rfl (by decide) hf24
      have hs158 := tf_keepC hF132 hro rfl (by decide) hf25
      have hs159 := tf_keepC hF132 hiz rfl (by decide) hf26
      have hs160 := tf_keepC hF132 hkp rfl (by decide) hf27
      have hs161 := tf_keepC hF132 htm rfl (by decide) hf28
      have hs162 := tf_keepC hF132 hdw rfl (by decide) hf29
      have hs163 := tf_keepS hF132 him rfl (by decide) hbn
      have hI0 := tf_IS1_keep hF132 him (by decide) (by decide) hI0
      have hI1 := tf_IS2_keep hF132 him (by decide) (by decide) hI1
      obtain ⟨hp132_0, hp132_1⟩ := hp132
      refine lv_pop hx hb dL_law_1448 rfl ?_
      refine lv_aload_n hx hb dL_law_1449 rfl (lv_at hl 1 rfl) ?_
      refine lv_aload_n hx hb dL_law_1450 rfl (lv_at hl 3 rfl) ?_
      refine lv_iload_n hx hb dL_law_1451 rfl (lv_at hl 0 rfl) ?_
      refine tf_iconst hx hb dL_law_1452 ?_
      refine tf_iadd hx hb dL_law_1453 ?_
      refine lw_sld (sx := sx) hx hb hX hbl hBs hL hW (by omega) (by omega) dL_law_1454 ?_
      have hsx164 := hsx (ii + 1)
      refine tf_calli (va_runV (As := [.int (Int32.ofInt ((sx (ii + 1))))]) (rest := []) ⟨hx, hb, hml, hown, hts⟩ (c_X10_back l g T am ham ((sx (ii + 1))) ⟨by omega, by omega⟩ ro hro iz hiz kp hkp rr qq rk) (cwV 1 hts gv_L_171 rfl rfl rfl hd_X10_back ⟨Nat.le_trans (by decide) hR1, Nat.le_trans (by decide) hR2⟩) (tf_preV hk hW ham (ci := 10) rfl rfl ⟨hs150, hs158, hs151, hs152, hs159, hs160⟩) rfl rfl hl.1 rfl (lv_room (Nat.le_of_ble_eq_true rfl)) dL_law_1455 ⟨Nat.le_trans (by omega) hR3, Nat.le_trans (by omega) hR4⟩) hW (by decide) (fun z165 H165 locs165 hW hF165 hp165 => ?_)
      have hs166 := tf_keepF hF165 hax rfl rfl (by decide) hs133
      have hs167 := tf_keepF hF165 hax rfl rfl (by decide) hs134
      have hs168 := tf_keepF hF165 hax rfl rfl (by decide) hs135
      have hs169 := tf_keepF hF165 hax rfl rfl (by decide) hs136
      have hs170 := tf_keepF hF165 hax rfl rfl (by decide) hs137
      have hs171 := tf_keepF hF165 hax rfl rfl (by decide) hs138
      have hs172 := tf_keepF hF165 hax rfl rfl (by decide) hs139
      have hs173 := tf_keepF hF165 hsq rfl rfl (by decide) hs140
      have hs174 := tf_keepF hF165 hsq rfl rfl (by decide) hs141
      have hs175 := tf_keepF hF165 hsq rfl rfl (by decide) hs142
      have hs176 := tf_keepF hF165 hsq rfl rfl (by decide) hs143
      have hs177 := tf_keepC hF165 hlp rfl (by decide) hs144
      have hs178 := tf_keepC hF165 hlh rfl (by decide) hs145
      have hs179 := tf_keepC hF165 hyr rfl (by decide) hs146
      have hs180 := tf_keepC hF165 hwh rfl (by decide) hs147
      have hs181 := tf_keepC hF165 hta rfl (by decide) hs148
      have hs182 := tf_keepC hF165 hdh rfl (by decide) hs149
      have hs183 := tf_keepF hF165 ham rfl rfl (by decide) hs150
      have hs184 := tf_keepF hF165 ham rfl rfl (by decide) hs151
      have hs185 := tf_keepF hF165 ham rfl rfl (by decide) hs152
      have hs186 := tf_keepF hF165 ham rfl rfl (by decide) hs153
      have hs187 := tf_keepF hF165 ham rfl rfl (by decide) hs154
      have hs188 := tf_keepF hF165 ham rfl rfl (by decide) hs155
      have hs189 := tf_keepF hF165 ham rfl rfl (by decide) hs156
      have hs190 := tf_keepF hF165 ham rfl rfl (by decide) hs157
      have hs191 := tf_keepC hF165 hiz rfl (by decide) hs159
      have hs192 := tf_keepC hF165 hkp rfl (by decide) hs160
      have hs193 := tf_keepC hF165 htm rfl (by decide) hs161
      have hs194 := tf_keepC hF165 hdw rfl (by decide) hs162
      have hI0 := tf_IS1_keep hF165 him (by decide) (by decide) hI0
      have hI1 := tf_IS2_keep hF165 him (by decide) (by decide) hI1
      obtain ⟨hp165_0, hp165_1, hp165_2⟩ := hp165
      obtain ⟨r1_165, hX165_0, hR165_0⟩ := hp165_2
      have hcc : rk ((sx (ii + 1))) = rk 1 := by rw [hv]
      obtain ⟨hzm, hr1⟩ : z165 = -2 ∧ r1_165 = rr := by
        rcases hR165_0 with ⟨a, -⟩ | ⟨-, -, a, b⟩ | ⟨-, a, -⟩
        · omega
        · exact ⟨a, b⟩
        · omega
      have hRL := tf_RL_to (rr1 := r1_165) hRL (fun _ _ _ => by rw [hr1])
      refine lv_pop hx hb dL_law_1458 rfl ?_
      refine lv_goto (tgt := 1498) hx hb dL_law_1459 (by decide) ?_
      refine W.widen (k := 130 + 30 * jj) (n := 31200 + 1200 * jj) (by omega) (by omega) ?_
      exact hnx _ _ _ hW hax ham ⟨sq, im, ta, dh, lp, lh, yr, wh, ro, iz, kp, tm, dw, (tt), (uu), (dd), gl, gh, gy, gw, tp, gd, r1_165, qq, rk, tq, gm, hsq, him, hta, hdh, hlp, hlh, hyr, hwh, hro, hiz, hkp, htm, hdw, ⟨by omega, by omega⟩, ⟨by omega, by omega⟩, ⟨by omega, by omega⟩, hs166, hs167, hs168, hs169, hs170, hs171, hs172, hs173, hs174, hs175, hs176, hs177, hs178, hs179, hs180, hs181, hs182, hs183, hs184, hs185, tf_eqv hs186 (by omega), hs187, tf_eqv hs188 (by omega), hs189, tf_eqv hs190 (by omega), hX165_0, hs191, hs192, hs193, hs194, hRL, hDD, hTP, hI0, hI1⟩ _ (lv_sub hl [0, 1, 2, 3] rfl)
    · obtain ⟨sgl, hsgl⟩ := tf_rname hW slp
      obtain ⟨sgh, hsgh⟩ := tf_rname hW slh
      obtain ⟨sgy, hsgy⟩ := tf_rname hW syr
      obtain ⟨sgw, hsgw⟩ := tf_rname hW swh
      rw [hsgl, hsgh, hsgy, hsgw] at hbR
      refine tf_calli (va_runV (As := [.int (Int32.ofInt ((sx (ii + 1))))]) (rest := []) ⟨hx, hb, hml, hown, hts⟩ (c_s1_X9_back l g T ax hax ((sx (ii + 1))) ⟨by omega, by omega⟩ sq hsq im him lp hlp lh hlh yr hyr wh hwh ss hss slp hslp slh hslh syr hsyr swh hswh gl gh gy gw sgl sgh sgy sgw) (cwV 1 hts gv_L_168 rfl rfl rfl hd_X9_back ⟨Nat.le_trans (by decide) hR1, Nat.le_trans (by decide) hR2⟩) (tf_preV hk hW hax (ci := 9) rfl rfl ⟨hf0, hf7, hf8, hf9, hf10, hf11, hf12, hf13, hf14, hf1, hb1, hb2, hb3, hb4, hb5, hsgl, hsgh, hsgy, hsgw⟩) rfl rfl hl.1 rfl (lv_room (Nat.le_of_ble_eq_true rfl)) dL_law_1445 ⟨Nat.le_trans (by omega) hR3, Nat.le_trans (by omega) hR4⟩) hW (by decide) (fun z195 H195 locs195 hW hF195 hp195 => ?_)
      have hs196 := tf_keepF hF195 hax rfl rfl (by decide) hf0
      have hs197 := tf_keepF hF195 hax rfl rfl (by decide) hf1
      have hs198 := tf_keepF hF195 hax rfl rfl (by decide) hf2
      have hs199 := tf_keepF hF195 hax rfl rfl (by decide) hf3
      have hs200 := tf_keepF hF195 hax rfl rfl (by decide) hf4
      have hs201 := tf_keepF hF195 hax rfl rfl (by decide) hf5
      have hs202 := tf_keepF hF195 hax rfl rfl (by decide) hf6
      have hs203 := tf_keepF hF195 hsq rfl rfl (by decide) hf7
      have hs204 := tf_keepF hF195 hsq rfl rfl (by decide) hf8
      have hs205 := tf_keepF hF195 hsq rfl rfl (by decide) hf9
      have hs206 := tf_keepF hF195 hsq rfl rfl (by decide) hf10
      have hs207 := tf_keepC hF195 hta rfl (by decide) hf15
      have hs208 := tf_keepC hF195 hdh rfl (by decide) hf16
      have hs209 := tf_keepF hF195 ham rfl rfl (by decide) hf17
      have hs210 := tf_keepF hF195 ham rfl rfl (by decide) hf18
      have hs211 := tf_keepF hF195 ham rfl rfl (by decide) hf19
      have hs212 := tf_keepF hF195 ham rfl rfl (by decide) hf20
      have hs213 := tf_keepF hF195 ham rfl rfl (by decide) hf21
      have hs214 := tf_keepF hF195 ham rfl rfl (by decide) hf22
      have hs215 := tf_keepF hF195 ham rfl rfl (by decide) hf23
      have hs216 := tf_keepF hF195 ham rfl rfl (by decide) hf24
      have hs217 := tf_keepC hF195 hro rfl (by decide) hf25
      have hs218 := tf_keepC hF195 hiz rfl (by decide) hf26
      have hs219 := tf_keepC hF195 hkp rfl (by decide) hf27
      have hs220 := tf_keepC hF195 htm rfl (by decide) hf28
      have hs221 := tf_keepC hF195 hdw rfl (by decide) hf29
      have hs222 := tf_keepS hF195 him rfl (by decide) hb1
      have hs223 := tf_keepF hF195 hss rfl rfl (by decide) hb2
      have hs224 := tf_keepC hF195 hslp rfl (by decide) hsgl
      have hs225 := tf_keepF hF195 hss rfl rfl (by decide) hb3
      have hs226 := tf_keepC hF195 hslh rfl (by decide) hsgh
      have hs227 := tf_keepF hF195 hss rfl rfl (by decide) hb4
      have hs228 := tf_keepC hF195 hsyr rfl (by decide) hsgy
      have hs229 := tf_keepF hF195 hss rfl rfl (by decide) hb5
      have hs230 := tf_keepC hF195 hswh rfl (by decide) hsgw
      have hI0 := tf_IS1_keep hF195 him (by decide) (by decide) hI0
      have hI1 := tf_IS2_keep hF195 him (by decide) (by decide) hI1
      obtain ⟨hp195_0, hp195_1, hp195_2⟩ := hp195
      obtain ⟨hw195_0, hw195_1, hw195_2, hw195_3⟩ := hp195_2
      refine lv_pop hx hb dL_law_1448 rfl ?_
      refine lv_aload_n hx hb dL_law_1449 rfl (lv_at hl 1 rfl) ?_
      refine lv_aload_n hx hb dL_law_1450 rfl (lv_at hl 3 rfl) ?_
      refine lv_iload_n hx hb dL_law_1451 rfl (lv_at hl 0 rfl) ?_
      refine tf_iconst hx hb dL_law_1452 ?_
      refine tf_iadd hx hb dL_law_1453 ?_
      refine lw_sld (sx := sx) hx hb hX hbl hBs hL hW (by omega) (by omega) dL_law_1454 ?_
      have hsx231 := hsx (ii + 1)
      refine tf_calli (va_runV (As := [.int (Int32.ofInt ((sx (ii + 1))))]) (rest := []) ⟨hx, hb, hml, hown, hts⟩ (c_X10_back l g T am ham ((sx (ii + 1))) ⟨by omega, by omega⟩ ro hro iz hiz kp hkp rr qq rk) (cwV 1 hts gv_L_171 rfl rfl rfl hd_X10_back ⟨Nat.le_trans (by decide) hR1, Nat.le_trans (by decide) hR2⟩) (tf_preV hk hW ham (ci := 10) rfl rfl ⟨hs209, hs217, hs210, hs211, hs218, hs219⟩) rfl rfl hl.1 rfl (lv_room (Nat.le_of_ble_eq_true rfl)) dL_law_1455 ⟨Nat.le_trans (by omega) hR3, Nat.le_trans (by omega) hR4⟩) hW (by decide) (fun z232 H232 locs232 hW hF232 hp232 => ?_)
      have hs233 := tf_keepF hF232 hax rfl rfl (by decide) hs196
      have hs234 := tf_keepF hF232 hax rfl rfl (by decide) hs197
      have hs235 := tf_keepF hF232 hax rfl rfl (by decide) hs198
      have hs236 := tf_keepF hF232 hax rfl rfl (by decide) hs199
      have hs237 := tf_keepF hF232 hax rfl rfl (by decide) hs200
      have hs238 := tf_keepF hF232 hax rfl rfl (by decide) hs201
      have hs239 := tf_keepF hF232 hax rfl rfl (by decide) hs202
      have hs240 := tf_keepF hF232 hsq rfl rfl (by decide) hs203
      have hs241 := tf_keepF hF232 hsq rfl rfl (by decide) hs204
      have hs242 := tf_keepF hF232 hsq rfl rfl (by decide) hs205
      have hs243 := tf_keepF hF232 hsq rfl rfl (by decide) hs206
      have hs244 := tf_keepC hF232 hta rfl (by decide) hs207
      have hs245 := tf_keepC hF232 hdh rfl (by decide) hs208
      have hs246 := tf_keepF hF232 ham rfl rfl (by decide) hs209
      have hs247 := tf_keepF hF232 ham rfl rfl (by decide) hs210
      have hs248 := tf_keepF hF232 ham rfl rfl (by decide) hs211
      have hs249 := tf_keepF hF232 ham rfl rfl (by decide) hs212
      have hs250 := tf_keepF hF232 ham rfl rfl (by decide) hs213
      have hs251 := tf_keepF hF232 ham rfl rfl (by decide) hs214
      have hs252 := tf_keepF hF232 ham rfl rfl (by decide) hs215
      have hs253 := tf_keepF hF232 ham rfl rfl (by decide) hs216
      have hs254 := tf_keepC hF232 hiz rfl (by decide) hs218
      have hs255 := tf_keepC hF232 hkp rfl (by decide) hs219
      have hs256 := tf_keepC hF232 htm rfl (by decide) hs220
      have hs257 := tf_keepC hF232 hdw rfl (by decide) hs221
      have hs258 := tf_keepC hF232 hlp rfl (by decide) hw195_0
      have hs259 := tf_keepC hF232 hlh rfl (by decide) hw195_1
      have hs260 := tf_keepC hF232 hyr rfl (by decide) hw195_2
      have hs261 := tf_keepC hF232 hwh rfl (by decide) hw195_3
      have hI0 := tf_IS1_keep hF232 him (by decide) (by decide) hI0
      have hI1 := tf_IS2_keep hF232 him (by decide) (by decide) hI1
      obtain ⟨hp232_0, hp232_1, hp232_2⟩ := hp232
      obtain ⟨r1_232, hX232_0, hR232_0⟩ := hp232_2
      have hcc : rk ((sx (ii + 1))) = rk 1 := by rw [hv]
      obtain ⟨hzm, hr1⟩ : z232 = 0 ∧ tf_bk rr qq ((sx (ii + 1))) 5830 r1_232 := by
        rcases hR232_0 with ⟨a, -⟩ | ⟨-, a, -⟩ | ⟨-, -, a, b⟩
        · omega
        · omega
        · exact ⟨a, b⟩
      have hRL := tf_RL_to hbR (tf_bk_at hr1 hv)
      refine lv_pop hx hb dL_law_1458 rfl ?_
      refine lv_goto (tgt := 1498) hx hb dL_law_1459 (by decide) ?_
      refine W.widen (k := 130 + 30 * jj) (n := 31200 + 1200 * jj) (by omega) (by omega) ?_
      exact hnx _ _ _ hW hax ham ⟨sq, im, ta, dh, lp, lh, yr, wh, ro, iz, kp, tm, dw, (tt), (uu), (dd), sgl, sgh, sgy, sgw, tp, gd, r1_232, qq, rk, tq, gm, hsq, him, hta, hdh, hlp, hlh, hyr, hwh, hro, hiz, hkp, htm, hdw, ⟨by omega, by omega⟩, ⟨by omega, by omega⟩, ⟨by omega, by omega⟩, hs233, hs234, hs235, hs236, hs237, hs238, hs239, hs240, hs241, hs242, hs243, hs258, hs259, hs260, hs261, hs244, hs245, hs246, hs247, hs248, tf_eqv hs249 (by omega), hs250, tf_eqv hs251 (by omega), hs252, tf_eqv hs253 (by omega), hX232_0, hs254, hs255, hs256, hs257, hRL, hDD, hTP, hI0, hI1⟩ _ (lv_sub hl [0, 1, 2, 3] rfl)
  · refine tf_calli (va_runV (As := [.int (Int32.ofInt ((sx (ii + 1))))]) (rest := []) ⟨hx, hb, hml, hown, hts⟩ (c_r_X9_back l g T ax hax ((sx (ii + 1))) ⟨by omega, by omega⟩ (by omega)) (cwV 1 hts gv_L_168 rfl rfl rfl hd_X9_back ⟨Nat.le_trans (by decide) hR1, Nat.le_trans (by decide) hR2⟩) (tf_preV hk hW hax (ci := 9) rfl rfl trivial) rfl rfl hl.1 rfl (lv_room (Nat.le_of_ble_eq_true rfl)) dL_law_1445 ⟨Nat.le_trans (by omega) hR3, Nat.le_trans (by omega) hR4⟩) hW (by decide) (fun z262 H262 locs262 hW hF262 hp262 => ?_)
    have hs263 := tf_keepF hF262 hax rfl rfl (by decide) hf0
    have hs264 := tf_keepF hF262 hax rfl rfl (by decide) hf1
    have hs265 := tf_keepF hF262 hax rfl rfl (by decide) hf2
    have hs266 := tf_keepF hF262 hax rfl rfl (by decide) hf3
    have hs267 := tf_keepF hF262 hax rfl rfl (by decide) hf4
    have hs268 := tf_keepF hF262 hax rfl rfl (by decide) hf5
    have hs269 := tf_keepF hF262 hax rfl rfl (by decide) hf6
    have hs270 := tf_keepF hF262 hsq rfl rfl (by decide) hf7
    have hs271 := tf_keepF hF262 hsq rfl rfl (by decide) hf8
    have hs272 := tf_keepF hF262 hsq rfl rfl (by decide) hf9
    have hs273 := tf_keepF hF262 hsq rfl rfl (by decide) hf10
    have hs274 := tf_keepC hF262 hlp rfl (by decide) hf11
    have hs275 := tf_keepC hF262 hlh rfl (by decide) hf12
    have hs276 := tf_keepC hF262 hyr rfl (by decide) hf13
    have hs277 := tf_keepC hF262 hwh rfl (by decide) hf14
    have hs278 := tf_keepC hF262 hta rfl (by decide) hf15
    have hs279 := tf_keepC hF262 hdh rfl (by decide) hf16
    have hs280 := tf_keepF hF262 ham rfl rfl (by decide) hf17
    have hs281 := tf_keepF hF262 ham rfl rfl (by decide) hf18
    have hs282 := tf_keepF hF262 ham rfl rfl (by decide) hf19
    have hs283 := tf_keepF hF262 ham rfl rfl (by decide) hf20
    have hs284 := tf_keepF hF262 ham rfl rfl (by decide) hf21
    have hs285 := tf_keepF hF262 ham rfl rfl (by decide) hf22
    have hs286 := tf_keepF hF262 ham rfl rfl (by decide) hf23
    have hs287 := tf_keepF hF262 ham rfl rfl (by decide) hf24
    have hs288 := tf_keepC hF262 hro rfl (by decide) hf25
    have hs289 := tf_keepC hF262 hiz rfl (by decide) hf26
    have hs290 := tf_keepC hF262 hkp rfl (by decide) hf27
    have hs291 := tf_keepC hF262 htm rfl (by decide) hf28
    have hs292 := tf_keepC hF262 hdw rfl (by decide) hf29
    have hI0 := tf_IS1_keep hF262 him (by decide) (by decide) hI0
    have hI1 := tf_IS2_keep hF262 him (by decide) (by decide) hI1
    obtain ⟨hp262_0, hp262_1⟩ := hp262
    refine lv_pop hx hb dL_law_1448 rfl ?_
    refine lv_aload_n hx hb dL_law_1449 rfl (lv_at hl 1 rfl) ?_
    refine lv_aload_n hx hb dL_law_1450 rfl (lv_at hl 3 rfl) ?_
    refine lv_iload_n hx hb dL_law_1451 rfl (lv_at hl 0 rfl) ?_
    refine tf_iconst hx hb dL_law_1452 ?_
    refine tf_iadd hx hb dL_law_1453 ?_
    refine lw_sld (sx := sx) hx hb hX hbl hBs hL hW (by omega) (by omega) dL_law_1454 ?_
    have hsx293 := hsx (ii + 1)
    refine tf_calli (va_runV (As := [.int (Int32.ofInt ((sx (ii + 1))))]) (rest := []) ⟨hx, hb, hml, hown, hts⟩ (c_X10_back l g T am ham ((sx (ii + 1))) ⟨by omega, by omega⟩ ro hro iz hiz kp hkp rr qq rk) (cwV 1 hts gv_L_171 rfl rfl rfl hd_X10_back ⟨Nat.le_trans (by decide) hR1, Nat.le_trans (by decide) hR2⟩) (tf_preV hk hW ham (ci := 10) rfl rfl ⟨hs280, hs288, hs281, hs282, hs289, hs290⟩) rfl rfl hl.1 rfl (lv_room (Nat.le_of_ble_eq_true rfl)) dL_law_1455 ⟨Nat.le_trans (by omega) hR3, Nat.le_trans (by omega) hR4⟩) hW (by decide) (fun z294 H294 locs294 hW hF294 hp294 => ?_)
    have hs295 := tf_keepF hF294 hax rfl rfl (by decide) hs263
    have hs296 := tf_keepF hF294 hax rfl rfl (by decide) hs264
    have hs297 := tf_keepF hF294 hax rfl rfl (by decide) hs265
    have hs298 := tf_keepF hF294 hax rfl rfl (by decide) hs266
    have hs299 := tf_keepF hF294 hax rfl rfl (by decide) hs267
    have hs300 := tf_keepF hF294 hax rfl rfl (by decide) hs268
    have hs301 := tf_keepF hF294 hax rfl rfl (by decide) hs269
    have hs302 := tf_keepF hF294 hsq rfl rfl (by decide) hs270
    have hs303 := tf_keepF hF294 hsq rfl rfl (by decide) hs271
    have hs304 := tf_keepF hF294 hsq rfl rfl (by decide) hs272
    have hs305 := tf_keepF hF294 hsq rfl rfl (by decide) hs273
    have hs306 := tf_keepC hF294 hlp rfl (by decide) hs274
    have hs307 := tf_keepC hF294 hlh rfl (by decide) hs275
    have hs308 := tf_keepC hF294 hyr rfl (by decide) hs276
    have hs309 := tf_keepC hF294 hwh rfl (by decide) hs277
    have hs310 := tf_keepC hF294 hta rfl (by decide) hs278
    have hs311 := tf_keepC hF294 hdh rfl (by decide) hs279
    have hs312 := tf_keepF hF294 ham rfl rfl (by decide) hs280
    have hs313 := tf_keepF hF294 ham rfl rfl (by decide) hs281
    have hs314 := tf_keepF hF294 ham rfl rfl (by decide) hs282
    have hs315 := tf_keepF hF294 ham rfl rfl (by decide) hs283
    have hs316 := tf_keepF hF294 ham rfl rfl (by decide) hs284
    have hs317 := tf_keepF hF294 ham rfl rfl (by decide) hs285
    have hs318 := tf_keepF hF294 ham rfl rfl (by decide) hs286
    have hs319 := tf_keepF hF294 ham rfl rfl (by decide) hs287
    have hs320 := tf_keepC hF294 hiz rfl (by decide) hs289
    have hs321 := tf_keepC hF294 hkp rfl (by decide) hs290
    have hs322 := tf_keepC hF294 htm rfl (by decide) hs291
    have hs323 := tf_keepC hF294 hdw rfl (by decide) hs292
    have hI0 := tf_IS1_keep hF294 him (by decide) (by decide) hI0
    have hI1 := tf_IS2_keep hF294 him (by decide) (by decide) hI1
    obtain ⟨hp294_0, hp294_1, hp294_2⟩ := hp294
    obtain ⟨r1_294, hX294_0, hR294_0⟩ := hp294_2
    obtain ⟨hzm, hr1⟩ : z294 = -1 ∧ r1_294 = rr := by
      rcases hR294_0 with ⟨-, a, b⟩ | ⟨a, -⟩ | ⟨a, -⟩
      · exact ⟨a, b⟩
      · omega
      · omega
    have hRL := tf_RL_to (rr1 := r1_294) hRL (fun _ _ _ => by rw [hr1])
    refine lv_pop hx hb dL_law_1458 rfl ?_
    refine lv_goto (tgt := 1498) hx hb dL_law_1459 (by decide) ?_
    refine W.widen (k := 130 + 30 * jj) (n := 31200 + 1200 * jj) (by omega) (by omega) ?_
    exact hnx _ _ _ hW hax ham ⟨sq, im, ta, dh, lp, lh, yr, wh, ro, iz, kp, tm, dw, (tt), (uu), (dd), gl, gh, gy, gw, tp, gd, r1_294, qq, rk, tq, gm, hsq, him, hta, hdh, hlp, hlh, hyr, hwh, hro, hiz, hkp, htm, hdw, ⟨by omega, by omega⟩, ⟨by omega, by omega⟩, ⟨by omega, by omega⟩, hs295, hs296, hs297, hs298, hs299, hs300, hs301, hs302, hs303, hs304, hs305, hs306, hs307, hs308, hs309, hs310, hs311, hs312, hs313, hs314, tf_eqv hs315 (by omega), hs316, tf_eqv hs317 (by omega), hs318, tf_eqv hs319 (by omega), hX294_0, hs320, hs321, hs322, hs323, hRL, hDD, hTP, hI0, hI1⟩ _ (lv_sub hl [0, 1, 2, 3] rfl)

set_option maxHeartbeats 4000000 in
set_option maxRecDepth 100000 in
theorem lc_1462 {p : Program} {l : Launch} {e : Env} {s : State} {m : MethodId} {below : List Frame} {meth : Method} {c : Code} {b L : Nat} {g : tf_G} {sx : Int → Int} {Q : State → Prop} (E : lw_E p s m c b L g sx) (ax am jj : Nat) (ii : Int) (hii : ii = 6 * (jj : Int)) (hij : ii + 6 ≤ (L : Int)) (hnx : lw_nx p l e s m below meth c b g ax am jj ii Q) (T : tf_T) (H : Heap) (locs : List Loc) (hW : tf_n tf_kt g M_law (fun _ => none) s.heap T H locs) (hax : T ax = some (39, 0)) (ham : T am = some (63, 0)) (hI : lw_I g T H ax am) (ls : Array Slot) (hl : lv_has ls 4 [(3, .int (Int32.ofInt ii)), (2, .ref am), (1, .ref ax), (0, .ref b)]) : W p l e room_1 s m #[Value.ref b] below meth c H locs (100 + 30 * jj) (30000 + 1200 * jj) Q (F0 m 1462 ls []) := by
  obtain ⟨hx, hb, hml, hown, hts, hbl, hk, hBs, hsx, hX, hL⟩ := id E
  have hR1 := lw_R1
  have hR2 := lw_R2
  have hR3 := lw_R3
  have hR4 := lw_R4
  have hK := hk.1
  have hE : tf_E g T := trivial
  obtain ⟨sq, im, ta, dh, lp, lh, yr, wh, ro, iz, kp, tm, dw, tt, uu, dd, gl, gh, gy, gw, tp, gd, rr, qq, rk, tq, gm, hsq, him, hta, hdh, hlp, hlh, hyr, hwh, hro, hiz, hkp, htm, hdw, htt, huu, hdd, hf0, hf1, hf2, hf3, hf4, hf5, hf6, hf7, hf8, hf9, hf10, hf11, hf12, hf13, hf14, hf15, hf16, hf17, hf18, hf19, hf20, hf21, hf22, hf23, hf24, hf25, hf26, hf27, hf28, hf29, hRL, hDD, hTP, hI0, hI1⟩ := hI
  have hWS : tf_WS gy gw := hRL.2.2
  refine lv_aload_n hx hb dL_law_1462 rfl (lv_at hl 2 rfl) ?_
  refine lv_aload_n hx hb dL_law_1463 rfl (lv_at hl 3 rfl) ?_
  refine lv_iload_n hx hb dL_law_1464 rfl (lv_at hl 0 rfl) ?_
  refine tf_iconst hx hb dL_law_1465 ?_
  refine tf_iadd hx hb dL_law_1466 ?_
  refine lw_sld (sx := sx) hx hb hX hbl hBs hL hW (by omega) (by omega) dL_law_1467 ?_
  have hsx1 := hsx (ii + 1)
  refine tf_calli (va_runV (As := [.int (Int32.ofInt ((sx (ii + 1))))]) (rest := []) ⟨hx, hb, hml, hown, hts⟩ (c_X9_count l g T ax hax ((sx (ii + 1))) ⟨by omega, by omega⟩ sq hsq yr hyr wh hwh gy gw (by first | omega | assumption)) (cwV 1 hts gv_L_172 rfl rfl rfl hd_X9_count ⟨Nat.le_trans (by decide) hR1, Nat.le_trans (by decide) hR2⟩) (tf_preV hk hW hax (ci := 9) rfl rfl ⟨hf0, hf9, hf10, hf13, hf14⟩) rfl rfl hl.1 rfl (lv_room (Nat.le_of_ble_eq_true rfl)) dL_law_1468 ⟨Nat.le_trans (by omega) hR3, Nat.le_trans (by omega) hR4⟩) hW (by decide) (fun z2 H2 locs2 hW hF2 hp2 => ?_)
  have hs3 := tf_keepF hF2 hax rfl rfl (by decide) hf0
  have hs4 := tf_keepF hF2 hax rfl rfl (by decide) hf1
  have hs5 := tf_keepF hF2 hax rfl rfl (by decide) hf2
  have hs6 := tf_keepF hF2 hax rfl rfl (by decide) hf3
  have hs7 := tf_keepF hF2 hax rfl rfl (by decide) hf4
  have hs8 := tf_keepF hF2 hax rfl rfl (by decide) hf5
  have hs9 := tf_keepF hF2 hax rfl rfl (by decide) hf6
  have hs10 := tf_keepF hF2 hsq rfl rfl (by decide) hf7
  have hs11 := tf_keepF hF2 hsq rfl rfl (by decide) hf8
  have hs12 := tf_keepF hF2 hsq rfl rfl (by decide) hf9
  have hs13 := tf_keepF hF2 hsq rfl rfl (by decide) hf10
  have hs14 := tf_keepC hF2 hlp rfl (by decide) hf11
  have hs15 := tf_keepC hF2 hlh rfl (by decide) hf12
  have hs16 := tf_keepC hF2 hyr rfl (by decide) hf13
  have hs17 := tf_keepC hF2 hwh rfl (by decide) hf14
  have hs18 := tf_keepC hF2 hta rfl (by decide) hf15
  have hs19 := tf_keepC hF2 hdh rfl (by decide) hf16
  have hs20 := tf_keepF hF2 ham rfl rfl (by decide) hf17
  have hs21 := tf_keepF hF2 ham rfl rfl (by decide) hf18
  have hs22 := tf_keepF hF2 ham rfl rfl (by decide) hf19
  have hs23 := tf_keepF hF2 ham rfl rfl (by decide) hf20
  have hs24 := tf_keepF hF2 ham rfl rfl (by decide) hf21
  have hs25 := tf_keepF hF2 ham rfl rfl (by decide) hf22
  have hs26 := tf_keepF hF2 ham rfl rfl (by decide) hf23
  have hs27 := tf_keepF hF2 ham rfl rfl (by decide) hf24
  have hs28 := tf_keepC hF2 hro rfl (by decide) hf25
  have hs29 := tf_keepC hF2 hiz rfl (by decide) hf26
  have hs30 := tf_keepC hF2 hkp rfl (by decide) hf27
  have hs31 := tf_keepC hF2 htm rfl (by decide) hf28
  have hs32 := tf_keepC hF2 hdw rfl (by decide) hf29
  have hI0 := tf_IS1_keep hF2 him (by decide) (by decide) hI0
  have hI1 := tf_IS2_keep hF2 him (by decide) (by decide) hI1
  obtain ⟨hp2_0, hp2_1⟩ := hp2
  refine lv_pop hx hb dL_law_1471 rfl ?_
  refine lv_aload_n hx hb dL_law_1472 rfl (lv_at hl 1 rfl) ?_
  refine lv_aload_n hx hb dL_law_1473 rfl (lv_at hl 3 rfl) ?_
  refine lv_iload_n hx hb dL_law_1474 rfl (lv_at hl 0 rfl) ?_
  refine tf_iconst hx hb dL_law_1475 ?_
  refine tf_iadd hx hb dL_law_1476 ?_
  refine lw_sld (sx := sx) hx hb hX hbl hBs hL hW (by omega) (by omega) dL_law_1477 ?_
  have hsx33 := hsx (ii + 1)
  refine tf_calli (va_runV (As := [.int (Int32.ofInt ((sx (ii + 1))))]) (rest := []) ⟨hx, hb, hml, hown, hts⟩ (c_X10_count l g T am ham ((sx (ii + 1))) ⟨by omega, by omega⟩) (cwV 1 hts gv_L_175 rfl rfl rfl hd_X10_count ⟨Nat.le_trans (by decide) hR1, Nat.le_trans (by decide) hR2⟩) (tf_preV hk hW ham (ci := 10) rfl rfl trivial) rfl rfl hl.1 rfl (lv_room (Nat.le_of_ble_eq_true rfl)) dL_law_1478 ⟨Nat.le_trans (by omega) hR3, Nat.le_trans (by omega) hR4⟩) hW (by decide) (fun z34 H34 locs34 hW hF34 hp34 => ?_)
  have hs35 := tf_keepF hF34 hax rfl rfl (by decide) hs3
  have hs36 := tf_keepF hF34 hax rfl rfl (by decide) hs4
  have hs37 := tf_keepF hF34 hax rfl rfl (by decide) hs5
  have hs38 := tf_keepF hF34 hax rfl rfl (by decide) hs6
  have hs39 := tf_keepF hF34 hax rfl rfl (by decide) hs7
  have hs40 := tf_keepF hF34 hax rfl rfl (by decide) hs8
  have hs41 := tf_keepF hF34 hax rfl rfl (by decide) hs9
  have hs42 := tf_keepF hF34 hsq rfl rfl (by decide) hs10
  have hs43 := tf_keepF hF34 hsq rfl rfl (by decide) hs11
  have hs44 := tf_keepF hF34 hsq rfl rfl (by decide) hs12
  have hs45 := tf_keepF hF34 hsq rfl rfl (by decide) hs13
  have hs46 := tf_keepC hF34 hlp rfl (by decide) hs14
  have hs47 := tf_keepC hF34 hlh rfl (by decide) hs15
  have hs48 := tf_keepC hF34 hyr rfl (by decide) hs16
  have hs49 := tf_keepC hF34 hwh rfl (by decide) hs17
  have hs50 := tf_keepC hF34 hta rfl (by decide) hs18
  have hs51 := tf_keepC hF34 hdh rfl (by decide) hs19
  have hs52 := tf_keepF hF34 ham rfl rfl (by decide) hs20
  have hs53 := tf_keepF hF34 ham rfl rfl (by decide) hs21
  have hs54 := tf_keepF hF34 ham rfl rfl (by decide) hs22
  have hs55 := tf_keepF hF34 ham rfl rfl (by decide) hs23
  have hs56 := tf_keepF hF34 ham rfl rfl (by decide) hs24
  have hs57 := tf_keepF hF34 ham rfl rfl (by decide) hs25
  have hs58 := tf_keepF hF34 ham rfl rfl (by decide) hs26
  have hs59 := tf_keepF hF34 ham rfl rfl (by decide) hs27
  have hs60 := tf_keepC hF34 hro rfl (by decide) hs28
  have hs61 := tf_keepC hF34 hiz rfl (by decide) hs29
  have hs62 := tf_keepC hF34 hkp rfl (by decide) hs30
  have hs63 := tf_keepC hF34 htm rfl (by decide) hs31
  have hs64 := tf_keepC hF34 hdw rfl (by decide) hs32
  have hI0 := tf_IS1_keep hF34 him (by decide) (by decide) hI0
  have hI1 := tf_IS2_keep hF34 him (by decide) (by decide) hI1
  obtain ⟨hp34_0, hp34_1⟩ := hp34
  refine lv_pop hx hb dL_law_1481 rfl ?_
  refine lv_goto (tgt := 1498) hx hb dL_law_1482 (by decide) ?_
  refine W.widen (k := 130 + 30 * jj) (n := 31200 + 1200 * jj) (by omega) (by omega) ?_
  exact hnx _ _ _ hW hax ham ⟨sq, im, ta, dh, lp, lh, yr, wh, ro, iz, kp, tm, dw, (tt), (uu), (dd), gl, gh, gy, gw, tp, gd, rr, qq, rk, tq, gm, hsq, him, hta, hdh, hlp, hlh, hyr, hwh, hro, hiz, hkp, htm, hdw, ⟨by omega, by omega⟩, ⟨by omega, by omega⟩, ⟨by omega, by omega⟩, hs35, hs36, hs37, hs38, hs39, hs40, hs41, hs42, hs43, hs44, hs45, hs46, hs47, hs48, hs49, hs50, hs51, hs52, hs53, hs54, tf_eqv hs55 (by omega), hs56, tf_eqv hs57 (by omega), hs58, tf_eqv hs59 (by omega), hs60, hs61, hs62, hs63, hs64, hRL, hDD, hTP, hI0, hI1⟩ _ (lv_sub hl [0, 1, 2, 3] rfl)

set_option maxHeartbeats 4000000 in
set_option maxRecDepth 100000 in
theorem lc_1485 {p : Program} {l : Launch} {e : Env} {s : State} {m : MethodId} {below : List Frame} {meth : Method} {c : Code} {b L : Nat} {g : tf_G} {sx : Int → Int} {Q : State → Prop} (E : lw_E p s m c b L g sx) (ax am jj : Nat) (ii : Int) (hii : ii = 6 * (jj : Int)) (hij : ii + 6 ≤ (L : Int)) (hnx : lw_nx p l e s m below meth c b g ax am jj ii Q) (T : tf_T) (H : Heap) (locs : List Loc) (hW : tf_n tf_kt g M_law (fun _ => none) s.heap T H locs) (hax : T ax = some (39, 0)) (ham : T am = some (63, 0)) (hI : lw_I g T H ax am) (ls : Array Slot) (hl : lv_has ls 4 [(3, .int (Int32.ofInt ii)), (2, .ref am), (1, .ref ax), (0, .ref b)]) : W p l e room_1 s m #[Value.ref b] below meth c H locs (100 + 30 * jj) (30000 + 1200 * jj) Q (F0 m 1485 ls []) := by
  obtain ⟨hx, hb, hml, hown, hts, hbl, hk, hBs, hsx, hX, hL⟩ := id E
  have hR1 := lw_R1
  have hR2 := lw_R2
  have hR3 := lw_R3
  have hR4 := lw_R4
  have hK := hk.1
  have hE : tf_E g T := trivial
  obtain ⟨sq, im, ta, dh, lp, lh, yr, wh, ro, iz, kp, tm, dw, tt, uu, dd, gl, gh, gy, gw, tp, gd, rr, qq, rk, tq, gm, hsq, him, hta, hdh, hlp, hlh, hyr, hwh, hro, hiz, hkp, htm, hdw, htt, huu, hdd, hf0, hf1, hf2, hf3, hf4, hf5, hf6, hf7, hf8, hf9, hf10, hf11, hf12, hf13, hf14, hf15, hf16, hf17, hf18, hf19, hf20, hf21, hf22, hf23, hf24, hf25, hf26, hf27, hf28, hf29, hRL, hDD, hTP, hI0, hI1⟩ := hI
  have hWS : tf_WS gy gw := hRL.2.2
  refine lv_aload_n hx hb dL_law_1485 rfl (lv_at hl 2 rfl) ?_
  refine tf_calli (va_runV (As := []) (rest := []) ⟨hx, hb, hml, hown, hts⟩ (c_X9_status l g T ax hax) (cwV 0 hts gv_L_176 rfl rfl rfl hd_X9_status ⟨Nat.le_trans (by decide) hR1, Nat.le_trans (by decide) hR2⟩) (tf_preV hk hW hax (ci := 9) rfl rfl trivial) rfl rfl hl.1 rfl (lv_room (Nat.le_of_ble_eq_true rfl)) dL_law_1486 ⟨Nat.le_trans (by omega) hR3, Nat.le_trans (by omega) hR4⟩) hW (by decide) (fun z1 H1 locs1 hW hF1 hp1 => ?_)
  have hs2 := tf_keepF hF1 hax rfl rfl (by decide) hf0
  have hs3 := tf_keepF hF1 hax rfl rfl (by decide) hf1
  have hs4 := tf_keepF hF1 hax rfl rfl (by decide) hf2
  have hs5 := tf_keepF hF1 hax rfl rfl (by decide) hf3
  have hs6 := tf_keepF hF1 hax rfl rfl (by decide) hf4
  have hs7 := tf_keepF hF1 hax rfl rfl (by decide) hf5
  have hs8 := tf_keepF hF1 hax rfl rfl (by decide) hf6
  have hs9 := tf_keepF hF1 hsq rfl rfl (by decide) hf7
  have hs10 := tf_keepF hF1 hsq rfl rfl (by decide) hf8
  have hs11 := tf_keepF hF1 hsq rfl rfl (by decide) hf9
  have hs12 := tf_keepF hF1 hsq rfl rfl (by decide) hf10
  have hs13 := tf_keepC hF1 hlp rfl (by decide) hf11
  have hs14 := tf_keepC hF1 hlh rfl (by decide) hf12
  have hs15 := tf_keepC hF1 hyr rfl (by decide) hf13
  have hs16 := tf_keepC hF1 hwh rfl (by decide) hf14
  have hs17 := tf_keepC hF1 hta rfl (by decide) hf15
  have hs18 := tf_keepC hF1 hdh rfl (by decide) hf16
  have hs19 := tf_keepF hF1 ham rfl rfl (by decide) hf17
  have hs20 := tf_keepF hF1 ham rfl rfl (by decide) hf18
  have hs21 := tf_keepF hF1 ham rfl rfl (by decide) hf19
  have hs22 := tf_keepF hF1 ham rfl rfl (by decide) hf20
  have hs23 := tf_keepF hF1 ham rfl rfl (by decide) hf21
  have hs24 := tf_keepF hF1 ham rfl rfl (by decide) hf22
  have hs25 := tf_keepF hF1 ham rfl rfl (by decide) hf23
  have hs26 := tf_keepF hF1 ham rfl rfl (by decide) hf24
  have hs27 := tf_keepC hF1 hro rfl (by decide) hf25
  have hs28 := tf_keepC hF1 hiz rfl (by decide) hf26
  have hs29 := tf_keepC hF1 hkp rfl (by decide) hf27
  have hs30 := tf_keepC hF1 htm rfl (by decide) hf28
  have hs31 := tf_keepC hF1 hdw rfl (by decide) hf29
  have hI0 := tf_IS1_keep hF1 him (by decide) (by decide) hI0
  have hI1 := tf_IS2_keep hF1 him (by decide) (by decide) hI1
  obtain ⟨hp1_0, hp1_1⟩ := hp1
  refine lv_pop hx hb dL_law_1489 rfl ?_
  refine lv_aload_n hx hb dL_law_1490 rfl (lv_at hl 1 rfl) ?_
  refine tf_calli (va_runV (As := []) (rest := []) ⟨hx, hb, hml, hown, hts⟩ (c_X10_status l g T am ham) (cwV 0 hts gv_L_179 rfl rfl rfl hd_X10_status ⟨Nat.le_trans (by decide) hR1, Nat.le_trans (by decide) hR2⟩) (tf_preV hk hW ham (ci := 10) rfl rfl trivial) rfl rfl hl.1 rfl (lv_room (Nat.le_of_ble_eq_true rfl)) dL_law_1491 ⟨Nat.le_trans (by omega) hR3, Nat.le_trans (by omega) hR4⟩) hW (by decide) (fun z32 H32 locs32 hW hF32 hp32 => ?_)
  have hs33 := tf_keepF hF32 hax rfl rfl (by decide) hs2
  have hs34 := tf_keepF hF32 hax rfl rfl (by decide) hs3
  have hs35 := tf_keepF hF32 hax rfl rfl (by decide) hs4
  have hs36 := tf_keepF hF32 hax rfl rfl (by decide) hs5
  have hs37 := tf_keepF hF32 hax rfl rfl (by decide) hs6
  have hs38 := tf_keepF hF32 hax rfl rfl (by decide) hs7
  have hs39 := tf_keepF hF32 hax rfl rfl (by decide) hs8
  have hs40 := tf_keepF hF32 hsq rfl rfl (by decide) hs9
  have hs41 := tf_keepF hF32 hsq rfl rfl (by decide) hs10
  have hs42 := tf_keepF hF32 hsq rfl rfl (by decide) hs11
  have hs43 := tf_keepF hF32 hsq rfl rfl (by decide) hs12
  have hs44 := tf_keepC hF32 hlp rfl (by decide) hs13
  have hs45 := tf_keepC hF32 hlh rfl (by decide) hs14
  have hs46 := tf_keepC hF32 hyr rfl (by decide) hs15
  have hs47 := tf_keepC hF32 hwh rfl (by decide) hs16
  have hs48 := tf_keepC hF32 hta rfl (by decide) hs17
  have hs49 := tf_keepC hF32 hdh rfl (by decide) hs18
  have hs50 := tf_keepF hF32 ham rfl rfl (by decide) hs19
  have hs51 := tf_keepF hF32 ham rfl rfl (by decide) hs20
  have hs52 := tf_keepF hF32 ham rfl rfl (by decide) hs21
  have hs53 := tf_keepF hF32 ham rfl rfl (by decide) hs22
  have hs54 := tf_keepF hF32 ham rfl rfl (by decide) hs23
  have hs55 := tf_keepF hF32 ham rfl rfl (by decide) hs24
  have hs56 := tf_keepF hF32 ham rfl rfl (by decide) hs25
  have hs57 := tf_keepF hF32 ham rfl rfl (by decide) hs26
  have hs58 := tf_keepC hF32 hro rfl (by decide) hs27
  have hs59 := tf_keepC hF32 hiz rfl (by decide) hs28
  have hs60 := tf_keepC hF32 hkp rfl (by decide) hs29
  have hs61 := tf_keepC hF32 htm rfl (by decide) hs30
  have hs62 := tf_keepC hF32 hdw rfl (by decide) hs31
  have hI0 := tf_IS1_keep hF32 him (by decide) (by decide) hI0
  have hI1 := tf_IS2_keep hF32 him (by decide) (by decide) hI1
  obtain ⟨hp32_0, hp32_1⟩ := hp32
  refine lv_pop hx hb dL_law_1494 rfl ?_
  refine lv_goto (tgt := 1498) hx hb dL_law_1495 (by decide) ?_
  refine W.widen (k := 130 + 30 * jj) (n := 31200 + 1200 * jj) (by omega) (by omega) ?_
  exact hnx _ _ _ hW hax ham ⟨sq, im, ta, dh, lp, lh, yr, wh, ro, iz, kp, tm, dw, (tt), (uu), (dd), gl, gh, gy, gw, tp, gd, rr, qq, rk, tq, gm, hsq, him, hta, hdh, hlp, hlh, hyr, hwh, hro, hiz, hkp, htm, hdw, ⟨by omega, by omega⟩, ⟨by omega, by omega⟩, ⟨by omega, by omega⟩, hs33, hs34, hs35, hs36, hs37, hs38, hs39, hs40, hs41, hs42, hs43, hs44, hs45, hs46, hs47, hs48, hs49, hs50, hs51, hs52, tf_eqv hs53 (by omega), hs54, tf_eqv hs55 (by omega), hs56, tf_eqv hs57 (by omega), hs58, hs59, hs60, hs61, hs62, hRL, hDD, hTP, hI0, hI1⟩ _ (lv_sub hl [0, 1, 2, 3] rfl)

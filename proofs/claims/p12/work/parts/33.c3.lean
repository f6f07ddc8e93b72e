set_option maxHeartbeats 4000000 in
set_option maxRecDepth 100000 in
theorem lc_1208 {p : Program} {l : Launch} {e : Env} {s : State} {m : MethodId} {below : List Frame} {meth : Method} {c : Code} {b L : Nat} {g : tf_G} {sx : Int → Int} {Q : State → Prop} (E : lw_E p s m c b L g sx) (ax am im kp jj : Nat) (ii : Int) (hii : ii = 6 * (jj : Int)) (hij : ii + 6 ≤ (L : Int)) (hnx : lw_nx p l e s m below meth c b g ax am im kp jj ii Q) (T : tf_T) (H : Heap) (locs : List Loc) (hW : tf_n tf_kt g M_law (fun _ => none) s.heap T H locs) (hax : T ax = some (26, 0)) (ham : T am = some (50, 0)) (tt uu : Int) (htt : 0 ≤ tt ∧ tt ≤ 400) (huu : tf_r uu) (hf0 : tf_s H ax (g.1.2 9 7) = some (.int (Int32.ofInt tt))) (hf1 : tf_s H ax (g.1.2 9 8) = some (.int (Int32.ofInt uu))) (hf2 : tf_s H am (g.1.2 10 8) = some (.int (Int32.ofInt tt))) (hf3 : tf_s H am (g.1.2 10 6) = some (.int (Int32.ofInt uu))) (him : T im = some (14, 2)) (hkp : T kp = some (30, 2)) (rn rk : Int → Int) (hr0 : rn 0 = rk 0) (hr1 : rn 1 = rk 1) (hf4 : tf_s H ax (g.1.2 9 1) = some (.ref im)) (hf5 : tf_s H am (g.1.2 10 5) = some (.ref kp)) (hf6 : tf_nl H im = rn) (hf7 : tf_rw H kp = rk) (ls : Array Slot) (hl : lv_has ls 4 [(3, .int (Int32.ofInt ii)), (2, .ref am), (1, .ref ax), (0, .ref b)]) : W p l e room_1 s m #[Value.ref b] below meth c H locs (100 + 30 * jj) (30000 + 1200 * jj) Q (F0 m 1208 ls []) := by
  obtain ⟨hx, hb, hml, hown, hts, hbl, hk, hBs, hsx, hX, hL⟩ := id E
  have hR1 := lw_R1
  have hR2 := lw_R2
  have hR3 := lw_R3
  have hR4 := lw_R4
  have hK := hk.1
  have hE : tf_E g T := trivial
  refine lv_aload_n hx hb dL_law_1208 rfl (lv_at hl 2 rfl) ?_
  refine lv_aload_n hx hb dL_law_1209 rfl (lv_at hl 3 rfl) ?_
  refine lv_iload_n hx hb dL_law_1210 rfl (lv_at hl 0 rfl) ?_
  refine tf_iconst hx hb dL_law_1211 ?_
  refine tf_iadd hx hb dL_law_1212 ?_
  refine lw_sld (sx := sx) hx hb hX hbl hBs hL hW (by omega) (by omega) dL_law_1213 ?_
  have hsx1 := hsx (ii + 1)
  refine tf_calli (va_runV (As := [.int (Int32.ofInt ((sx (ii + 1))))]) (rest := []) ⟨hx, hb, hml, hown, hts⟩ (c_X9_place l g T ax hax ((sx (ii + 1))) ⟨by omega, by omega⟩) (cwV 1 hts gv_L_140 rfl rfl rfl hd_X9_place ⟨Nat.le_trans (by decide) hR1, Nat.le_trans (by decide) hR2⟩) (tf_preV hk hW hax (ci := 9) rfl rfl trivial) rfl rfl hl.1 rfl (lv_room (Nat.le_of_ble_eq_true rfl)) dL_law_1214 ⟨Nat.le_trans (by omega) hR3, Nat.le_trans (by omega) hR4⟩) hW (by decide) (fun z2 H2 locs2 hW hF2 hp2 => ?_)
  have hs3 := tf_keepF hF2 hax rfl rfl (by decide) hf0
  have hs4 := tf_keepF hF2 hax rfl rfl (by decide) hf1
  have hs5 := tf_keepF hF2 ham rfl rfl (by decide) hf2
  have hs6 := tf_keepF hF2 ham rfl rfl (by decide) hf3
  have hs7 := tf_keepF hF2 hax rfl rfl (by decide) hf4
  have hs8 := tf_keepF hF2 ham rfl rfl (by decide) hf5
  have hs9 := tf_keepN hF2 him rfl (by decide) hf6
  have hs10 := tf_keepC hF2 hkp rfl (by decide) hf7
  obtain ⟨hp2_0, hp2_1⟩ := hp2
  refine lv_pop hx hb dL_law_1217 rfl ?_
  refine lv_aload_n hx hb dL_law_1218 rfl (lv_at hl 1 rfl) ?_
  refine lv_aload_n hx hb dL_law_1219 rfl (lv_at hl 3 rfl) ?_
  refine lv_iload_n hx hb dL_law_1220 rfl (lv_at hl 0 rfl) ?_
  refine tf_iconst hx hb dL_law_1221 ?_
  refine tf_iadd hx hb dL_law_1222 ?_
  refine lw_sld (sx := sx) hx hb hX hbl hBs hL hW (by omega) (by omega) dL_law_1223 ?_
  have hsx11 := hsx (ii + 1)
  refine tf_calli (va_runV (As := [.int (Int32.ofInt ((sx (ii + 1))))]) (rest := []) ⟨hx, hb, hml, hown, hts⟩ (c_X10_place l g T am ham ((sx (ii + 1))) ⟨by omega, by omega⟩) (cwV 1 hts gv_L_143 rfl rfl rfl hd_X10_place ⟨Nat.le_trans (by decide) hR1, Nat.le_trans (by decide) hR2⟩) (tf_preV hk hW ham (ci := 10) rfl rfl trivial) rfl rfl hl.1 rfl (lv_room (Nat.le_of_ble_eq_true rfl)) dL_law_1224 ⟨Nat.le_trans (by omega) hR3, Nat.le_trans (by omega) hR4⟩) hW (by decide) (fun z12 H12 locs12 hW hF12 hp12 => ?_)
  have hs13 := tf_keepF hF12 hax rfl rfl (by decide) hs3
  have hs14 := tf_keepF hF12 hax rfl rfl (by decide) hs4
  have hs15 := tf_keepF hF12 ham rfl rfl (by decide) hs5
  have hs16 := tf_keepF hF12 ham rfl rfl (by decide) hs6
  have hs17 := tf_keepF hF12 hax rfl rfl (by decide) hs7
  have hs18 := tf_keepF hF12 ham rfl rfl (by decide) hs8
  have hs19 := tf_keepN hF12 him rfl (by decide) hs9
  have hs20 := tf_keepC hF12 hkp rfl (by decide) hs10
  obtain ⟨hp12_0, hp12_1⟩ := hp12
  refine lv_pop hx hb dL_law_1227 rfl ?_
  refine lv_goto (tgt := 1498) hx hb dL_law_1228 (by decide) ?_
  refine W.widen (k := 130 + 30 * jj) (n := 31200 + 1200 * jj) (by omega) (by omega) ?_
  exact hnx _ _ _ hW hax ham (tt) (uu) ⟨by omega, by omega⟩ ⟨by omega, by omega⟩ hs13 hs14 (tf_eqv hs15 (by omega)) (tf_eqv hs16 (by omega)) him hkp rn rk (by omega) (by omega) hs17 hs18 hs19 hs20 _ (lv_sub hl [0, 1, 2, 3] rfl)

set_option maxHeartbeats 4000000 in
set_option maxRecDepth 100000 in
theorem lc_1231 {p : Program} {l : Launch} {e : Env} {s : State} {m : MethodId} {below : List Frame} {meth : Method} {c : Code} {b L : Nat} {g : tf_G} {sx : Int → Int} {Q : State → Prop} (E : lw_E p s m c b L g sx) (ax am im kp jj : Nat) (ii : Int) (hii : ii = 6 * (jj : Int)) (hij : ii + 6 ≤ (L : Int)) (hnx : lw_nx p l e s m below meth c b g ax am im kp jj ii Q) (T : tf_T) (H : Heap) (locs : List Loc) (hW : tf_n tf_kt g M_law (fun _ => none) s.heap T H locs) (hax : T ax = some (26, 0)) (ham : T am = some (50, 0)) (tt uu : Int) (htt : 0 ≤ tt ∧ tt ≤ 400) (huu : tf_r uu) (hf0 : tf_s H ax (g.1.2 9 7) = some (.int (Int32.ofInt tt))) (hf1 : tf_s H ax (g.1.2 9 8) = some (.int (Int32.ofInt uu))) (hf2 : tf_s H am (g.1.2 10 8) = some (.int (Int32.ofInt tt))) (hf3 : tf_s H am (g.1.2 10 6) = some (.int (Int32.ofInt uu))) (him : T im = some (14, 2)) (hkp : T kp = some (30, 2)) (rn rk : Int → Int) (hr0 : rn 0 = rk 0) (hr1 : rn 1 = rk 1) (hf4 : tf_s H ax (g.1.2 9 1) = some (.ref im)) (hf5 : tf_s H am (g.1.2 10 5) = some (.ref kp)) (hf6 : tf_nl H im = rn) (hf7 : tf_rw H kp = rk) (ls : Array Slot) (hl : lv_has ls 4 [(3, .int (Int32.ofInt ii)), (2, .ref am), (1, .ref ax), (0, .ref b)]) : W p l e room_1 s m #[Value.ref b] below meth c H locs (100 + 30 * jj) (30000 + 1200 * jj) Q (F0 m 1231 ls []) := by
  obtain ⟨hx, hb, hml, hown, hts, hbl, hk, hBs, hsx, hX, hL⟩ := id E
  have hR1 := lw_R1
  have hR2 := lw_R2
  have hR3 := lw_R3
  have hR4 := lw_R4
  have hK := hk.1
  have hE : tf_E g T := trivial
  refine lv_aload_n hx hb dL_law_1231 rfl (lv_at hl 2 rfl) ?_
  refine lv_aload_n hx hb dL_law_1232 rfl (lv_at hl 3 rfl) ?_
  refine lv_iload_n hx hb dL_law_1233 rfl (lv_at hl 0 rfl) ?_
  refine tf_iconst hx hb dL_law_1234 ?_
  refine tf_iadd hx hb dL_law_1235 ?_
  refine lw_sld (sx := sx) hx hb hX hbl hBs hL hW (by omega) (by omega) dL_law_1236 ?_
  have hsx1 := hsx (ii + 1)
  refine tf_calli (va_runV (As := [.int (Int32.ofInt ((sx (ii + 1))))]) (rest := []) ⟨hx, hb, hml, hown, hts⟩ (c_X9_glass l g T ax hax ((sx (ii + 1))) ⟨by omega, by omega⟩ hE) (cwV 1 hts gv_L_144 rfl rfl rfl hd_X9_glass ⟨Nat.le_trans (by decide) hR1, Nat.le_trans (by decide) hR2⟩) (tf_preV hk hW hax (ci := 9) rfl rfl trivial) rfl rfl hl.1 rfl (lv_room (Nat.le_of_ble_eq_true rfl)) dL_law_1237 ⟨Nat.le_trans (by omega) hR3, Nat.le_trans (by omega) hR4⟩) hW (by decide) (fun z2 H2 locs2 hW hF2 hp2 => ?_)
  have hs3 := tf_keepF hF2 hax rfl rfl (by decide) hf0
  have hs4 := tf_keepF hF2 hax rfl rfl (by decide) hf1
  have hs5 := tf_keepF hF2 ham rfl rfl (by decide) hf2
  have hs6 := tf_keepF hF2 ham rfl rfl (by decide) hf3
  have hs7 := tf_keepF hF2 hax rfl rfl (by decide) hf4
  have hs8 := tf_keepF hF2 ham rfl rfl (by decide) hf5
  have hs9 := tf_keepN hF2 him rfl (by decide) hf6
  have hs10 := tf_keepC hF2 hkp rfl (by decide) hf7
  obtain ⟨hp2_0, hp2_1⟩ := hp2
  refine lv_pop hx hb dL_law_1240 rfl ?_
  refine lv_aload_n hx hb dL_law_1241 rfl (lv_at hl 1 rfl) ?_
  refine lv_aload_n hx hb dL_law_1242 rfl (lv_at hl 3 rfl) ?_
  refine lv_iload_n hx hb dL_law_1243 rfl (lv_at hl 0 rfl) ?_
  refine tf_iconst hx hb dL_law_1244 ?_
  refine tf_iadd hx hb dL_law_1245 ?_
  refine lw_sld (sx := sx) hx hb hX hbl hBs hL hW (by omega) (by omega) dL_law_1246 ?_
  have hsx11 := hsx (ii + 1)
  refine tf_calli (va_runV (As := [.int (Int32.ofInt ((sx (ii + 1))))]) (rest := []) ⟨hx, hb, hml, hown, hts⟩ (c_X10_glass l g T am ham ((sx (ii + 1))) ⟨by omega, by omega⟩) (cwV 1 hts gv_L_147 rfl rfl rfl hd_X10_glass ⟨Nat.le_trans (by decide) hR1, Nat.le_trans (by decide) hR2⟩) (tf_preV hk hW ham (ci := 10) rfl rfl trivial) rfl rfl hl.1 rfl (lv_room (Nat.le_of_ble_eq_true rfl)) dL_law_1247 ⟨Nat.le_trans (by omega) hR3, Nat.le_trans (by omega) hR4⟩) hW (by decide) (fun z12 H12 locs12 hW hF12 hp12 => ?_)
  have hs13 := tf_keepF hF12 hax rfl rfl (by decide) hs3
  have hs14 := tf_keepF hF12 hax rfl rfl (by decide) hs4
  have hs15 := tf_keepF hF12 ham rfl rfl (by decide) hs5
  have hs16 := tf_keepF hF12 ham rfl rfl (by decide) hs6
  have hs17 := tf_keepF hF12 hax rfl rfl (by decide) hs7
  have hs18 := tf_keepF hF12 ham rfl rfl (by decide) hs8
  have hs19 := tf_keepN hF12 him rfl (by decide) hs9
  have hs20 := tf_keepC hF12 hkp rfl (by decide) hs10
  obtain ⟨hp12_0, hp12_1⟩ := hp12
  refine lv_pop hx hb dL_law_1250 rfl ?_
  refine lv_goto (tgt := 1498) hx hb dL_law_1251 (by decide) ?_
  refine W.widen (k := 130 + 30 * jj) (n := 31200 + 1200 * jj) (by omega) (by omega) ?_
  exact hnx _ _ _ hW hax ham (tt) (uu) ⟨by omega, by omega⟩ ⟨by omega, by omega⟩ hs13 hs14 (tf_eqv hs15 (by omega)) (tf_eqv hs16 (by omega)) him hkp rn rk (by omega) (by omega) hs17 hs18 hs19 hs20 _ (lv_sub hl [0, 1, 2, 3] rfl)

set_option maxHeartbeats 4000000 in
set_option maxRecDepth 100000 in
theorem lc_1254 {p : Program} {l : Launch} {e : Env} {s : State} {m : MethodId} {below : List Frame} {meth : Method} {c : Code} {b L : Nat} {g : tf_G} {sx : Int → Int} {Q : State → Prop} (E : lw_E p s m c b L g sx) (ax am im kp jj : Nat) (ii : Int) (hii : ii = 6 * (jj : Int)) (hij : ii + 6 ≤ (L : Int)) (hnx : lw_nx p l e s m below meth c b g ax am im kp jj ii Q) (T : tf_T) (H : Heap) (locs : List Loc) (hW : tf_n tf_kt g M_law (fun _ => none) s.heap T H locs) (hax : T ax = some (26, 0)) (ham : T am = some (50, 0)) (tt uu : Int) (htt : 0 ≤ tt ∧ tt ≤ 400) (huu : tf_r uu) (hf0 : tf_s H ax (g.1.2 9 7) = some (.int (Int32.ofInt tt))) (hf1 : tf_s H ax (g.1.2 9 8) = some (.int (Int32.ofInt uu))) (hf2 : tf_s H am (g.1.2 10 8) = some (.int (Int32.ofInt tt))) (hf3 : tf_s H am (g.1.2 10 6) = some (.int (Int32.ofInt uu))) (him : T im = some (14, 2)) (hkp : T kp = some (30, 2)) (rn rk : Int → Int) (hr0 : rn 0 = rk 0) (hr1 : rn 1 = rk 1) (hf4 : tf_s H ax (g.1.2 9 1) = some (.ref im)) (hf5 : tf_s H am (g.1.2 10 5) = some (.ref kp)) (hf6 : tf_nl H im = rn) (hf7 : tf_rw H kp = rk) (ls : Array Slot) (hl : lv_has ls 4 [(3, .int (Int32.ofInt ii)), (2, .ref am), (1, .ref ax), (0, .ref b)]) : W p l e room_1 s m #[Value.ref b] below meth c H locs (100 + 30 * jj) (30000 + 1200 * jj) Q (F0 m 1254 ls []) := by
  obtain ⟨hx, hb, hml, hown, hts, hbl, hk, hBs, hsx, hX, hL⟩ := id E
  have hR1 := lw_R1
  have hR2 := lw_R2
  have hR3 := lw_R3
  have hR4 := lw_R4
  have hK := hk.1
  have hE : tf_E g T := trivial
  refine lv_aload_n hx hb dL_law_1254 rfl (lv_at hl 2 rfl) ?_
  refine lv_aload_n hx hb dL_law_1255 rfl (lv_at hl 3 rfl) ?_
  refine lv_iload_n hx hb dL_law_1256 rfl (lv_at hl 0 rfl) ?_
  refine tf_iconst hx hb dL_law_1257 ?_
  refine tf_iadd hx hb dL_law_1258 ?_
  refine lw_sld (sx := sx) hx hb hX hbl hBs hL hW (by omega) (by omega) dL_law_1259 ?_
  have hsx1 := hsx (ii + 1)
  refine lv_aload_n hx hb dL_law_1260 rfl (lv_at hl 3 rfl) ?_
  refine lv_iload_n hx hb dL_law_1261 rfl (lv_at hl 0 rfl) ?_
  refine tf_iconst hx hb dL_law_1262 ?_
  refine tf_iadd hx hb dL_law_1263 ?_
  refine lw_sld (sx := sx) hx hb hX hbl hBs hL hW (by omega) (by omega) dL_law_1264 ?_
  have hsx2 := hsx (ii + 2)
  refine lv_aload_n hx hb dL_law_1265 rfl (lv_at hl 3 rfl) ?_
  refine lv_iload_n hx hb dL_law_1266 rfl (lv_at hl 0 rfl) ?_
  refine tf_iconst hx hb dL_law_1267 ?_
  refine tf_iadd hx hb dL_law_1268 ?_
  refine lw_sld (sx := sx) hx hb hX hbl hBs hL hW (by omega) (by omega) dL_law_1269 ?_
  have hsx3 := hsx (ii + 3)
  refine tf_calli (va_runV (As := [.int (Int32.ofInt ((sx (ii + 1)))), .int (Int32.ofInt ((sx (ii + 2)))), .int (Int32.ofInt ((sx (ii + 3))))]) (rest := []) ⟨hx, hb, hml, hown, hts⟩ (c_X9_salt l g T ax hax ((sx (ii + 1))) ⟨by omega, by omega⟩ ((sx (ii + 2))) ⟨by omega, by omega⟩ ((sx (ii + 3))) ⟨by omega, by omega⟩ hE) (cwV 3 hts gv_L_148 rfl rfl rfl hd_X9_salt ⟨Nat.le_trans (by decide) hR1, Nat.le_trans (by decide) hR2⟩) (tf_preV hk hW hax (ci := 9) rfl rfl trivial) rfl rfl hl.1 rfl (lv_room (Nat.le_of_ble_eq_true rfl)) dL_law_1270 ⟨Nat.le_trans (by omega) hR3, Nat.le_trans (by omega) hR4⟩) hW (by decide) (fun z4 H4 locs4 hW hF4 hp4 => ?_)
  have hs5 := tf_keepF hF4 hax rfl rfl (by decide) hf0
  have hs6 := tf_keepF hF4 hax rfl rfl (by decide) hf1
  have hs7 := tf_keepF hF4 ham rfl rfl (by decide) hf2
  have hs8 := tf_keepF hF4 ham rfl rfl (by decide) hf3
  have hs9 := tf_keepF hF4 hax rfl rfl (by decide) hf4
  have hs10 := tf_keepF hF4 ham rfl rfl (by decide) hf5
  have hs11 := tf_keepN hF4 him rfl (by decide) hf6
  have hs12 := tf_keepC hF4 hkp rfl (by decide) hf7
  obtain ⟨hp4_0, hp4_1⟩ := hp4
  refine lv_pop hx hb dL_law_1273 rfl ?_
  refine lv_aload_n hx hb dL_law_1274 rfl (lv_at hl 1 rfl) ?_
  refine lv_aload_n hx hb dL_law_1275 rfl (lv_at hl 3 rfl) ?_
  refine lv_iload_n hx hb dL_law_1276 rfl (lv_at hl 0 rfl) ?_
  refine tf_iconst hx hb dL_law_1277 ?_
  refine tf_iadd hx hb dL_law_1278 ?_
  refine lw_sld (sx := sx) hx hb hX hbl hBs hL hW (by omega) (by omega) dL_law_1279 ?_
  have hsx13 := hsx (ii + 1)
  refine lv_aload_n hx hb dL_law_1280 rfl (lv_at hl 3 rfl) ?_
  refine lv_iload_n hx hb dL_law_1281 rfl (lv_at hl 0 rfl) ?_
  refine tf_iconst hx hb dL_law_1282 ?_
  refine tf_iadd hx hb dL_law_1283 ?_
  refine lw_sld (sx := sx) hx hb hX hbl hBs hL hW (by omega) (by omega) dL_law_1284 ?_
  have hsx14 := hsx (ii + 2)
  refine lv_aload_n hx hb dL_law_1285 rfl (lv_at hl 3 rfl) ?_
  refine lv_iload_n hx hb dL_law_1286 rfl (lv_at hl 0 rfl) ?_
  refine tf_iconst hx hb dL_law_1287 ?_
  refine tf_iadd hx hb dL_law_1288 ?_
  refine lw_sld (sx := sx) hx hb hX hbl hBs hL hW (by omega) (by omega) dL_law_1289 ?_
  have hsx15 := hsx (ii + 3)
  refine tf_calli (va_runV (As := [.int (Int32.ofInt ((sx (ii + 1)))), .int (Int32.ofInt ((sx (ii + 2)))), .int (Int32.ofInt ((sx (ii + 3))))]) (rest := []) ⟨hx, hb, hml, hown, hts⟩ (c_X10_salt l g T am ham ((sx (ii + 1))) ⟨by omega, by omega⟩ ((sx (ii + 2))) ⟨by omega, by omega⟩ ((sx (ii + 3))) ⟨by omega, by omega⟩) (cwV 3 hts gv_L_151 rfl rfl rfl hd_X10_salt ⟨Nat.le_trans (by decide) hR1, Nat.le_trans (by decide) hR2⟩) (tf_preV hk hW ham (ci := 10) rfl rfl trivial) rfl rfl hl.1 rfl (lv_room (Nat.le_of_ble_eq_true rfl)) dL_law_1290 ⟨Nat.le_trans (by omega) hR3, Nat.le_trans (by omega) hR4⟩) hW (by decide) (fun z16 H16 locs16 hW hF16 hp16 => ?_)
  have hs17 := tf_keepF hF16 hax rfl rfl (by decide) hs5
  have hs18 := tf_keepF hF16 hax rfl rfl (by decide) hs6
  have hs19 := tf_keepF hF16 ham rfl rfl (by decide) hs7
  have hs20 := tf_keepF hF16 ham rfl rfl (by decide) hs8
  have hs21 := tf_keepF hF16 hax rfl rfl (by decide) hs9
  have hs22 := tf_keepF hF16 ham rfl rfl (by decide) hs10
  have hs23 := tf_keepN hF16 him rfl (by decide) hs11
  have hs24 := tf_keepC hF16 hkp rfl (by decide) hs12
  obtain ⟨hp16_0, hp16_1⟩ := hp16
  refine lv_pop hx hb dL_law_1293 rfl ?_
  refine lv_goto (tgt := 1498) hx hb dL_law_1294 (by decide) ?_
  refine W.widen (k := 130 + 30 * jj) (n := 31200 + 1200 * jj) (by omega) (by omega) ?_
  exact hnx _ _ _ hW hax ham (tt) (uu) ⟨by omega, by omega⟩ ⟨by omega, by omega⟩ hs17 hs18 (tf_eqv hs19 (by omega)) (tf_eqv hs20 (by omega)) him hkp rn rk (by omega) (by omega) hs21 hs22 hs23 hs24 _ (lv_sub hl [0, 1, 2, 3] rfl)

set_option maxHeartbeats 4000000 in
set_option maxRecDepth 100000 in
theorem lc_1297 {p : Program} {l : Launch} {e : Env} {s : State} {m : MethodId} {below : List Frame} {meth : Method} {c : Code} {b L : Nat} {g : tf_G} {sx : Int → Int} {Q : State → Prop} (E : lw_E p s m c b L g sx) (ax am im kp jj : Nat) (ii : Int) (hii : ii = 6 * (jj : Int)) (hij : ii + 6 ≤ (L : Int)) (hnx : lw_nx p l e s m below meth c b g ax am im kp jj ii Q) (T : tf_T) (H : Heap) (locs : List Loc) (hW : tf_n tf_kt g M_law (fun _ => none) s.heap T H locs) (hax : T ax = some (26, 0)) (ham : T am = some (50, 0)) (tt uu : Int) (htt : 0 ≤ tt ∧ tt ≤ 400) (huu : tf_r uu) (hf0 : tf_s H ax (g.1.2 9 7) = some (.int (Int32.ofInt tt))) (hf1 : tf_s H ax (g.1.2 9 8) = some (.int (Int32.ofInt uu))) (hf2 : tf_s H am (g.1.2 10 8) = some (.int (Int32.ofInt tt))) (hf3 : tf_s H am (g.1.2 10 6) = some (.int (Int32.ofInt uu))) (him : T im = some (14, 2)) (hkp : T kp = some (30, 2)) (rn rk : Int → Int) (hr0 : rn 0 = rk 0) (hr1 : rn 1 = rk 1) (hf4 : tf_s H ax (g.1.2 9 1) = some (.ref im)) (hf5 : tf_s H am (g.1.2 10 5) = some (.ref kp)) (hf6 : tf_nl H im = rn) (hf7 : tf_rw H kp = rk) (ls : Array Slot) (hl : lv_has ls 4 [(3, .int (Int32.ofInt ii)), (2, .ref am), (1, .ref ax), (0, .ref b)]) : W p l e room_1 s m #[Value.ref b] below meth c H locs (100 + 30 * jj) (30000 + 1200 * jj) Q (F0 m 1297 ls []) := by
  obtain ⟨hx, hb, hml, hown, hts, hbl, hk, hBs, hsx, hX, hL⟩ := id E
  have hR1 := lw_R1
  have hR2 := lw_R2
  have hR3 := lw_R3
  have hR4 := lw_R4
  have hK := hk.1
  have hE : tf_E g T := trivial
  refine lv_aload_n hx hb dL_law_1297 rfl (lv_at hl 2 rfl) ?_
  refine lv_aload_n hx hb dL_law_1298 rfl (lv_at hl 3 rfl) ?_
  refine lv_iload_n hx hb dL_law_1299 rfl (lv_at hl 0 rfl) ?_
  refine tf_iconst hx hb dL_law_1300 ?_
  refine tf_iadd hx hb dL_law_1301 ?_
  refine lw_sld (sx := sx) hx hb hX hbl hBs hL hW (by omega) (by omega) dL_law_1302 ?_
  have hsx1 := hsx (ii + 1)
  refine lv_aload_n hx hb dL_law_1303 rfl (lv_at hl 3 rfl) ?_
  refine lv_iload_n hx hb dL_law_1304 rfl (lv_at hl 0 rfl) ?_
  refine tf_iconst hx hb dL_law_1305 ?_
  refine tf_iadd hx hb dL_law_1306 ?_
  refine lw_sld (sx := sx) hx hb hX hbl hBs hL hW (by omega) (by omega) dL_law_1307 ?_
  have hsx2 := hsx (ii + 2)
  refine lv_aload_n hx hb dL_law_1308 rfl (lv_at hl 3 rfl) ?_
  refine lv_iload_n hx hb dL_law_1309 rfl (lv_at hl 0 rfl) ?_
  refine tf_iconst hx hb dL_law_1310 ?_
  refine tf_iadd hx hb dL_law_1311 ?_
  refine lw_sld (sx := sx) hx hb hX hbl hBs hL hW (by omega) (by omega) dL_law_1312 ?_
  have hsx3 := hsx (ii + 3)
  refine lv_aload_n hx hb dL_law_1313 rfl (lv_at hl 3 rfl) ?_
  refine lv_iload_n hx hb dL_law_1314 rfl (lv_at hl 0 rfl) ?_
  refine tf_iconst hx hb dL_law_1315 ?_
  refine tf_iadd hx hb dL_law_1316 ?_
  refine lw_sld (sx := sx) hx hb hX hbl hBs hL hW (by omega) (by omega) dL_law_1317 ?_
  have hsx4 := hsx (ii + 4)
  refine lv_aload_n hx hb dL_law_1318 rfl (lv_at hl 3 rfl) ?_
  refine lv_iload_n hx hb dL_law_1319 rfl (lv_at hl 0 rfl) ?_
  refine tf_iconst hx hb dL_law_1320 ?_
  refine tf_iadd hx hb dL_law_1321 ?_
  refine lw_sld (sx := sx) hx hb hX hbl hBs hL hW (by omega) (by omega) dL_law_1322 ?_
  have hsx5 := hsx (ii + 5)
  refine tf_calli (va_runV (As := [.int (Int32.ofInt ((sx (ii + 1)))), .int (Int32.ofInt ((sx (ii + 2)))), .int (Int32.ofInt ((sx (ii + 3)))), .int (Int32.ofInt ((sx (ii + 4)))), .int (Int32.ofInt ((sx (ii + 5))))]) (rest := []) ⟨hx, hb, hml, hown, hts⟩ (c_X9_odds l g T ax hax ((sx (ii + 1))) ⟨by omega, by omega⟩ ((sx (ii + 2))) ⟨by omega, by omega⟩ ((sx (ii + 3))) ⟨by omega, by omega⟩ ((sx (ii + 4))) ⟨by omega, by omega⟩ ((sx (ii + 5))) ⟨by omega, by omega⟩ hE) (cwV 5 hts gv_L_152 rfl rfl rfl hd_X9_odds ⟨Nat.le_trans (by decide) hR1, Nat.le_trans (by decide) hR2⟩) (tf_preV hk hW hax (ci := 9) rfl rfl trivial) rfl rfl hl.1 rfl (lv_room (Nat.le_of_ble_eq_true rfl)) dL_law_1323 ⟨Nat.le_trans (by omega) hR3, Nat.le_trans (by omega) hR4⟩) hW (by decide) (fun z6 H6 locs6 hW hF6 hp6 => ?_)
  have hs7 := tf_keepF hF6 hax rfl rfl (by decide) hf0
  have hs8 := tf_keepF hF6 hax rfl rfl (by decide) hf1
  have hs9 := tf_keepF hF6 ham rfl rfl (by decide) hf2
  have hs10 := tf_keepF hF6 ham rfl rfl (by decide) hf3
  have hs11 := tf_keepF hF6 hax rfl rfl (by decide) hf4
  have hs12 := tf_keepF hF6 ham rfl rfl (by decide) hf5
  have hs13 := tf_keepN hF6 him rfl (by decide) hf6
  have hs14 := tf_keepC hF6 hkp rfl (by decide) hf7
  obtain ⟨hp6_0, hp6_1⟩ := hp6
  refine lv_pop hx hb dL_law_1326 rfl ?_
  refine lv_aload_n hx hb dL_law_1327 rfl (lv_at hl 1 rfl) ?_
  refine lv_aload_n hx hb dL_law_1328 rfl (lv_at hl 3 rfl) ?_
  refine lv_iload_n hx hb dL_law_1329 rfl (lv_at hl 0 rfl) ?_
  refine tf_iconst hx hb dL_law_1330 ?_
  refine tf_iadd hx hb dL_law_1331 ?_
  refine lw_sld (sx := sx) hx hb hX hbl hBs hL hW (by omega) (by omega) dL_law_1332 ?_
  have hsx15 := hsx (ii + 1)
  refine lv_aload_n hx hb dL_law_1333 rfl (lv_at hl 3 rfl) ?_
  refine lv_iload_n hx hb dL_law_1334 rfl (lv_at hl 0 rfl) ?_
  refine tf_iconst hx hb dL_law_1335 ?_
  refine tf_iadd hx hb dL_law_1336 ?_
  refine lw_sld (sx := sx) hx hb hX hbl hBs hL hW (by omega) (by omega) dL_law_1337 ?_
  have hsx16 := hsx (ii + 2)
  refine lv_aload_n hx hb dL_law_1338 rfl (lv_at hl 3 rfl) ?_
  refine lv_iload_n hx hb dL_law_1339 rfl (lv_at hl 0 rfl) ?_
  refine tf_iconst hx hb dL_law_1340 ?_
  refine tf_iadd hx hb dL_law_1341 ?_
  refine lw_sld (sx := sx) hx hb hX hbl hBs hL hW (by omega) (by omega) dL_law_1342 ?_
  have hsx17 := hsx (ii + 3)
  refine lv_aload_n hx hb dL_law_1343 rfl (lv_at hl 3 rfl) ?_
  refine lv_iload_n hx hb dL_law_1344 rfl (lv_at hl 0 rfl) ?_
  refine tf_iconst hx hb dL_law_1345 ?_
  refine tf_iadd hx hb dL_law_1346 ?_
  refine lw_sld (sx := sx) hx hb hX hbl hBs hL hW (by omega) (by omega) dL_law_1347 ?_
  have hsx18 := hsx (ii + 4)
  refine lv_aload_n hx hb dL_law_1348 rfl (lv_at hl 3 rfl) ?_
  refine lv_iload_n hx hb dL_law_1349 rfl (lv_at hl 0 rfl) ?_
  refine tf_iconst hx hb dL_law_1350 ?_
  refine tf_iadd hx hb dL_law_1351 ?_
  refine lw_sld (sx := sx) hx hb hX hbl hBs hL hW (by omega) (by omega) dL_law_1352 ?_
  have hsx19 := hsx (ii + 5)
  refine tf_calli (va_runV (As := [.int (Int32.ofInt ((sx (ii + 1)))), .int (Int32.ofInt ((sx (ii + 2)))), .int (Int32.ofInt ((sx (ii + 3)))), .int (Int32.ofInt ((sx (ii + 4)))), .int (Int32.ofInt ((sx (ii + 5))))]) (rest := []) ⟨hx, hb, hml, hown, hts⟩ (c_X10_odds l g T am ham ((sx (ii + 1))) ⟨by omega, by omega⟩ ((sx (ii + 2))) ⟨by omega, by omega⟩ ((sx (ii + 3))) ⟨by omega, by omega⟩ ((sx (ii + 4))) ⟨by omega, by omega⟩ ((sx (ii + 5))) ⟨by omega, by omega⟩) (cwV 5 hts gv_L_155 rfl rfl rfl hd_X10_odds ⟨Nat.le_trans (by decide) hR1, Nat.le_trans (by decide) hR2⟩) (tf_preV hk hW ham (ci := 10) rfl rfl trivial) rfl rfl hl.1 rfl (lv_room (Nat.le_of_ble_eq_true rfl)) dL_law_1353 ⟨Nat.le_trans (by omega) hR3, Nat.le_trans (by omega) hR4⟩) hW (by decide) (fun z20 H20 locs20 hW hF20 hp20 => ?_)
  have hs21 := tf_keepF hF20 hax rfl rfl (by decide) hs7
  have hs22 := tf_keepF hF20 hax rfl rfl (by decide) hs8
  have hs23 := tf_keepF hF20 ham rfl rfl (by decide) hs9
  have hs24 := tf_keepF hF20 ham rfl rfl (by decide) hs10
  have hs25 := tf_keepF hF20 hax rfl rfl (by decide) hs11
  have hs26 := tf_keepF hF20 ham rfl rfl (by decide) hs12
  have hs27 := tf_keepN hF20 him rfl (by decide) hs13
  have hs28 := tf_keepC hF20 hkp rfl (by decide) hs14
  obtain ⟨hp20_0, hp20_1⟩ := hp20
  refine lv_pop hx hb dL_law_1356 rfl ?_
  refine lv_goto (tgt := 1498) hx hb dL_law_1357 (by decide) ?_
  refine W.widen (k := 130 + 30 * jj) (n := 31200 + 1200 * jj) (by omega) (by omega) ?_
  exact hnx _ _ _ hW hax ham (tt) (uu) ⟨by omega, by omega⟩ ⟨by omega, by omega⟩ hs21 hs22 (tf_eqv hs23 (by omega)) (tf_eqv hs24 (by omega)) him hkp rn rk (by omega) (by omega) hs25 hs26 hs27 hs28 _ (lv_sub hl [0, 1, 2, 3] rfl)

set_option maxHeartbeats 4000000 in
set_option maxRecDepth 100000 in
theorem lc_1360 {p : Program} {l : Launch} {e : Env} {s : State} {m : MethodId} {below : List Frame} {meth : Method} {c : Code} {b L : Nat} {g : tf_G} {sx : Int → Int} {Q : State → Prop} (E : lw_E p s m c b L g sx) (ax am im kp jj : Nat) (ii : Int) (hii : ii = 6 * (jj : Int)) (hij : ii + 6 ≤ (L : Int)) (hnx : lw_nx p l e s m below meth c b g ax am im kp jj ii Q) (T : tf_T) (H : Heap) (locs : List Loc) (hW : tf_n tf_kt g M_law (fun _ => none) s.heap T H locs) (hax : T ax = some (26, 0)) (ham : T am = some (50, 0)) (tt uu : Int) (htt : 0 ≤ tt ∧ tt ≤ 400) (huu : tf_r uu) (hf0 : tf_s H ax (g.1.2 9 7) = some (.int (Int32.ofInt tt))) (hf1 : tf_s H ax (g.1.2 9 8) = some (.int (Int32.ofInt uu))) (hf2 : tf_s H am (g.1.2 10 8) = some (.int (Int32.ofInt tt))) (hf3 : tf_s H am (g.1.2 10 6) = some (.int (Int32.ofInt uu))) (him : T im = some (14, 2)) (hkp : T kp = some (30, 2)) (rn rk : Int → Int) (hr0 : rn 0 = rk 0) (hr1 : rn 1 = rk 1) (hf4 : tf_s H ax (g.1.2 9 1) = some (.ref im)) (hf5 : tf_s H am (g.1.2 10 5) = some (.ref kp)) (hf6 : tf_nl H im = rn) (hf7 : tf_rw H kp = rk) (ls : Array Slot) (hl : lv_has ls 4 [(3, .int (Int32.ofInt ii)), (2, .ref am), (1, .ref ax), (0, .ref b)]) : W p l e room_1 s m #[Value.ref b] below meth c H locs (100 + 30 * jj) (30000 + 1200 * jj) Q (F0 m 1360 ls []) := by
  obtain ⟨hx, hb, hml, hown, hts, hbl, hk, hBs, hsx, hX, hL⟩ := id E
  have hR1 := lw_R1
  have hR2 := lw_R2
  have hR3 := lw_R3
  have hR4 := lw_R4
  have hK := hk.1
  have hE : tf_E g T := trivial
  refine lv_aload_n hx hb dL_law_1360 rfl (lv_at hl 2 rfl) ?_
  refine lv_aload_n hx hb dL_law_1361 rfl (lv_at hl 3 rfl) ?_
  refine lv_iload_n hx hb dL_law_1362 rfl (lv_at hl 0 rfl) ?_
  refine tf_iconst hx hb dL_law_1363 ?_
  refine tf_iadd hx hb dL_law_1364 ?_
  refine lw_sld (sx := sx) hx hb hX hbl hBs hL hW (by omega) (by omega) dL_law_1365 ?_
  have hsx1 := hsx (ii + 1)
  refine tf_calli (va_runV (As := [.int (Int32.ofInt ((sx (ii + 1))))]) (rest := []) ⟨hx, hb, hml, hown, hts⟩ (c_X9_day l g T ax hax ((sx (ii + 1))) ⟨by omega, by omega⟩ hE) (cwV 1 hts gv_L_156 rfl rfl rfl hd_X9_day ⟨Nat.le_trans (by decide) hR1, Nat.le_trans (by decide) hR2⟩) (tf_preV hk hW hax (ci := 9) rfl rfl trivial) rfl rfl hl.1 rfl (lv_room (Nat.le_of_ble_eq_true rfl)) dL_law_1366 ⟨Nat.le_trans (by omega) hR3, Nat.le_trans (by omega) hR4⟩) hW (by decide) (fun z2 H2 locs2 hW hF2 hp2 => ?_)
  have hs3 := tf_keepF hF2 hax rfl rfl (by decide) hf0
  have hs4 := tf_keepF hF2 hax rfl rfl (by decide) hf1
  have hs5 := tf_keepF hF2 ham rfl rfl (by decide) hf2
  have hs6 := tf_keepF hF2 ham rfl rfl (by decide) hf3
  have hs7 := tf_keepF hF2 hax rfl rfl (by decide) hf4
  have hs8 := tf_keepF hF2 ham rfl rfl (by decide) hf5
  have hs9 := tf_keepN hF2 him rfl (by decide) hf6
  have hs10 := tf_keepC hF2 hkp rfl (by decide) hf7
  obtain ⟨hp2_0, hp2_1⟩ := hp2
  refine lv_pop hx hb dL_law_1369 rfl ?_
  refine lv_aload_n hx hb dL_law_1370 rfl (lv_at hl 1 rfl) ?_
  refine lv_aload_n hx hb dL_law_1371 rfl (lv_at hl 3 rfl) ?_
  refine lv_iload_n hx hb dL_law_1372 rfl (lv_at hl 0 rfl) ?_
  refine tf_iconst hx hb dL_law_1373 ?_
  refine tf_iadd hx hb dL_law_1374 ?_
  refine lw_sld (sx := sx) hx hb hX hbl hBs hL hW (by omega) (by omega) dL_law_1375 ?_
  have hsx11 := hsx (ii + 1)
  refine tf_calli (va_runV (As := [.int (Int32.ofInt ((sx (ii + 1))))]) (rest := []) ⟨hx, hb, hml, hown, hts⟩ (c_X10_day l g T am ham ((sx (ii + 1))) ⟨by omega, by omega⟩) (cwV 1 hts gv_L_159 rfl rfl rfl hd_X10_day ⟨Nat.le_trans (by decide) hR1, Nat.le_trans (by decide) hR2⟩) (tf_preV hk hW ham (ci := 10) rfl rfl trivial) rfl rfl hl.1 rfl (lv_room (Nat.le_of_ble_eq_true rfl)) dL_law_1376 ⟨Nat.le_trans (by omega) hR3, Nat.le_trans (by omega) hR4⟩) hW (by decide) (fun z12 H12 locs12 hW hF12 hp12 => ?_)
  have hs13 := tf_keepF hF12 hax rfl rfl (by decide) hs3
  have hs14 := tf_keepF hF12 hax rfl rfl (by decide) hs4
  have hs15 := tf_keepF hF12 ham rfl rfl (by decide) hs5
  have hs16 := tf_keepF hF12 ham rfl rfl (by decide) hs6
  have hs17 := tf_keepF hF12 hax rfl rfl (by decide) hs7
  have hs18 := tf_keepF hF12 ham rfl rfl (by decide) hs8
  have hs19 := tf_keepN hF12 him rfl (by decide) hs9
  have hs20 := tf_keepC hF12 hkp rfl (by decide) hs10
  obtain ⟨hp12_0, hp12_1⟩ := hp12
  refine lv_pop hx hb dL_law_1379 rfl ?_
  refine lv_goto (tgt := 1498) hx hb dL_law_1380 (by decide) ?_
  refine W.widen (k := 130 + 30 * jj) (n := 31200 + 1200 * jj) (by omega) (by omega) ?_
  exact hnx _ _ _ hW hax ham (tt) (uu) ⟨by omega, by omega⟩ ⟨by omega, by omega⟩ hs13 hs14 (tf_eqv hs15 (by omega)) (tf_eqv hs16 (by omega)) him hkp rn rk (by omega) (by omega) hs17 hs18 hs19 hs20 _ (lv_sub hl [0, 1, 2, 3] rfl)

set_option maxHeartbeats 4000000 in
set_option maxRecDepth 100000 in
theorem lc_1383 {p : Program} {l : Launch} {e : Env} {s : State} {m : MethodId} {below : List Frame} {meth : Method} {c : Code} {b L : Nat} {g : tf_G} {sx : Int → Int} {Q : State → Prop} (E : lw_E p s m c b L g sx) (ax am im kp jj : Nat) (ii : Int) (hii : ii = 6 * (jj : Int)) (hij : ii + 6 ≤ (L : Int)) (hnx : lw_nx p l e s m below meth c b g ax am im kp jj ii Q) (T : tf_T) (H : Heap) (locs : List Loc) (hW : tf_n tf_kt g M_law (fun _ => none) s.heap T H locs) (hax : T ax = some (26, 0)) (ham : T am = some (50, 0)) (tt uu : Int) (htt : 0 ≤ tt ∧ tt ≤ 400) (huu : tf_r uu) (hf0 : tf_s H ax (g.1.2 9 7) = some (.int (Int32.ofInt tt))) (hf1 : tf_s H ax (g.1.2 9 8) = some (.int (Int32.ofInt uu))) (hf2 : tf_s H am (g.1.2 10 8) = some (.int (Int32.ofInt tt))) (hf3 : tf_s H am (g.1.2 10 6) = some (.int (Int32.ofInt uu))) (him : T im = some (14, 2)) (hkp : T kp = some (30, 2)) (rn rk : Int → Int) (hr0 : rn 0 = rk 0) (hr1 : rn 1 = rk 1) (hf4 : tf_s H ax (g.1.2 9 1) = some (.ref im)) (hf5 : tf_s H am (g.1.2 10 5) = some (.ref kp)) (hf6 : tf_nl H im = rn) (hf7 : tf_rw H kp = rk) (ls : Array Slot) (hl : lv_has ls 4 [(3, .int (Int32.ofInt ii)), (2, .ref am), (1, .ref ax), (0, .ref b)]) : W p l e room_1 s m #[Value.ref b] below meth c H locs (100 + 30 * jj) (30000 + 1200 * jj) Q (F0 m 1383 ls []) := by
  obtain ⟨hx, hb, hml, hown, hts, hbl, hk, hBs, hsx, hX, hL⟩ := id E
  have hR1 := lw_R1
  have hR2 := lw_R2
  have hR3 := lw_R3
  have hR4 := lw_R4
  have hK := hk.1
  have hE : tf_E g T := trivial
  refine lv_aload_n hx hb dL_law_1383 rfl (lv_at hl 2 rfl) ?_
  refine lv_aload_n hx hb dL_law_1384 rfl (lv_at hl 3 rfl) ?_
  refine lv_iload_n hx hb dL_law_1385 rfl (lv_at hl 0 rfl) ?_
  refine tf_iconst hx hb dL_law_1386 ?_
  refine tf_iadd hx hb dL_law_1387 ?_
  refine lw_sld (sx := sx) hx hb hX hbl hBs hL hW (by omega) (by omega) dL_law_1388 ?_
  have hsx1 := hsx (ii + 1)
  refine lv_aload_n hx hb dL_law_1389 rfl (lv_at hl 3 rfl) ?_
  refine lv_iload_n hx hb dL_law_1390 rfl (lv_at hl 0 rfl) ?_
  refine tf_iconst hx hb dL_law_1391 ?_
  refine tf_iadd hx hb dL_law_1392 ?_
  refine lw_sld (sx := sx) hx hb hX hbl hBs hL hW (by omega) (by omega) dL_law_1393 ?_
  have hsx2 := hsx (ii + 2)
  refine tf_calli (va_runV (As := [.int (Int32.ofInt ((sx (ii + 1)))), .int (Int32.ofInt ((sx (ii + 2))))]) (rest := []) ⟨hx, hb, hml, hown, hts⟩ (c_X9_drawn l g T ax hax ((sx (ii + 1))) ⟨by omega, by omega⟩ ((sx (ii + 2))) ⟨by omega, by omega⟩) (cwV 2 hts gv_L_160 rfl rfl rfl hd_X9_drawn ⟨Nat.le_trans (by decide) hR1, Nat.le_trans (by decide) hR2⟩) (tf_preV hk hW hax (ci := 9) rfl rfl trivial) rfl rfl hl.1 rfl (lv_room (Nat.le_of_ble_eq_true rfl)) dL_law_1394 ⟨Nat.le_trans (by omega) hR3, Nat.le_trans (by omega) hR4⟩) hW (by decide) (fun z3 H3 locs3 hW hF3 hp3 => ?_)
  have hs4 := tf_keepF hF3 hax rfl rfl (by decide) hf0
  have hs5 := tf_keepF hF3 hax rfl rfl (by decide) hf1
  have hs6 := tf_keepF hF3 ham rfl rfl (by decide) hf2
  have hs7 := tf_keepF hF3 ham rfl rfl (by decide) hf3
  have hs8 := tf_keepF hF3 hax rfl rfl (by decide) hf4
  have hs9 := tf_keepF hF3 ham rfl rfl (by decide) hf5
  have hs10 := tf_keepN hF3 him rfl (by decide) hf6
  have hs11 := tf_keepC hF3 hkp rfl (by decide) hf7
  obtain ⟨hp3_0, hp3_1⟩ := hp3
  refine lv_pop hx hb dL_law_1397 rfl ?_
  refine lv_aload_n hx hb dL_law_1398 rfl (lv_at hl 1 rfl) ?_
  refine lv_aload_n hx hb dL_law_1399 rfl (lv_at hl 3 rfl) ?_
  refine lv_iload_n hx hb dL_law_1400 rfl (lv_at hl 0 rfl) ?_
  refine tf_iconst hx hb dL_law_1401 ?_
  refine tf_iadd hx hb dL_law_1402 ?_
  refine lw_sld (sx := sx) hx hb hX hbl hBs hL hW (by omega) (by omega) dL_law_1403 ?_
  have hsx12 := hsx (ii + 1)
  refine lv_aload_n hx hb dL_law_1404 rfl (lv_at hl 3 rfl) ?_
  refine lv_iload_n hx hb dL_law_1405 rfl (lv_at hl 0 rfl) ?_
  refine tf_iconst hx hb dL_law_1406 ?_
  refine tf_iadd hx hb dL_law_1407 ?_
  refine lw_sld (sx := sx) hx hb hX hbl hBs hL hW (by omega) (by omega) dL_law_1408 ?_
  have hsx13 := hsx (ii + 2)
  refine tf_calli (va_runV (As := [.int (Int32.ofInt ((sx (ii + 1)))), .int (Int32.ofInt ((sx (ii + 2))))]) (rest := []) ⟨hx, hb, hml, hown, hts⟩ (c_X10_drawn l g T am ham ((sx (ii + 1))) ⟨by omega, by omega⟩ ((sx (ii + 2))) ⟨by omega, by omega⟩) (cwV 2 hts gv_L_163 rfl rfl rfl hd_X10_drawn ⟨Nat.le_trans (by decide) hR1, Nat.le_trans (by decide) hR2⟩) (tf_preV hk hW ham (ci := 10) rfl rfl trivial) rfl rfl hl.1 rfl (lv_room (Nat.le_of_ble_eq_true rfl)) dL_law_1409 ⟨Nat.le_trans (by omega) hR3, Nat.le_trans (by omega) hR4⟩) hW (by decide) (fun z14 H14 locs14 hW hF14 hp14 => ?_)
  have hs15 := tf_keepF hF14 hax rfl rfl (by decide) hs4
  have hs16 := tf_keepF hF14 hax rfl rfl (by decide) hs5
  have hs17 := tf_keepF hF14 ham rfl rfl (by decide) hs6
  have hs18 := tf_keepF hF14 ham rfl rfl (by decide) hs7
  have hs19 := tf_keepF hF14 hax rfl rfl (by decide) hs8
  have hs20 := tf_keepF hF14 ham rfl rfl (by decide) hs9
  have hs21 := tf_keepN hF14 him rfl (by decide) hs10
  have hs22 := tf_keepC hF14 hkp rfl (by decide) hs11
  obtain ⟨hp14_0, hp14_1⟩ := hp14
  refine lv_pop hx hb dL_law_1412 rfl ?_
  refine lv_goto (tgt := 1498) hx hb dL_law_1413 (by decide) ?_
  refine W.widen (k := 130 + 30 * jj) (n := 31200 + 1200 * jj) (by omega) (by omega) ?_
  exact hnx _ _ _ hW hax ham (tt) (uu) ⟨by omega, by omega⟩ ⟨by omega, by omega⟩ hs15 hs16 (tf_eqv hs17 (by omega)) (tf_eqv hs18 (by omega)) him hkp rn rk (by omega) (by omega) hs19 hs20 hs21 hs22 _ (lv_sub hl [0, 1, 2, 3] rfl)

set_option maxHeartbeats 4000000 in
set_option maxRecDepth 100000 in
theorem lc_1416 {p : Program} {l : Launch} {e : Env} {s : State} {m : MethodId} {below : List Frame} {meth : Method} {c : Code} {b L : Nat} {g : tf_G} {sx : Int → Int} {Q : State → Prop} (E : lw_E p s m c b L g sx) (ax am im kp jj : Nat) (ii : Int) (hii : ii = 6 * (jj : Int)) (hij : ii + 6 ≤ (L : Int)) (hnx : lw_nx p l e s m below meth c b g ax am im kp jj ii Q) (T : tf_T) (H : Heap) (locs : List Loc) (hW : tf_n tf_kt g M_law (fun _ => none) s.heap T H locs) (hax : T ax = some (26, 0)) (ham : T am = some (50, 0)) (tt uu : Int) (htt : 0 ≤ tt ∧ tt ≤ 400) (huu : tf_r uu) (hf0 : tf_s H ax (g.1.2 9 7) = some (.int (Int32.ofInt tt))) (hf1 : tf_s H ax (g.1.2 9 8) = some (.int (Int32.ofInt uu))) (hf2 : tf_s H am (g.1.2 10 8) = some (.int (Int32.ofInt tt))) (hf3 : tf_s H am (g.1.2 10 6) = some (.int (Int32.ofInt uu))) (him : T im = some (14, 2)) (hkp : T kp = some (30, 2)) (rn rk : Int → Int) (hr0 : rn 0 = rk 0) (hr1 : rn 1 = rk 1) (hf4 : tf_s H ax (g.1.2 9 1) = some (.ref im)) (hf5 : tf_s H am (g.1.2 10 5) = some (.ref kp)) (hf6 : tf_nl H im = rn) (hf7 : tf_rw H kp = rk) (ls : Array Slot) (hl : lv_has ls 4 [(3, .int (Int32.ofInt ii)), (2, .ref am), (1, .ref ax), (0, .ref b)]) : W p l e room_1 s m #[Value.ref b] below meth c H locs (100 + 30 * jj) (30000 + 1200 * jj) Q (F0 m 1416 ls []) := by
  obtain ⟨hx, hb, hml, hown, hts, hbl, hk, hBs, hsx, hX, hL⟩ := id E
  have hR1 := lw_R1
  have hR2 := lw_R2
  have hR3 := lw_R3
  have hR4 := lw_R4
  have hK := hk.1
  have hE : tf_E g T := trivial
  refine lv_aload_n hx hb dL_law_1416 rfl (lv_at hl 2 rfl) ?_
  refine lv_aload_n hx hb dL_law_1417 rfl (lv_at hl 3 rfl) ?_
  refine lv_iload_n hx hb dL_law_1418 rfl (lv_at hl 0 rfl) ?_
  refine tf_iconst hx hb dL_law_1419 ?_
  refine tf_iadd hx hb dL_law_1420 ?_
  refine lw_sld (sx := sx) hx hb hX hbl hBs hL hW (by omega) (by omega) dL_law_1421 ?_
  have hsx1 := hsx (ii + 1)
  refine tf_callI (va_runV (As := [.int (Int32.ofInt ((sx (ii + 1))))]) (rest := []) ⟨hx, hb, hml, hown, hts⟩ (f_X9_image l g T ax hax ((sx (ii + 1))) ⟨by omega, by omega⟩ im him rn) (cwV 1 hts gv_L_164 rfl rfl rfl hd_X9_image ⟨Nat.le_trans (by decide) hR1, Nat.le_trans (by decide) hR2⟩) (tf_preV hk hW hax (ci := 9) rfl rfl ⟨hf4, hf6⟩) rfl rfl hl.1 rfl (lv_room (Nat.le_of_ble_eq_true rfl)) dL_law_1422 ⟨Nat.le_trans (by omega) hR3, Nat.le_trans (by omega) hR4⟩) hW (by decide) (fun z2 H2 locs2 T hW hE2 hF2 hp2 => ?_)
  have hs3 := tf_keepF hF2 hax rfl rfl (by decide) hf0
  have hs4 := tf_keepF hF2 hax rfl rfl (by decide) hf1
  have hs5 := tf_keepF hF2 ham rfl rfl (by decide) hf2
  have hs6 := tf_keepF hF2 ham rfl rfl (by decide) hf3
  have hs7 := tf_keepF hF2 hax rfl rfl (by decide) hf4
  have hs8 := tf_keepF hF2 ham rfl rfl (by decide) hf5
  have hs9 := tf_keepC hF2 hkp rfl (by decide) hf7
  have ham := hE2 _ _ ham
  have hax := hE2 _ _ hax
  have him := hE2 _ _ him
  have hkp := hE2 _ _ hkp
  have hE := hE.mono hE2
  obtain ⟨hp2_0, hp2_1, hp2_2⟩ := hp2
  obtain ⟨rn1_2, hX2_0, hR2_0⟩ := hp2_2
  refine lv_pop hx hb dL_law_1425 rfl ?_
  refine lv_aload_n hx hb dL_law_1426 rfl (lv_at hl 1 rfl) ?_
  refine lv_aload_n hx hb dL_law_1427 rfl (lv_at hl 3 rfl) ?_
  refine lv_iload_n hx hb dL_law_1428 rfl (lv_at hl 0 rfl) ?_
  refine tf_iconst hx hb dL_law_1429 ?_
  refine tf_iadd hx hb dL_law_1430 ?_
  refine lw_sld (sx := sx) hx hb hX hbl hBs hL hW (by omega) (by omega) dL_law_1431 ?_
  have hsx10 := hsx (ii + 1)
  refine tf_calli (va_runV (As := [.int (Int32.ofInt ((sx (ii + 1))))]) (rest := []) ⟨hx, hb, hml, hown, hts⟩ (f_X10_image l g T am ham ((sx (ii + 1))) ⟨by omega, by omega⟩ kp hkp rk) (cwV 1 hts gv_L_167 rfl rfl rfl hd_X10_image ⟨Nat.le_trans (by decide) hR1, Nat.le_trans (by decide) hR2⟩) (tf_preV hk hW ham (ci := 10) rfl rfl ⟨hs8, hs9⟩) rfl rfl hl.1 rfl (lv_room (Nat.le_of_ble_eq_true rfl)) dL_law_1432 ⟨Nat.le_trans (by omega) hR3, Nat.le_trans (by omega) hR4⟩) hW (by decide) (fun z11 H11 locs11 hW hF11 hp11 => ?_)
  have hs12 := tf_keepF hF11 hax rfl rfl (by decide) hs3
  have hs13 := tf_keepF hF11 hax rfl rfl (by decide) hs4
  have hs14 := tf_keepF hF11 ham rfl rfl (by decide) hs5
  have hs15 := tf_keepF hF11 ham rfl rfl (by decide) hs6
  have hs16 := tf_keepF hF11 hax rfl rfl (by decide) hs7
  have hs17 := tf_keepF hF11 ham rfl rfl (by decide) hs8
  have hs18 := tf_keepN hF11 him rfl (by decide) hX2_0
  obtain ⟨hp11_0, hp11_1, hp11_2⟩ := hp11
  obtain ⟨rk1_11, hX11_0, hR11_0⟩ := hp11_2
  refine lv_pop hx hb dL_law_1435 rfl ?_
  refine lv_goto (tgt := 1498) hx hb dL_law_1436 (by decide) ?_
  refine W.widen (k := 130 + 30 * jj) (n := 31200 + 1200 * jj) (by omega) (by omega) ?_
  exact hnx _ _ _ hW hax ham (tt) (uu) ⟨by omega, by omega⟩ ⟨by omega, by omega⟩ hs12 hs13 (tf_eqv hs14 (by omega)) (tf_eqv hs15 (by omega)) him hkp rn1_2 rk1_11 (by omega) (by omega) hs16 hs17 hs18 hX11_0 _ (lv_sub hl [0, 1, 2, 3] rfl)

set_option maxHeartbeats 4000000 in
set_option maxRecDepth 100000 in
theorem lc_1439 {p : Program} {l : Launch} {e : Env} {s : State} {m : MethodId} {below : List Frame} {meth : Method} {c : Code} {b L : Nat} {g : tf_G} {sx : Int → Int} {Q : State → Prop} (E : lw_E p s m c b L g sx) (ax am im kp jj : Nat) (ii : Int) (hii : ii = 6 * (jj : Int)) (hij : ii + 6 ≤ (L : Int)) (hnx : lw_nx p l e s m below meth c b g ax am im kp jj ii Q) (T : tf_T) (H : Heap) (locs : List Loc) (hW : tf_n tf_kt g M_law (fun _ => none) s.heap T H locs) (hax : T ax = some (26, 0)) (ham : T am = some (50, 0)) (tt uu : Int) (htt : 0 ≤ tt ∧ tt ≤ 400) (huu : tf_r uu) (hf0 : tf_s H ax (g.1.2 9 7) = some (.int (Int32.ofInt tt))) (hf1 : tf_s H ax (g.1.2 9 8) = some (.int (Int32.ofInt uu))) (hf2 : tf_s H am (g.1.2 10 8) = some (.int (Int32.ofInt tt))) (hf3 : tf_s H am (g.1.2 10 6) = some (.int (Int32.ofInt uu))) (him : T im = some (14, 2)) (hkp : T kp = some (30, 2)) (rn rk : Int → Int) (hr0 : rn 0 = rk 0) (hr1 : rn 1 = rk 1) (hf4 : tf_s H ax (g.1.2 9 1) = some (.ref im)) (hf5 : tf_s H am (g.1.2 10 5) = some (.ref kp)) (hf6 : tf_nl H im = rn) (hf7 : tf_rw H kp = rk) (ls : Array Slot) (hl : lv_has ls 4 [(3, .int (Int32.ofInt ii)), (2, .ref am), (1, .ref ax), (0, .ref b)]) : W p l e room_1 s m #[Value.ref b] below meth c H locs (100 + 30 * jj) (30000 + 1200 * jj) Q (F0 m 1439 ls []) := by
  obtain ⟨hx, hb, hml, hown, hts, hbl, hk, hBs, hsx, hX, hL⟩ := id E
  have hR1 := lw_R1
  have hR2 := lw_R2
  have hR3 := lw_R3
  have hR4 := lw_R4
  have hK := hk.1
  have hE : tf_E g T := trivial
  refine lv_aload_n hx hb dL_law_1439 rfl (lv_at hl 2 rfl) ?_
  refine lv_aload_n hx hb dL_law_1440 rfl (lv_at hl 3 rfl) ?_
  refine lv_iload_n hx hb dL_law_1441 rfl (lv_at hl 0 rfl) ?_
  refine tf_iconst hx hb dL_law_1442 ?_
  refine tf_iadd hx hb dL_law_1443 ?_
  refine lw_sld (sx := sx) hx hb hX hbl hBs hL hW (by omega) (by omega) dL_law_1444 ?_
  have hsx1 := hsx (ii + 1)
  refine tf_calli (va_runV (As := [.int (Int32.ofInt ((sx (ii + 1))))]) (rest := []) ⟨hx, hb, hml, hown, hts⟩ (f_X9_back l g T ax hax ((sx (ii + 1))) ⟨by omega, by omega⟩ im him rn) (cwV 1 hts gv_L_168 rfl rfl rfl hd_X9_back ⟨Nat.le_trans (by decide) hR1, Nat.le_trans (by decide) hR2⟩) (tf_preV hk hW hax (ci := 9) rfl rfl ⟨hf4, hf6⟩) rfl rfl hl.1 rfl (lv_room (Nat.le_of_ble_eq_true rfl)) dL_law_1445 ⟨Nat.le_trans (by omega) hR3, Nat.le_trans (by omega) hR4⟩) hW (by decide) (fun z2 H2 locs2 hW hF2 hp2 => ?_)
  have hs3 := tf_keepF hF2 hax rfl rfl (by decide) hf0
  have hs4 := tf_keepF hF2 hax rfl rfl (by decide) hf1
  have hs5 := tf_keepF hF2 ham rfl rfl (by decide) hf2
  have hs6 := tf_keepF hF2 ham rfl rfl (by decide) hf3
  have hs7 := tf_keepF hF2 hax rfl rfl (by decide) hf4
  have hs8 := tf_keepF hF2 ham rfl rfl (by decide) hf5
  have hs9 := tf_keepN hF2 him rfl (by decide) hf6
  have hs10 := tf_keepC hF2 hkp rfl (by decide) hf7
  obtain ⟨hp2_0, hp2_1, hp2_2⟩ := hp2
  refine lv_pop hx hb dL_law_1448 rfl ?_
  refine lv_aload_n hx hb dL_law_1449 rfl (lv_at hl 1 rfl) ?_
  refine lv_aload_n hx hb dL_law_1450 rfl (lv_at hl 3 rfl) ?_
  refine lv_iload_n hx hb dL_law_1451 rfl (lv_at hl 0 rfl) ?_
  refine tf_iconst hx hb dL_law_1452 ?_
  refine tf_iadd hx hb dL_law_1453 ?_
  refine lw_sld (sx := sx) hx hb hX hbl hBs hL hW (by omega) (by omega) dL_law_1454 ?_
  have hsx11 := hsx (ii + 1)
  refine tf_calli (va_runV (As := [.int (Int32.ofInt ((sx (ii + 1))))]) (rest := []) ⟨hx, hb, hml, hown, hts⟩ (f_X10_back l g T am ham ((sx (ii + 1))) ⟨by omega, by omega⟩ kp hkp rk) (cwV 1 hts gv_L_171 rfl rfl rfl hd_X10_back ⟨Nat.le_trans (by decide) hR1, Nat.le_trans (by decide) hR2⟩) (tf_preV hk hW ham (ci := 10) rfl rfl ⟨hs8, hs10⟩) rfl rfl hl.1 rfl (lv_room (Nat.le_of_ble_eq_true rfl)) dL_law_1455 ⟨Nat.le_trans (by omega) hR3, Nat.le_trans (by omega) hR4⟩) hW (by decide) (fun z12 H12 locs12 hW hF12 hp12 => ?_)
  have hs13 := tf_keepF hF12 hax rfl rfl (by decide) hs3
  have hs14 := tf_keepF hF12 hax rfl rfl (by decide) hs4
  have hs15 := tf_keepF hF12 ham rfl rfl (by decide) hs5
  have hs16 := tf_keepF hF12 ham rfl rfl (by decide) hs6
  have hs17 := tf_keepF hF12 hax rfl rfl (by decide) hs7
  have hs18 := tf_keepF hF12 ham rfl rfl (by decide) hs8
  have hs19 := tf_keepN hF12 him rfl (by decide) hs9
  have hs20 := tf_keepC hF12 hkp rfl (by decide) hs10
  obtain ⟨hp12_0, hp12_1, hp12_2⟩ := hp12
  refine lv_pop hx hb dL_law_1458 rfl ?_
  refine lv_goto (tgt := 1498) hx hb dL_law_1459 (by decide) ?_
  refine W.widen (k := 130 + 30 * jj) (n := 31200 + 1200 * jj) (by omega) (by omega) ?_
  exact hnx _ _ _ hW hax ham (tt) (uu) ⟨by omega, by omega⟩ ⟨by omega, by omega⟩ hs13 hs14 (tf_eqv hs15 (by omega)) (tf_eqv hs16 (by omega)) him hkp rn rk (by omega) (by omega) hs17 hs18 hs19 hs20 _ (lv_sub hl [0, 1, 2, 3] rfl)

set_option maxHeartbeats 4000000 in
set_option maxRecDepth 100000 in
theorem lc_1462 {p : Program} {l : Launch} {e : Env} {s : State} {m : MethodId} {below : List Frame} {meth : Method} {c : Code} {b L : Nat} {g : tf_G} {sx : Int → Int} {Q : State → Prop} (E : lw_E p s m c b L g sx) (ax am im kp jj : Nat) (ii : Int) (hii : ii = 6 * (jj : Int)) (hij : ii + 6 ≤ (L : Int)) (hnx : lw_nx p l e s m below meth c b g ax am im kp jj ii Q) (T : tf_T) (H : Heap) (locs : List Loc) (hW : tf_n tf_kt g M_law (fun _ => none) s.heap T H locs) (hax : T ax = some (26, 0)) (ham : T am = some (50, 0)) (tt uu : Int) (htt : 0 ≤ tt ∧ tt ≤ 400) (huu : tf_r uu) (hf0 : tf_s H ax (g.1.2 9 7) = some (.int (Int32.ofInt tt))) (hf1 : tf_s H ax (g.1.2 9 8) = some (.int (Int32.ofInt uu))) (hf2 : tf_s H am (g.1.2 10 8) = some (.int (Int32.ofInt tt))) (hf3 : tf_s H am (g.1.2 10 6) = some (.int (Int32.ofInt uu))) (him : T im = some (14, 2)) (hkp : T kp = some (30, 2)) (rn rk : Int → Int) (hr0 : rn 0 = rk 0) (hr1 : rn 1 = rk 1) (hf4 : tf_s H ax (g.1.2 9 1) = some (.ref im)) (hf5 : tf_s H am (g.1.2 10 5) = some (.ref kp)) (hf6 : tf_nl H im = rn) (hf7 : tf_rw H kp = rk) (ls : Array Slot) (hl : lv_has ls 4 [(3, .int (Int32.ofInt ii)), (2, .ref am), (1, .ref ax), (0, .ref b)]) : W p l e room_1 s m #[Value.ref b] below meth c H locs (100 + 30 * jj) (30000 + 1200 * jj) Q (F0 m 1462 ls []) := by
  obtain ⟨hx, hb, hml, hown, hts, hbl, hk, hBs, hsx, hX, hL⟩ := id E
  have hR1 := lw_R1
  have hR2 := lw_R2
  have hR3 := lw_R3
  have hR4 := lw_R4
  have hK := hk.1
  have hE : tf_E g T := trivial
  refine lv_aload_n hx hb dL_law_1462 rfl (lv_at hl 2 rfl) ?_
  refine lv_aload_n hx hb dL_law_1463 rfl (lv_at hl 3 rfl) ?_
  refine lv_iload_n hx hb dL_law_1464 rfl (lv_at hl 0 rfl) ?_
  refine tf_iconst hx hb dL_law_1465 ?_
  refine tf_iadd hx hb dL_law_1466 ?_
  refine lw_sld (sx := sx) hx hb hX hbl hBs hL hW (by omega) (by omega) dL_law_1467 ?_
  have hsx1 := hsx (ii + 1)
  refine tf_calli (va_runV (As := [.int (Int32.ofInt ((sx (ii + 1))))]) (rest := []) ⟨hx, hb, hml, hown, hts⟩ (c_X9_count l g T ax hax ((sx (ii + 1))) ⟨by omega, by omega⟩) (cwV 1 hts gv_L_172 rfl rfl rfl hd_X9_count ⟨Nat.le_trans (by decide) hR1, Nat.le_trans (by decide) hR2⟩) (tf_preV hk hW hax (ci := 9) rfl rfl trivial) rfl rfl hl.1 rfl (lv_room (Nat.le_of_ble_eq_true rfl)) dL_law_1468 ⟨Nat.le_trans (by omega) hR3, Nat.le_trans (by omega) hR4⟩) hW (by decide) (fun z2 H2 locs2 hW hF2 hp2 => ?_)
  have hs3 := tf_keepF hF2 hax rfl rfl (by decide) hf0
  have hs4 := tf_keepF hF2 hax rfl rfl (by decide) hf1
  have hs5 := tf_keepF hF2 ham rfl rfl (by decide) hf2
  have hs6 := tf_keepF hF2 ham rfl rfl (by decide) hf3
  have hs7 := tf_keepF hF2 hax rfl rfl (by decide) hf4
  have hs8 := tf_keepF hF2 ham rfl rfl (by decide) hf5
  have hs9 := tf_keepN hF2 him rfl (by decide) hf6
  have hs10 := tf_keepC hF2 hkp rfl (by decide) hf7
  obtain ⟨hp2_0, hp2_1⟩ := hp2
  refine lv_pop hx hb dL_law_1471 rfl ?_
  refine lv_aload_n hx hb dL_law_1472 rfl (lv_at hl 1 rfl) ?_
  refine lv_aload_n hx hb dL_law_1473 rfl (lv_at hl 3 rfl) ?_
  refine lv_iload_n hx hb dL_law_1474 rfl (lv_at hl 0 rfl) ?_
  refine tf_iconst hx hb dL_law_1475 ?_
  refine tf_iadd hx hb dL_law_1476 ?_
  refine lw_sld (sx := sx) hx hb hX hbl hBs hL hW (by omega) (by omega) dL_law_1477 ?_
  have hsx11 := hsx (ii + 1)
  refine tf_calli (va_runV (As := [.int (Int32.ofInt ((sx (ii + 1))))]) (rest := []) ⟨hx, hb, hml, hown, hts⟩ (c_X10_count l g T am ham ((sx (ii + 1))) ⟨by omega, by omega⟩) (cwV 1 hts gv_L_175 rfl rfl rfl hd_X10_count ⟨Nat.le_trans (by decide) hR1, Nat.le_trans (by decide) hR2⟩) (tf_preV hk hW ham (ci := 10) rfl rfl trivial) rfl rfl hl.1 rfl (lv_room (Nat.le_of_ble_eq_true rfl)) dL_law_1478 ⟨Nat.le_trans (by omega) hR3, Nat.le_trans (by omega) hR4⟩) hW (by decide) (fun z12 H12 locs12 hW hF12 hp12 => ?_)
  have hs13 := tf_keepF hF12 hax rfl rfl (by decide) hs3
  have hs14 := tf_keepF hF12 hax rfl rfl (by decide) hs4
  have hs15 := tf_keepF hF12 ham rfl rfl (by decide) hs5
  have hs16 := tf_keepF hF12 ham rfl rfl (by decide) hs6
  have hs17 := tf_keepF hF12 hax rfl rfl (by decide) hs7
  have hs18 := tf_keepF hF12 ham rfl rfl (by decide) hs8
  have hs19 := tf_keepN hF12 him rfl (by decide) hs9
  have hs20 := tf_keepC hF12 hkp rfl (by decide) hs10
  obtain ⟨hp12_0, hp12_1⟩ := hp12
  refine lv_pop hx hb dL_law_1481 rfl ?_
  refine lv_goto (tgt := 1498) hx hb dL_law_1482 (by decide) ?_
  refine W.widen (k := 130 + 30 * jj) (n := 31200 + 1200 * jj) (by omega) (by omega) ?_
  exact hnx _ _ _ hW hax ham (tt) (uu) ⟨by omega, by omega⟩ ⟨by omega, by omega⟩ hs13 hs14 (tf_eqv hs15 (by omega)) (tf_eqv hs16 (by omega)) him hkp rn rk (by omega) (by omega) hs17 hs18 hs19 hs20 _ (lv_sub hl [0, 1, 2, 3] rfl)

set_option maxHeartbeats 4000000 in
set_option maxRecDepth 100000 in
theorem lc_1485 {p : Program} {l : Launch} {e : Env} {s : State} {m : MethodId} {below : List Frame} {meth : Method} {c : Code} {b L : Nat} {g : tf_G} {sx : Int → Int} {Q : State → Prop} (E : lw_E p s m c b L g sx) (ax am im kp jj : Nat) (ii : Int) (hii : ii = 6 * (jj : Int)) (hij : ii + 6 ≤ (L : Int)) (hnx : lw_nx p l e s m below meth c b g ax am im kp jj ii Q) (T : tf_T) (H : Heap) (locs : List Loc) (hW : tf_n tf_kt g M_law (fun _ => none) s.heap T H locs) (hax : T ax = some (26, 0)) (ham : T am = some (50, 0)) (tt uu : Int) (htt : 0 ≤ tt ∧ tt ≤ 400) (huu : tf_r uu) (hf0 : tf_s H ax (g.1.2 9 7) = some (.int (Int32.ofInt tt))) (hf1 : tf_s H ax (g.1.2 9 8) = some (.int (Int32.ofInt uu))) (hf2 : tf_s H am (g.1.2 10 8) = some (.int (Int32.ofInt tt))) (hf3 : tf_s H am (g.1.2 10 6) = some (.int (Int32.ofInt uu))) (him : T im = some (14, 2)) (hkp : T kp = some (30, 2)) (rn rk : Int → Int) (hr0 : rn 0 = rk 0) (hr1 : rn 1 = rk 1) (hf4 : tf_s H ax (g.1.2 9 1) = some (.ref im)) (hf5 : tf_s H am (g.1.2 10 5) = some (.ref kp)) (hf6 : tf_nl H im = rn) (hf7 : tf_rw H kp = rk) (ls : Array Slot) (hl : lv_has ls 4 [(3, .int (Int32.ofInt ii)), (2, .ref am), (1, .ref ax), (0, .ref b)]) : W p l e room_1 s m #[Value.ref b] below meth c H locs (100 + 30 * jj) (30000 + 1200 * jj) Q (F0 m 1485 ls []) := by
  obtain ⟨hx, hb, hml, hown, hts, hbl, hk, hBs, hsx, hX, hL⟩ := id E
  have hR1 := lw_R1
  have hR2 := lw_R2
  have hR3 := lw_R3
  have hR4 := lw_R4
  have hK := hk.1
  have hE : tf_E g T := trivial
  refine lv_aload_n hx hb dL_law_1485 rfl (lv_at hl 2 rfl) ?_
  refine tf_calli (va_runV (As := []) (rest := []) ⟨hx, hb, hml, hown, hts⟩ (c_X9_status l g T ax hax) (cwV 0 hts gv_L_176 rfl rfl rfl hd_X9_status ⟨Nat.le_trans (by decide) hR1, Nat.le_trans (by decide) hR2⟩) (tf_preV hk hW hax (ci := 9) rfl rfl trivial) rfl rfl hl.1 rfl (lv_room (Nat.le_of_ble_eq_true rfl)) dL_law_1486 ⟨Nat.le_trans (by omega) hR3, Nat.le_trans (by omega) hR4⟩) hW (by decide) (fun z1 H1 locs1 hW hF1 hp1 => ?_)
  have hs2 := tf_keepF hF1 hax rfl rfl (by decide) hf0
  have hs3 := tf_keepF hF1 hax rfl rfl (by decide) hf1
  have hs4 := tf_keepF hF1 ham rfl rfl (by decide) hf2
  have hs5 := tf_keepF hF1 ham rfl rfl (by decide) hf3
  have hs6 := tf_keepF hF1 hax rfl rfl (by decide) hf4
  have hs7 := tf_keepF hF1 ham rfl rfl (by decide) hf5
  have hs8 := tf_keepN hF1 him rfl (by decide) hf6
  have hs9 := tf_keepC hF1 hkp rfl (by decide) hf7
  obtain ⟨hp1_0, hp1_1⟩ := hp1
  refine lv_pop hx hb dL_law_1489 rfl ?_
  refine lv_aload_n hx hb dL_law_1490 rfl (lv_at hl 1 rfl) ?_
  refine tf_calli (va_runV (As := []) (rest := []) ⟨hx, hb, hml, hown, hts⟩ (c_X10_status l g T am ham) (cwV 0 hts gv_L_179 rfl rfl rfl hd_X10_status ⟨Nat.le_trans (by decide) hR1, Nat.le_trans (by decide) hR2⟩) (tf_preV hk hW ham (ci := 10) rfl rfl trivial) rfl rfl hl.1 rfl (lv_room (Nat.le_of_ble_eq_true rfl)) dL_law_1491 ⟨Nat.le_trans (by omega) hR3, Nat.le_trans (by omega) hR4⟩) hW (by decide) (fun z10 H10 locs10 hW hF10 hp10 => ?_)
  have hs11 := tf_keepF hF10 hax rfl rfl (by decide) hs2
  have hs12 := tf_keepF hF10 hax rfl rfl (by decide) hs3
  have hs13 := tf_keepF hF10 ham rfl rfl (by decide) hs4
  have hs14 := tf_keepF hF10 ham rfl rfl (by decide) hs5
  have hs15 := tf_keepF hF10 hax rfl rfl (by decide) hs6
  have hs16 := tf_keepF hF10 ham rfl rfl (by decide) hs7
  have hs17 := tf_keepN hF10 him rfl (by decide) hs8
  have hs18 := tf_keepC hF10 hkp rfl (by decide) hs9
  obtain ⟨hp10_0, hp10_1⟩ := hp10
  refine lv_pop hx hb dL_law_1494 rfl ?_
  refine lv_goto (tgt := 1498) hx hb dL_law_1495 (by decide) ?_
  refine W.widen (k := 130 + 30 * jj) (n := 31200 + 1200 * jj) (by omega) (by omega) ?_
  exact hnx _ _ _ hW hax ham (tt) (uu) ⟨by omega, by omega⟩ ⟨by omega, by omega⟩ hs11 hs12 (tf_eqv hs13 (by omega)) (tf_eqv hs14 (by omega)) him hkp rn rk (by omega) (by omega) hs15 hs16 hs17 hs18 _ (lv_sub hl [0, 1, 2, 3] rfl)

set_option maxHeartbeats 4000000 in
set_option maxRecDepth 100000 in
theorem lc_588 {p : Program} {l : Launch} {e : Env} {s : State} {m : MethodId} {below : List Frame} {meth : Method} {c : Code} {b L : Nat} {g : tf_G} {sx : Int → Int} {Q : State → Prop} (E : lw_E p s m c b L g sx) (ax am jj : Nat) (ii : Int) (hii : ii = 6 * (jj : Int)) (hij : ii + 6 ≤ (L : Int)) (hnx : lw_nx p l e s m below meth c b g ax am jj ii Q) (T : tf_T) (H : Heap) (locs : List Loc) (hW : tf_n tf_kt g M_law (fun _ => none) s.heap T H locs) (hax : T ax = some (39, 0)) (ham : T am = some (63, 0)) (hI : lw_I g T H ax am) (ls : Array Slot) (hl : lv_has ls 4 [(3, .int (Int32.ofInt ii)), (2, .ref am), (1, .ref ax), (0, .ref b)]) : W p l e room_1 s m #[Value.ref b] below meth c H locs (100 + 30 * jj) (30000 + 1200 * jj) Q (F0 m 588 ls []) := by
  obtain ⟨hx, hb, hml, hown, hts, hbl, hk, hBs, hsx, hX, hL⟩ := id E
  have hR1 := lw_R1
  have hR2 := lw_R2
  have hR3 := lw_R3
  have hR4 := lw_R4
  have hK := hk.1
  have hE : tf_E g T := trivial
  obtain ⟨sq, im, ta, dh, lp, lh, yr, wh, ro, iz, kp, tm, dw, tt, uu, dd, gl, gh, gy, gw, tp, gd, rr, qq, rk, tq, gm, hsq, him, hta, hdh, hlp, hlh, hyr, hwh, hro, hiz, hkp, htm, hdw, htt, huu, hdd, hf0, hf1, hf2, hf3, hf4, hf5, hf6, hf7, hf8, hf9, hf10, hf11, hf12, hf13, hf14, hf15, hf16, hf17, hf18, hf19, hf20, hf21, hf22, hf23, hf24, hf25, hf26, hf27, hf28, hf29, hRL, hDD, hTP, hI0, hI1⟩ := hI
  have hWS : tf_WS gy gw := hRL.2.2
  refine lv_aload_n hx hb dL_law_588 rfl (lv_at hl 2 rfl) ?_
  refine tf_calli (va_runV (As := []) (rest := []) ⟨hx, hb, hml, hown, hts⟩ (c_X9_torn l g T ax hax (uu) ⟨by omega, by omega⟩) (cwV 0 hts gv_L_58 rfl rfl rfl hd_X9_torn ⟨Nat.le_trans (by decide) hR1, Nat.le_trans (by decide) hR2⟩) (tf_preV hk hW hax (ci := 9) rfl rfl hf4) rfl rfl hl.1 rfl (lv_room (Nat.le_of_ble_eq_true rfl)) dL_law_589 ⟨Nat.le_trans (by omega) hR3, Nat.le_trans (by omega) hR4⟩) hW (by decide) (fun z1 H1 locs1 hW hF1 hp1 => ?_)
  have hs2 := tf_keepF hF1 hax rfl rfl (by decide) hf0
  have hs3 := tf_keepF hF1 hax rfl rfl (by decide) hf1
  have hs4 := tf_keepF hF1 hax rfl rfl (by decide) hf2
  have hs5 := tf_keepF hF1 hax rfl rfl (by decide) hf3
  have hs6 := tf_keepF hF1 hax rfl rfl (by decide) hf4
  have hs7 := tf_keepF hF1 hax rfl rfl (by decide) hf5
  have hs8 := tf_keepF hF1 hax rfl rfl (by decide) hf6
  have hs9 := tf_keepF hF1 hsq rfl rfl (by decide) hf7
  have hs10 := tf_keepF hF1 hsq rfl rfl (by decide) hf8
  have hs11 := tf_keepF hF1 hsq rfl rfl (by decide) hf9
  have hs12 := tf_keepF hF1 hsq rfl rfl (by decide) hf10
  have hs13 := tf_keepC hF1 hlp rfl (by decide) hf11
  have hs14 := tf_keepC hF1 hlh rfl (by decide) hf12
  have hs15 := tf_keepC hF1 hyr rfl (by decide) hf13
  have hs16 := tf_keepC hF1 hwh rfl (by decide) hf14
  have hs17 := tf_keepC hF1 hta rfl (by decide) hf15
  have hs18 := tf_keepC hF1 hdh rfl (by decide) hf16
  have hs19 := tf_keepF hF1 ham rfl rfl (by decide) hf17
  have hs20 := tf_keepF hF1 ham rfl rfl (by decide) hf18
  have hs21 := tf_keepF hF1 ham rfl rfl (by decide) hf19
  have hs22 := tf_keepF hF1 ham rfl rfl (by decide) hf20
  have hs23 := tf_keepF hF1 ham rfl rfl (by decide) hf21
  have hs24 := tf_keepF hF1 ham rfl rfl (by decide) hf22
  have hs25 := tf_keepF hF1 ham rfl rfl (by decide) hf23
  have hs26 := tf_keepF hF1 ham rfl rfl (by decide) hf24
  have hs27 := tf_keepC hF1 hro rfl (by decide) hf25
  have hs28 := tf_keepC hF1 hiz rfl (by decide) hf26
  have hs29 := tf_keepC hF1 hkp rfl (by decide) hf27
  have hs30 := tf_keepC hF1 htm rfl (by decide) hf28
  have hs31 := tf_keepC hF1 hdw rfl (by decide) hf29
  have hI0 := tf_IS1_keep hF1 him (by decide) (by decide) hI0
  have hI1 := tf_IS2_keep hF1 him (by decide) (by decide) hI1
  obtain ⟨hp1_0, hp1_1, hp1_2⟩ := hp1
  refine lv_pop hx hb dL_law_592 rfl ?_
  refine lv_aload_n hx hb dL_law_593 rfl (lv_at hl 1 rfl) ?_
  refine tf_calli (va_runV (As := []) (rest := []) ⟨hx, hb, hml, hown, hts⟩ (c_X10_torn l g T am ham (uu) ⟨by omega, by omega⟩) (cwV 0 hts gv_L_61 rfl rfl rfl hd_X10_torn ⟨Nat.le_trans (by decide) hR1, Nat.le_trans (by decide) hR2⟩) (tf_preV hk hW ham (ci := 10) rfl rfl hs22) rfl rfl hl.1 rfl (lv_room (Nat.le_of_ble_eq_true rfl)) dL_law_594 ⟨Nat.le_trans (by omega) hR3, Nat.le_trans (by omega) hR4⟩) hW (by decide) (fun z32 H32 locs32 hW hF32 hp32 => ?_)
  have hs33 := tf_keepF hF32 hax rfl rfl (by decide) hs2
  have hs34 := tf_keepF hF32 hax rfl rfl (by decide) hs3
  have hs35 := tf_keepF hF32 hax rfl rfl (by decide) hs4
  have hs36 := tf_keepF hF32 hax rfl rfl (by decide) hs5
  have hs37 := tf_keepF hF32 hax rfl rfl (by decide) hs6
  have hs38 := tf_keepF hF32 hax rfl rfl (by decide) hs7
  have hs39 := tf_keepF hF32 hax rfl rfl (by decide) hs8
  have hs40 := tf_keepF hF32 hsq rfl rfl (by decide) hs9
  have hs41 := tf_keepF hF32 hsq rfl rfl (by decide) hs10
  have hs42 := tf_keepF hF32 hsq rfl rfl (by decide) hs11
  have hs43 := tf_keepF hF32 hsq rfl rfl (by decide) hs12
  have hs44 := tf_keepC hF32 hlp rfl (by decide) hs13
  have hs45 := tf_keepC hF32 hlh rfl (by decide) hs14
  have hs46 := tf_keepC hF32 hyr rfl (by decide) hs15
  have hs47 := tf_keepC hF32 hwh rfl (by decide) hs16
  have hs48 := tf_keepC hF32 hta rfl (by decide) hs17
  have hs49 := tf_keepC hF32 hdh rfl (by decide) hs18
  have hs50 := tf_keepF hF32 ham rfl rfl (by decide) hs19
  have hs51 := tf_keepF hF32 ham rfl rfl (by decide) hs20
  have hs52 := tf_keepF hF32 ham rfl rfl (by decide) hs21
  have hs53 := tf_keepF hF32 ham rfl rfl (by decide) hs22
  have hs54 := tf_keepF hF32 ham rfl rfl (by decide) hs23
  have hs55 := tf_keepF hF32 ham rfl rfl (by decide) hs24
  have hs56 := tf_keepF hF32 ham rfl rfl (by decide) hs25
  have hs57 := tf_keepF hF32 ham rfl rfl (by decide) hs26
  have hs58 := tf_keepC hF32 hro rfl (by decide) hs27
  have hs59 := tf_keepC hF32 hiz rfl (by decide) hs28
  have hs60 := tf_keepC hF32 hkp rfl (by decide) hs29
  have hs61 := tf_keepC hF32 htm rfl (by decide) hs30
  have hs62 := tf_keepC hF32 hdw rfl (by decide) hs31
  have hI0 := tf_IS1_keep hF32 him (by decide) (by decide) hI0
  have hI1 := tf_IS2_keep hF32 him (by decide) (by decide) hI1
  obtain ⟨hp32_0, hp32_1, hp32_2⟩ := hp32
  refine lv_pop hx hb dL_law_597 rfl ?_
  refine lv_goto (tgt := 1498) hx hb dL_law_598 (by decide) ?_
  refine W.widen (k := 130 + 30 * jj) (n := 31200 + 1200 * jj) (by omega) (by omega) ?_
  exact hnx _ _ _ hW hax ham ⟨sq, im, ta, dh, lp, lh, yr, wh, ro, iz, kp, tm, dw, (tt), (uu), (dd), gl, gh, gy, gw, tp, gd, rr, qq, rk, tq, gm, hsq, him, hta, hdh, hlp, hlh, hyr, hwh, hro, hiz, hkp, htm, hdw, ⟨by omega, by omega⟩, ⟨by omega, by omega⟩, ⟨by omega, by omega⟩, hs33, hs34, hs35, hs36, hs37, hs38, hs39, hs40, hs41, hs42, hs43, hs44, hs45, hs46, hs47, hs48, hs49, hs50, hs51, hs52, tf_eqv hs53 (by omega), hs54, tf_eqv hs55 (by omega), hs56, tf_eqv hs57 (by omega), hs58, hs59, hs60, hs61, hs62, hRL, hDD, hTP, hI0, hI1⟩ _ (lv_sub hl [0, 1, 2, 3] rfl)

set_option maxHeartbeats 4000000 in
set_option maxRecDepth 100000 in
theorem lc_601 {p : Program} {l : Launch} {e : Env} {s : State} {m : MethodId} {below : List Frame} {meth : Method} {c : Code} {b L : Nat} {g : tf_G} {sx : Int → Int} {Q : State → Prop} (E : lw_E p s m c b L g sx) (ax am jj : Nat) (ii : Int) (hii : ii = 6 * (jj : Int)) (hij : ii + 6 ≤ (L : Int)) (hnx : lw_nx p l e s m below meth c b g ax am jj ii Q) (T : tf_T) (H : Heap) (locs : List Loc) (hW : tf_n tf_kt g M_law (fun _ => none) s.heap T H locs) (hax : T ax = some (39, 0)) (ham : T am = some (63, 0)) (hI : lw_I g T H ax am) (ls : Array Slot) (hl : lv_has ls 4 [(3, .int (Int32.ofInt ii)), (2, .ref am), (1, .ref ax), (0, .ref b)]) : W p l e room_1 s m #[Value.ref b] below meth c H locs (100 + 30 * jj) (30000 + 1200 * jj) Q (F0 m 601 ls []) := by
  obtain ⟨hx, hb, hml, hown, hts, hbl, hk, hBs, hsx, hX, hL⟩ := id E
  have hR1 := lw_R1
  have hR2 := lw_R2
  have hR3 := lw_R3
  have hR4 := lw_R4
  have hK := hk.1
  have hE : tf_E g T := trivial
  obtain ⟨sq, im, ta, dh, lp, lh, yr, wh, ro, iz, kp, tm, dw, tt, uu, dd, gl, gh, gy, gw, tp, gd, rr, qq, rk, tq, gm, hsq, him, hta, hdh, hlp, hlh, hyr, hwh, hro, hiz, hkp, htm, hdw, htt, huu, hdd, hf0, hf1, hf2, hf3, hf4, hf5, hf6, hf7, hf8, hf9, hf10, hf11, hf12, hf13, hf14, hf15, hf16, hf17, hf18, hf19, hf20, hf21, hf22, hf23, hf24, hf25, hf26, hf27, hf28, hf29, hRL, hDD, hTP, hI0, hI1⟩ := hI
  have hWS : tf_WS gy gw := hRL.2.2
  refine lv_aload_n hx hb dL_law_601 rfl (lv_at hl 2 rfl) ?_
  refine tf_callI (va_runV (As := []) (rest := []) ⟨hx, hb, hml, hown, hts⟩ (c_X9_law l g T ax hax (tt) ⟨by omega, by omega⟩) (cwV 0 hts gv_L_62 rfl rfl rfl hd_X9_law ⟨Nat.le_trans (by decide) hR1, Nat.le_trans (by decide) hR2⟩) (tf_preV hk hW hax (ci := 9) rfl rfl hf3) rfl rfl hl.1 rfl (lv_room (Nat.le_of_ble_eq_true rfl)) dL_law_602 ⟨Nat.le_trans (by omega) hR3, Nat.le_trans (by omega) hR4⟩) hW (by decide) (fun z1 H1 locs1 T hW hE1 hF1 hp1 => ?_)
  have hs2 := tf_keepF hF1 hax rfl rfl (by decide) hf0
  have hs3 := tf_keepF hF1 hax rfl rfl (by decide) hf1
  have hs4 := tf_keepF hF1 hax rfl rfl (by decide) hf2
  have hs5 := tf_keepF hF1 hax rfl rfl (by decide) hf4
  have hs6 := tf_keepF hF1 hax rfl rfl (by decide) hf5
  have hs7 := tf_keepF hF1 hax rfl rfl (by decide) hf6
  have hs8 := tf_keepF hF1 hsq rfl rfl (by decide) hf7
  have hs9 := tf_keepF hF1 hsq rfl rfl (by decide) hf8
  have hs10 := tf_keepF hF1 hsq rfl rfl (by decide) hf9
  have hs11 := tf_keepF hF1 hsq rfl rfl (by decide) hf10
  have hs12 := tf_keepC hF1 hlp rfl (by decide) hf11
  have hs13 := tf_keepC hF1 hlh rfl (by decide) hf12
  have hs14 := tf_keepC hF1 hyr rfl (by decide) hf13
  have hs15 := tf_keepC hF1 hwh rfl (by decide) hf14
  have hs16 := tf_keepC hF1 hta rfl (by decide) hf15
  have hs17 := tf_keepC hF1 hdh rfl (by decide) hf16
  have hs18 := tf_keepF hF1 ham rfl rfl (by decide) hf17
  have hs19 := tf_keepF hF1 ham rfl rfl (by decide) hf18
  have hs20 := tf_keepF hF1 ham rfl rfl (by decide) hf19
  have hs21 := tf_keepF hF1 ham rfl rfl (by decide) hf20
  have hs22 := tf_keepF hF1 ham rfl rfl (by decide) hf21
  have hs23 := tf_keepF hF1 ham rfl rfl (by decide) hf22
  have hs24 := tf_keepF hF1 ham rfl rfl (by decide) hf23
  have hs25 := tf_keepF hF1 ham rfl rfl (by decide) hf24
  have hs26 := tf_keepC hF1 hro rfl (by decide) hf25
  have hs27 := tf_keepC hF1 hiz rfl (by decide) hf26
  have hs28 := tf_keepC hF1 hkp rfl (by decide) hf27
  have hs29 := tf_keepC hF1 htm rfl (by decide) hf28
  have hs30 := tf_keepC hF1 hdw rfl (by decide) hf29
  have hI0 := tf_IS1_keep hF1 him (by decide) (by decide) hI0
  have hI1 := tf_IS2_keep hF1 him (by decide) (by decide) hI1
  have ham := hE1 _ _ ham
  have hax := hE1 _ _ hax
  have hsq := hE1 _ _ hsq
  have him := hE1 _ _ him
  have hta := hE1 _ _ hta
  have hdh := hE1 _ _ hdh
  have hlp := hE1 _ _ hlp
  have hlh := hE1 _ _ hlh
  have hyr := hE1 _ _ hyr
  have hwh := hE1 _ _ hwh
  have hro := hE1 _ _ hro
  have hiz := hE1 _ _ hiz
  have hkp := hE1 _ _ hkp
  have htm := hE1 _ _ htm
  have hdw := hE1 _ _ hdw
  have hE := hE.mono hE1
  have hI0 := tf_IS1_mono hE1 hI0
  have hI1 := tf_IS2_mono hE1 hI1
  obtain ⟨hp1_0, hp1_1, hp1_2⟩ := hp1
  obtain ⟨t1_1, hX1_0, hB1_0, hR1_0⟩ := hp1_2
  refine lv_pop hx hb dL_law_605 rfl ?_
  refine lv_aload_n hx hb dL_law_606 rfl (lv_at hl 1 rfl) ?_
  refine tf_calli (va_runV (As := []) (rest := []) ⟨hx, hb, hml, hown, hts⟩ (c_X10_law l g T am ham ro hro rr (tt) ⟨by omega, by omega⟩) (cwV 0 hts gv_L_65 rfl rfl rfl hd_X10_law ⟨Nat.le_trans (by decide) hR1, Nat.le_trans (by decide) hR2⟩) (tf_preV hk hW ham (ci := 10) rfl rfl ⟨hs18, hs26, hs23⟩) rfl rfl hl.1 rfl (lv_room (Nat.le_of_ble_eq_true rfl)) dL_law_607 ⟨Nat.le_trans (by omega) hR3, Nat.le_trans (by omega) hR4⟩) hW (by decide) (fun z31 H31 locs31 hW hF31 hp31 => ?_)
  have hs32 := tf_keepF hF31 hax rfl rfl (by decide) hs2
  have hs33 := tf_keepF hF31 hax rfl rfl (by decide) hs3
  have hs34 := tf_keepF hF31 hax rfl rfl (by decide) hs4
  have hs35 := tf_keepF hF31 hax rfl rfl (by decide) hs5
  have hs36 := tf_keepF hF31 hax rfl rfl (by decide) hs6
  have hs37 := tf_keepF hF31 hax rfl rfl (by decide) hs7
  have hs38 := tf_keepF hF31 hsq rfl rfl (by decide) hs8
  have hs39 := tf_keepF hF31 hsq rfl rfl (by decide) hs9
  have hs40 := tf_keepF hF31 hsq rfl rfl (by decide) hs10
  have hs41 := tf_keepF hF31 hsq rfl rfl (by decide) hs11
  have hs42 := tf_keepC hF31 hlp rfl (by decide) hs12
  have hs43 := tf_keepC hF31 hlh rfl (by decide) hs13
  have hs44 := tf_keepC hF31 hyr rfl (by decide) hs14
  have hs45 := tf_keepC hF31 hwh rfl (by decide) hs15
  have hs46 := tf_keepC hF31 hta rfl (by decide) hs16
  have hs47 := tf_keepC hF31 hdh rfl (by decide) hs17
  have hs48 := tf_keepF hF31 ham rfl rfl (by decide) hs18
  have hs49 := tf_keepF hF31 ham rfl rfl (by decide) hs19
  have hs50 := tf_keepF hF31 ham rfl rfl (by decide) hs20
  have hs51 := tf_keepF hF31 ham rfl rfl (by decide) hs21
  have hs52 := tf_keepF hF31 ham rfl rfl (by decide) hs22
  have hs53 := tf_keepF hF31 ham rfl rfl (by decide) hs24
  have hs54 := tf_keepF hF31 ham rfl rfl (by decide) hs25
  have hs55 := tf_keepC hF31 hiz rfl (by decide) hs27
  have hs56 := tf_keepC hF31 hkp rfl (by decide) hs28
  have hs57 := tf_keepC hF31 htm rfl (by decide) hs29
  have hs58 := tf_keepC hF31 hdw rfl (by decide) hs30
  have hs59 := tf_keepF hF31 hax rfl rfl (by decide) hX1_0
  have hI0 := tf_IS1_keep hF31 him (by decide) (by decide) hI0
  have hI1 := tf_IS2_keep hF31 him (by decide) (by decide) hI1
  obtain ⟨hp31_0, hp31_1, hp31_2⟩ := hp31
  obtain ⟨t1_31, r1_31, hX31_0, hX31_1, hB31_0, hR31_0, hR31_1⟩ := hp31_2
  have hRL := tf_RL_kp hRL hR31_1
  refine lv_pop hx hb dL_law_610 rfl ?_
  refine lv_goto (tgt := 1498) hx hb dL_law_611 (by decide) ?_
  refine W.widen (k := 130 + 30 * jj) (n := 31200 + 1200 * jj) (by omega) (by omega) ?_
  exact hnx _ _ _ hW hax ham ⟨sq, im, ta, dh, lp, lh, yr, wh, ro, iz, kp, tm, dw, (t1_1), (uu), (dd), gl, gh, gy, gw, tp, gd, r1_31, qq, rk, tq, gm, hsq, him, hta, hdh, hlp, hlh, hyr, hwh, hro, hiz, hkp, htm, hdw, ⟨by omega, by omega⟩, ⟨by omega, by omega⟩, ⟨by omega, by omega⟩, hs32, hs33, hs34, hs59, hs35, hs36, hs37, hs38, hs39, hs40, hs41, hs42, hs43, hs44, hs45, hs46, hs47, hs48, hs49, hs50, tf_eqv hs51 (by omega), hs52, tf_eqv hX31_1 (by omega), hs53, tf_eqv hs54 (by omega), hX31_0, hs55, hs56, hs57, hs58, hRL, hDD, hTP, hI0, hI1⟩ _ (lv_sub hl [0, 1, 2, 3] rfl)

set_option maxHeartbeats 4000000 in
set_option maxRecDepth 100000 in
theorem lc_614 {p : Program} {l : Launch} {e : Env} {s : State} {m : MethodId} {below : List Frame} {meth : Method} {c : Code} {b L : Nat} {g : tf_G} {sx : Int → Int} {Q : State → Prop} (E : lw_E p s m c b L g sx) (ax am jj : Nat) (ii : Int) (hii : ii = 6 * (jj : Int)) (hij : ii + 6 ≤ (L : Int)) (hnx : lw_nx p l e s m below meth c b g ax am jj ii Q) (T : tf_T) (H : Heap) (locs : List Loc) (hW : tf_n tf_kt g M_law (fun _ => none) s.heap T H locs) (hax : T ax = some (39, 0)) (ham : T am = some (63, 0)) (hI : lw_I g T H ax am) (ls : Array Slot) (hl : lv_has ls 4 [(3, .int (Int32.ofInt ii)), (2, .ref am), (1, .ref ax), (0, .ref b)]) : W p l e room_1 s m #[Value.ref b] below meth c H locs (100 + 30 * jj) (30000 + 1200 * jj) Q (F0 m 614 ls []) := by
  obtain ⟨hx, hb, hml, hown, hts, hbl, hk, hBs, hsx, hX, hL⟩ := id E
  have hR1 := lw_R1
  have hR2 := lw_R2
  have hR3 := lw_R3
  have hR4 := lw_R4
  have hK := hk.1
  have hE : tf_E g T := trivial
  obtain ⟨sq, im, ta, dh, lp, lh, yr, wh, ro, iz, kp, tm, dw, tt, uu, dd, gl, gh, gy, gw, tp, gd, rr, qq, rk, tq, gm, hsq, him, hta, hdh, hlp, hlh, hyr, hwh, hro, hiz, hkp, htm, hdw, htt, huu, hdd, hf0, hf1, hf2, hf3, hf4, hf5, hf6, hf7, hf8, hf9, hf10, hf11, hf12, hf13, hf14, hf15, hf16, hf17, hf18, hf19, hf20, hf21, hf22, hf23, hf24, hf25, hf26, hf27, hf28, hf29, hRL, hDD, hTP, hI0, hI1⟩ := hI
  have hWS : tf_WS gy gw := hRL.2.2
  refine lv_aload_n hx hb dL_law_614 rfl (lv_at hl 2 rfl) ?_
  refine tf_calli (va_runV (As := []) (rest := []) ⟨hx, hb, hml, hown, hts⟩ (c_X9_fault l g T ax hax) (cwV 0 hts gv_L_66 rfl rfl rfl hd_X9_fault ⟨Nat.le_trans (by decide) hR1, Nat.le_trans (by decide) hR2⟩) (tf_preV hk hW hax (ci := 9) rfl rfl trivial) rfl rfl hl.1 rfl (lv_room (Nat.le_of_ble_eq_true rfl)) dL_law_615 ⟨Nat.le_trans (by omega) hR3, Nat.le_trans (by omega) hR4⟩) hW (by decide) (fun z1 H1 locs1 hW hF1 hp1 => ?_)
  have hs2 := tf_keepF hF1 hax rfl rfl (by decide) hf0
  have hs3 := tf_keepF hF1 hax rfl rfl (by decide) hf1
  have hs4 := tf_keepF hF1 hax rfl rfl (by decide) hf2
  have hs5 := tf_keepF hF1 hax rfl rfl (by decide) hf3
  have hs6 := tf_keepF hF1 hax rfl rfl (by decide) hf4
  have hs7 := tf_keepF hF1 hax rfl rfl (by decide) hf5
  have hs8 := tf_keepF hF1 hax rfl rfl (by decide) hf6
  have hs9 := tf_keepF hF1 hsq rfl rfl (by decide) hf7
  have hs10 := tf_keepF hF1 hsq rfl rfl (by decide) hf8
  have hs11 := tf_keepF hF1 hsq rfl rfl (by decide) hf9
  have hs12 := tf_keepF hF1 hsq rfl rfl (by decide) hf10
  have hs13 := tf_keepC hF1 hlp rfl (by decide) hf11
  have hs14 := tf_keepC hF1 hlh rfl (by decide) hf12
  have hs15 := tf_keepC hF1 hyr rfl (by decide) hf13
  have hs16 := tf_keepC hF1 hwh rfl (by decide) hf14
  have hs17 := tf_keepC hF1 hta rfl (by decide) hf15
  have hs18 := tf_keepC hF1 hdh rfl (by decide) hf16
  have hs19 := tf_keepF hF1 ham rfl rfl (by decide) hf17
  have hs20 := tf_keepF hF1 ham rfl rfl (by decide) hf18
  have hs21 := tf_keepF hF1 ham rfl rfl (by decide) hf19
  have hs22 := tf_keepF hF1 ham rfl rfl (by decide) hf20
  have hs23 := tf_keepF hF1 ham rfl rfl (by decide) hf21
  have hs24 := tf_keepF hF1 ham rfl rfl (by decide) hf22
  have hs25 := tf_keepF hF1 ham rfl rfl (by decide) hf23
  have hs26 := tf_keepF hF1 ham rfl rfl (by decide) hf24
  have hs27 := tf_keepC hF1 hro rfl (by decide) hf25
  have hs28 := tf_keepC hF1 hiz rfl (by decide) hf26
  have hs29 := tf_keepC hF1 hkp rfl (by decide) hf27
  have hs30 := tf_keepC hF1 htm rfl (by decide) hf28
  have hs31 := tf_keepC hF1 hdw rfl (by decide) hf29
  have hI0 := tf_IS1_keep hF1 him (by decide) (by decide) hI0
  have hI1 := tf_IS2_keep hF1 him (by decide) (by decide) hI1
  obtain ⟨hp1_0, hp1_1⟩ := hp1
  refine lv_pop hx hb dL_law_618 rfl ?_
  refine lv_aload_n hx hb dL_law_619 rfl (lv_at hl 1 rfl) ?_
  refine tf_calli (va_runV (As := []) (rest := []) ⟨hx, hb, hml, hown, hts⟩ (c_X10_fault l g T am ham) (cwV 0 hts gv_L_69 rfl rfl rfl hd_X10_fault ⟨Nat.le_trans (by decide) hR1, Nat.le_trans (by decide) hR2⟩) (tf_preV hk hW ham (ci := 10) rfl rfl trivial) rfl rfl hl.1 rfl (lv_room (Nat.le_of_ble_eq_true rfl)) dL_law_620 ⟨Nat.le_trans (by omega) hR3, Nat.le_trans (by omega) hR4⟩) hW (by decide) (fun z32 H32 locs32 hW hF32 hp32 => ?_)
  have hs33 := tf_keepF hF32 hax rfl rfl (by decide) hs2
  have hs34 := tf_keepF hF32 hax rfl rfl (by decide) hs3
  have hs35 := tf_keepF hF32 hax rfl rfl (by decide) hs4
  have hs36 := tf_keepF hF32 hax rfl rfl (by decide) hs5
  have hs37 := tf_keepF hF32 hax rfl rfl (by decide) hs6
  have hs38 := tf_keepF hF32 hax rfl rfl (by decide) hs7
  have hs39 := tf_keepF hF32 hax rfl rfl (by decide) hs8
  have hs40 := tf_keepF hF32 hsq rfl rfl (by decide) hs9
  have hs41 := tf_keepF hF32 hsq rfl rfl (by decide) hs10
  have hs42 := tf_keepF hF32 hsq rfl rfl (by decide) hs11
  have hs43 := tf_keepF hF32 hsq rfl rfl (by decide) hs12
  have hs44 := tf_keepC hF32 hlp rfl (by decide) hs13
  have hs45 := tf_keepC hF32 hlh rfl (by decide) hs14
  have hs46 := tf_keepC hF32 hyr rfl (by decide) hs15
  have hs47 := tf_keepC hF32 hwh rfl (by decide) hs16
  have hs48 := tf_keepC hF32 hta rfl (by decide) hs17
  have hs49 := tf_keepC hF32 hdh rfl (by decide) hs18
  have hs50 := tf_keepF hF32 ham rfl rfl (by decide) hs19
  have hs51 := tf_keepF hF32 ham rfl rfl (by decide) hs20
  have hs52 := tf_keepF hF32 ham rfl rfl (by decide) hs21
  have hs53 := tf_keepF hF32 ham rfl rfl (by decide) hs22
  have hs54 := tf_keepF hF32 ham rfl rfl (by decide) hs23
  have hs55 := tf_keepF hF32 ham rfl rfl (by decide) hs24
  have hs56 := tf_keepF hF32 ham rfl rfl (by decide) hs25
  have hs57 := tf_keepF hF32 ham rfl rfl (by decide) hs26
  have hs58 := tf_keepC hF32 hro rfl (by decide) hs27
  have hs59 := tf_keepC hF32 hiz rfl (by decide) hs28
  have hs60 := tf_keepC hF32 hkp rfl (by decide) hs29
  have hs61 := tf_keepC hF32 htm rfl (by decide) hs30
  have hs62 := tf_keepC hF32 hdw rfl (by decide) hs31
  have hI0 := tf_IS1_keep hF32 him (by decide) (by decide) hI0
  have hI1 := tf_IS2_keep hF32 him (by decide) (by decide) hI1
  obtain ⟨hp32_0, hp32_1⟩ := hp32
  refine lv_pop hx hb dL_law_623 rfl ?_
  refine lv_goto (tgt := 1498) hx hb dL_law_624 (by decide) ?_
  refine W.widen (k := 130 + 30 * jj) (n := 31200 + 1200 * jj) (by omega) (by omega) ?_
  exact hnx _ _ _ hW hax ham ⟨sq, im, ta, dh, lp, lh, yr, wh, ro, iz, kp, tm, dw, (tt), (uu), (dd), gl, gh, gy, gw, tp, gd, rr, qq, rk, tq, gm, hsq, him, hta, hdh, hlp, hlh, hyr, hwh, hro, hiz, hkp, htm, hdw, ⟨by omega, by omega⟩, ⟨by omega, by omega⟩, ⟨by omega, by omega⟩, hs33, hs34, hs35, hs36, hs37, hs38, hs39, hs40, hs41, hs42, hs43, hs44, hs45, hs46, hs47, hs48, hs49, hs50, hs51, hs52, tf_eqv hs53 (by omega), hs54, tf_eqv hs55 (by omega), hs56, tf_eqv hs57 (by omega), hs58, hs59, hs60, hs61, hs62, hRL, hDD, hTP, hI0, hI1⟩ _ (lv_sub hl [0, 1, 2, 3] rfl)

set_option maxHeartbeats 4000000 in
set_option maxRecDepth 100000 in
theorem lc_627 {p : Program} {l : Launch} {e : Env} {s : State} {m : MethodId} {below : List Frame} {meth : Method} {c : Code} {b L : Nat} {g : tf_G} {sx : Int → Int} {Q : State → Prop} (E : lw_E p s m c b L g sx) (ax am jj : Nat) (ii : Int) (hii : ii = 6 * (jj : Int)) (hij : ii + 6 ≤ (L : Int)) (hnx : lw_nx p l e s m below meth c b g ax am jj ii Q) (T : tf_T) (H : Heap) (locs : List Loc) (hW : tf_n tf_kt g M_law (fun _ => none) s.heap T H locs) (hax : T ax = some (39, 0)) (ham : T am = some (63, 0)) (hI : lw_I g T H ax am) (ls : Array Slot) (hl : lv_has ls 4 [(3, .int (Int32.ofInt ii)), (2, .ref am), (1, .ref ax), (0, .ref b)]) : W p l e room_1 s m #[Value.ref b] below meth c H locs (100 + 30 * jj) (30000 + 1200 * jj) Q (F0 m 627 ls []) := by
  obtain ⟨hx, hb, hml, hown, hts, hbl, hk, hBs, hsx, hX, hL⟩ := id E
  have hR1 := lw_R1
  have hR2 := lw_R2
  have hR3 := lw_R3
  have hR4 := lw_R4
  have hK := hk.1
  have hE : tf_E g T := trivial
  obtain ⟨sq, im, ta, dh, lp, lh, yr, wh, ro, iz, kp, tm, dw, tt, uu, dd, gl, gh, gy, gw, tp, gd, rr, qq, rk, tq, gm, hsq, him, hta, hdh, hlp, hlh, hyr, hwh, hro, hiz, hkp, htm, hdw, htt, huu, hdd, hf0, hf1, hf2, hf3, hf4, hf5, hf6, hf7, hf8, hf9, hf10, hf11, hf12, hf13, hf14, hf15, hf16, hf17, hf18, hf19, hf20, hf21, hf22, hf23, hf24, hf25, hf26, hf27, hf28, hf29, hRL, hDD, hTP, hI0, hI1⟩ := hI
  have hWS : tf_WS gy gw := hRL.2.2
  refine lv_aload_n hx hb dL_law_627 rfl (lv_at hl 2 rfl) ?_
  refine lv_aload_n hx hb dL_law_628 rfl (lv_at hl 3 rfl) ?_
  refine lv_iload_n hx hb dL_law_629 rfl (lv_at hl 0 rfl) ?_
  refine tf_iconst hx hb dL_law_630 ?_
  refine tf_iadd hx hb dL_law_631 ?_
  refine lw_sld (sx := sx) hx hb hX hbl hBs hL hW (by omega) (by omega) dL_law_632 ?_
  have hsx1 := hsx (ii + 1)
  refine tf_calli (va_runV (As := [.int (Int32.ofInt ((sx (ii + 1))))]) (rest := []) ⟨hx, hb, hml, hown, hts⟩ (c_X9_force l g T ax hax ((sx (ii + 1))) ⟨by omega, by omega⟩) (cwV 1 hts gv_L_70 rfl rfl rfl hd_X9_force ⟨Nat.le_trans (by decide) hR1, Nat.le_trans (by decide) hR2⟩) (tf_preV hk hW hax (ci := 9) rfl rfl trivial) rfl rfl hl.1 rfl (lv_room (Nat.le_of_ble_eq_true rfl)) dL_law_633 ⟨Nat.le_trans (by omega) hR3, Nat.le_trans (by omega) hR4⟩) hW (by decide) (fun z2 H2 locs2 hW hF2 hp2 => ?_)
  have hs3 := tf_keepF hF2 hax rfl rfl (by decide) hf0
  have hs4 := tf_keepF hF2 hax rfl rfl (by decide) hf1
  have hs5 := tf_keepF hF2 hax rfl rfl (by decide) hf2
  have hs6 := tf_keepF hF2 hax rfl rfl (by decide) hf3
  have hs7 := tf_keepF hF2 hax rfl rfl (by decide) hf4
  have hs8 := tf_keepF hF2 hax rfl rfl (by decide) hf5
  have hs9 := tf_keepF hF2 hax rfl rfl (by decide) hf6
  have hs10 := tf_keepF hF2 hsq rfl rfl (by decide) hf7
  have hs11 := tf_keepF hF2 hsq rfl rfl (by decide) hf8
  have hs12 := tf_keepF hF2 hsq rfl rfl (by decide) hf9
  have hs13 := tf_keepF hF2 hsq rfl rfl (by decide) hf10
  have hs14 := tf_keepC hF2 hlp rfl (by decide) hf11
  have hs15 := tf_keepC hF2 hlh rfl (by decide) hf12
  have hs16 := tf_keepC hF2 hyr rfl (by decide) hf13
  have hs17 := tf_keepC hF2 hwh rfl (by decide) hf14
  have hs18 := tf_keepC hF2 hta rfl (by decide) hf15
  have hs19 := tf_keepC hF2 hdh rfl (by decide) hf16
  have hs20 := tf_keepF hF2 ham rfl rfl (by decide) hf17
  have hs21 := tf_keepF hF2 ham rfl rfl (by decide) hf18
  have hs22 := tf_keepF hF2 ham rfl rfl (by decide) hf19
  have hs23 := tf_keepF hF2 ham rfl rfl (by decide) hf20
  have hs24 := tf_keepF hF2 ham rfl rfl (by decide) hf21
  have hs25 := tf_keepF hF2 ham rfl rfl (by decide) hf22
  have hs26 := tf_keepF hF2 ham rfl rfl (by decide) hf23
  have hs27 := tf_keepF hF2 ham rfl rfl (by decide) hf24
  have hs28 := tf_keepC hF2 hro rfl (by decide) hf25
  have hs29 := tf_keepC hF2 hiz rfl (by decide) hf26
  have hs30 := tf_keepC hF2 hkp rfl (by decide) hf27
  have hs31 := tf_keepC hF2 htm rfl (by decide) hf28
  have hs32 := tf_keepC hF2 hdw rfl (by decide) hf29
  have hI0 := tf_IS1_keep hF2 him (by decide) (by decide) hI0
  have hI1 := tf_IS2_keep hF2 him (by decide) (by decide) hI1
  obtain ⟨hp2_0, hp2_1⟩ := hp2
  refine lv_pop hx hb dL_law_636 rfl ?_
  refine lv_aload_n hx hb dL_law_637 rfl (lv_at hl 1 rfl) ?_
  refine lv_aload_n hx hb dL_law_638 rfl (lv_at hl 3 rfl) ?_
  refine lv_iload_n hx hb dL_law_639 rfl (lv_at hl 0 rfl) ?_
  refine tf_iconst hx hb dL_law_640 ?_
  refine tf_iadd hx hb dL_law_641 ?_
  refine lw_sld (sx := sx) hx hb hX hbl hBs hL hW (by omega) (by omega) dL_law_642 ?_
  have hsx33 := hsx (ii + 1)
  refine tf_calli (va_runV (As := [.int (Int32.ofInt ((sx (ii + 1))))]) (rest := []) ⟨hx, hb, hml, hown, hts⟩ (c_X10_force l g T am ham ((sx (ii + 1))) ⟨by omega, by omega⟩ ro hro rr) (cwV 1 hts gv_L_73 rfl rfl rfl hd_X10_force ⟨Nat.le_trans (by decide) hR1, Nat.le_trans (by decide) hR2⟩) (tf_preV hk hW ham (ci := 10) rfl rfl ⟨hs20, hs28⟩) rfl rfl hl.1 rfl (lv_room (Nat.le_of_ble_eq_true rfl)) dL_law_643 ⟨Nat.le_trans (by omega) hR3, Nat.le_trans (by omega) hR4⟩) hW (by decide) (fun z34 H34 locs34 hW hF34 hp34 => ?_)
  have hs35 := tf_keepF hF34 hax rfl rfl (by decide) hs3
  have hs36 := tf_keepF hF34 hax rfl rfl (by decide) hs4
  have hs37 := tf_keepF hF34 hax rfl rfl (by decide) hs5
  have hs38 := tf_keepF hF34 hax rfl rfl (by decide) hs6
  have hs39 := tf_keepF hF34 hax rfl rfl (by decide) hs7
  have hs40 := tf_keepF hF34 hax rfl rfl (by decide) hs8
  have hs41 := tf_keepF hF34 hax rfl rfl (by decide) hs9
  have hs42 := tf_keepF hF34 hsq rfl rfl (by decide) hs10
  have hs43 := tf_keepF hF34 hsq rfl rfl (by decide) hs11
  have hs44 := tf_keepF hF34 hsq rfl rfl (by decide) hs12
  have hs45 := tf_keepF hF34 hsq rfl rfl (by decide) hs13
  have hs46 := tf_keepC hF34 hlp rfl (by decide) hs14
  have hs47 := tf_keepC hF34 hlh rfl (by decide) hs15
  have hs48 := tf_keepC hF34 hyr rfl (by decide) hs16
  have hs49 := tf_keepC hF34 hwh rfl (by decide) hs17
  have hs50 := tf_keepC hF34 hta rfl (by decide) hs18
  have hs51 := tf_keepC hF34 hdh rfl (by decide) hs19
  have hs52 := tf_keepF hF34 ham rfl rfl (by decide) hs20
  have hs53 := tf_keepF hF34 ham rfl rfl (by decide) hs21
  have hs54 := tf_keepF hF34 ham rfl rfl (by decide) hs22
  have hs55 := tf_keepF hF34 ham rfl rfl (by decide) hs23
  have hs56 := tf_keepF hF34 ham rfl rfl (by decide) hs24
  have hs57 := tf_keepF hF34 ham rfl rfl (by decide) hs25
  have hs58 := tf_keepF hF34 ham rfl rfl (by decide) hs26
  have hs59 := tf_keepF hF34 ham rfl rfl (by decide) hs27
  have hs60 := tf_keepC hF34 hiz rfl (by decide) hs29
  have hs61 := tf_keepC hF34 hkp rfl (by decide) hs30
  have hs62 := tf_keepC hF34 htm rfl (by decide) hs31
  have hs63 := tf_keepC hF34 hdw rfl (by decide) hs32
  have hI0 := tf_IS1_keep hF34 him (by decide) (by decide) hI0
  have hI1 := tf_IS2_keep hF34 him (by decide) (by decide) hI1
  obtain ⟨hp34_0, hp34_1, hp34_2⟩ := hp34
  obtain ⟨r1_34, hX34_0, hR34_0⟩ := hp34_2
  have hRL := tf_RL_kp hRL hR34_0
  refine lv_pop hx hb dL_law_646 rfl ?_
  refine lv_goto (tgt := 1498) hx hb dL_law_647 (by decide) ?_
  refine W.widen (k := 130 + 30 * jj) (n := 31200 + 1200 * jj) (by omega) (by omega) ?_
  exact hnx _ _ _ hW hax ham ⟨sq, im, ta, dh, lp, lh, yr, wh, ro, iz, kp, tm, dw, (tt), (uu), (dd), gl, gh, gy, gw, tp, gd, r1_34, qq, rk, tq, gm, hsq, him, hta, hdh, hlp, hlh, hyr, hwh, hro, hiz, hkp, htm, hdw, ⟨by omega, by omega⟩, ⟨by omega, by omega⟩, ⟨by omega, by omega⟩, hs35, hs36, hs37, hs38, hs39, hs40, hs41, hs42, hs43, hs44, hs45, hs46, hs47, hs48, hs49, hs50, hs51, hs52, hs53, hs54, tf_eqv hs55 (by omega), hs56, tf_eqv hs57 (by omega), hs58, tf_eqv hs59 (by omega), hX34_0, hs60, hs61, hs62, hs63, hRL, hDD, hTP, hI0, hI1⟩ _ (lv_sub hl [0, 1, 2, 3] rfl)

set_option maxHeartbeats 4000000 in
set_option maxRecDepth 100000 in
theorem lc_650 {p : Program} {l : Launch} {e : Env} {s : State} {m : MethodId} {below : List Frame} {meth : Method} {c : Code} {b L : Nat} {g : tf_G} {sx : Int → Int} {Q : State → Prop} (E : lw_E p s m c b L g sx) (ax am jj : Nat) (ii : Int) (hii : ii = 6 * (jj : Int)) (hij : ii + 6 ≤ (L : Int)) (hnx : lw_nx p l e s m below meth c b g ax am jj ii Q) (T : tf_T) (H : Heap) (locs : List Loc) (hW : tf_n tf_kt g M_law (fun _ => none) s.heap T H locs) (hax : T ax = some (39, 0)) (ham : T am = some (63, 0)) (hI : lw_I g T H ax am) (ls : Array Slot) (hl : lv_has ls 4 [(3, .int (Int32.ofInt ii)), (2, .ref am), (1, .ref ax), (0, .ref b)]) : W p l e room_1 s m #[Value.ref b] below meth c H locs (100 + 30 * jj) (30000 + 1200 * jj) Q (F0 m 650 ls []) := by
  obtain ⟨hx, hb, hml, hown, hts, hbl, hk, hBs, hsx, hX, hL⟩ := id E
  have hR1 := lw_R1
  have hR2 := lw_R2
  have hR3 := lw_R3
  have hR4 := lw_R4
  have hK := hk.1
  have hE : tf_E g T := trivial
  obtain ⟨sq, im, ta, dh, lp, lh, yr, wh, ro, iz, kp, tm, dw, tt, uu, dd, gl, gh, gy, gw, tp, gd, rr, qq, rk, tq, gm, hsq, him, hta, hdh, hlp, hlh, hyr, hwh, hro, hiz, hkp, htm, hdw, htt, huu, hdd, hf0, hf1, hf2, hf3, hf4, hf5, hf6, hf7, hf8, hf9, hf10, hf11, hf12, hf13, hf14, hf15, hf16, hf17, hf18, hf19, hf20, hf21, hf22, hf23, hf24, hf25, hf26, hf27, hf28, hf29, hRL, hDD, hTP, hI0, hI1⟩ := hI
  have hWS : tf_WS gy gw := hRL.2.2
  refine lv_aload_n hx hb dL_law_650 rfl (lv_at hl 2 rfl) ?_
  refine lv_aload_n hx hb dL_law_651 rfl (lv_at hl 3 rfl) ?_
  refine lv_iload_n hx hb dL_law_652 rfl (lv_at hl 0 rfl) ?_
  refine tf_iconst hx hb dL_law_653 ?_
  refine tf_iadd hx hb dL_law_654 ?_
  refine lw_sld (sx := sx) hx hb hX hbl hBs hL hW (by omega) (by omega) dL_law_655 ?_
  have hsx1 := hsx (ii + 1)
  refine lv_aload_n hx hb dL_law_656 rfl (lv_at hl 3 rfl) ?_
  refine lv_iload_n hx hb dL_law_657 rfl (lv_at hl 0 rfl) ?_
  refine tf_iconst hx hb dL_law_658 ?_
  refine tf_iadd hx hb dL_law_659 ?_
  refine lw_sld (sx := sx) hx hb hX hbl hBs hL hW (by omega) (by omega) dL_law_660 ?_
  have hsx2 := hsx (ii + 2)
  refine lv_aload_n hx hb dL_law_661 rfl (lv_at hl 3 rfl) ?_
  refine lv_iload_n hx hb dL_law_662 rfl (lv_at hl 0 rfl) ?_
  refine tf_iconst hx hb dL_law_663 ?_
  refine tf_iadd hx hb dL_law_664 ?_
  refine lw_sld (sx := sx) hx hb hX hbl hBs hL hW (by omega) (by omega) dL_law_665 ?_
  have hsx3 := hsx (ii + 3)
  refine tf_calli (va_runV (As := [.int (Int32.ofInt ((sx (ii + 1)))), .int (Int32.ofInt ((sx (ii + 2)))), .int (Int32.ofInt ((sx (ii + 3))))]) (rest := []) ⟨hx, hb, hml, hown, hts⟩ (c_X9_kind l g T ax hax ((sx (ii + 1))) ⟨by omega, by omega⟩ ((sx (ii + 2))) ⟨by omega, by omega⟩ ((sx (ii + 3))) ⟨by omega, by omega⟩ hE) (cwV 3 hts gv_L_74 rfl rfl rfl hd_X9_kind ⟨Nat.le_trans (by decide) hR1, Nat.le_trans (by decide) hR2⟩) (tf_preV hk hW hax (ci := 9) rfl rfl trivial) rfl rfl hl.1 rfl (lv_room (Nat.le_of_ble_eq_true rfl)) dL_law_666 ⟨Nat.le_trans (by omega) hR3, Nat.le_trans (by omega) hR4⟩) hW (by decide) (fun z4 H4 locs4 hW hF4 hp4 => ?_)
  have hs5 := tf_keepF hF4 hax rfl rfl (by decide) hf0
  have hs6 := tf_keepF hF4 hax rfl rfl (by decide) hf1
  have hs7 := tf_keepF hF4 hax rfl rfl (by decide) hf2
  have hs8 := tf_keepF hF4 hax rfl rfl (by decide) hf3
  have hs9 := tf_keepF hF4 hax rfl rfl (by decide) hf4
  have hs10 := tf_keepF hF4 hax rfl rfl (by decide) hf5
  have hs11 := tf_keepF hF4 hax rfl rfl (by decide) hf6
  have hs12 := tf_keepF hF4 hsq rfl rfl (by decide) hf7
  have hs13 := tf_keepF hF4 hsq rfl rfl (by decide) hf8
  have hs14 := tf_keepF hF4 hsq rfl rfl (by decide) hf9
  have hs15 := tf_keepF hF4 hsq rfl rfl (by decide) hf10
  have hs16 := tf_keepC hF4 hlp rfl (by decide) hf11
  have hs17 := tf_keepC hF4 hlh rfl (by decide) hf12
  have hs18 := tf_keepC hF4 hyr rfl (by decide) hf13
  have hs19 := tf_keepC hF4 hwh rfl (by decide) hf14
  have hs20 := tf_keepC hF4 hta rfl (by decide) hf15
  have hs21 := tf_keepC hF4 hdh rfl (by decide) hf16
  have hs22 := tf_keepF hF4 ham rfl rfl (by decide) hf17
  have hs23 := tf_keepF hF4 ham rfl rfl (by decide) hf18
  have hs24 := tf_keepF hF4 ham rfl rfl (by decide) hf19
  have hs25 := tf_keepF hF4 ham rfl rfl (by decide) hf20
  have hs26 := tf_keepF hF4 ham rfl rfl (by decide) hf21
  have hs27 := tf_keepF hF4 ham rfl rfl (by decide) hf22
  have hs28 := tf_keepF hF4 ham rfl rfl (by decide) hf23
  have hs29 := tf_keepF hF4 ham rfl rfl (by decide) hf24
  have hs30 := tf_keepC hF4 hro rfl (by decide) hf25
  have hs31 := tf_keepC hF4 hiz rfl (by decide) hf26
  have hs32 := tf_keepC hF4 hkp rfl (by decide) hf27
  have hs33 := tf_keepC hF4 htm rfl (by decide) hf28
  have hs34 := tf_keepC hF4 hdw rfl (by decide) hf29
  have hI0 := tf_IS1_keep hF4 him (by decide) (by decide) hI0
  have hI1 := tf_IS2_keep hF4 him (by decide) (by decide) hI1
  obtain ⟨hp4_0, hp4_1⟩ := hp4
  refine lv_pop hx hb dL_law_669 rfl ?_
  refine lv_aload_n hx hb dL_law_670 rfl (lv_at hl 1 rfl) ?_
  refine lv_aload_n hx hb dL_law_671 rfl (lv_at hl 3 rfl) ?_
  refine lv_iload_n hx hb dL_law_672 rfl (lv_at hl 0 rfl) ?_
  refine tf_iconst hx hb dL_law_673 ?_
  refine tf_iadd hx hb dL_law_674 ?_
  refine lw_sld (sx := sx) hx hb hX hbl hBs hL hW (by omega) (by omega) dL_law_675 ?_
  have hsx35 := hsx (ii + 1)
  refine lv_aload_n hx hb dL_law_676 rfl (lv_at hl 3 rfl) ?_
  refine lv_iload_n hx hb dL_law_677 rfl (lv_at hl 0 rfl) ?_
  refine tf_iconst hx hb dL_law_678 ?_
  refine tf_iadd hx hb dL_law_679 ?_
  refine lw_sld (sx := sx) hx hb hX hbl hBs hL hW (by omega) (by omega) dL_law_680 ?_
  have hsx36 := hsx (ii + 2)
  refine lv_aload_n hx hb dL_law_681 rfl (lv_at hl 3 rfl) ?_
  refine lv_iload_n hx hb dL_law_682 rfl (lv_at hl 0 rfl) ?_
  refine tf_iconst hx hb dL_law_683 ?_
  refine tf_iadd hx hb dL_law_684 ?_
  refine lw_sld (sx := sx) hx hb hX hbl hBs hL hW (by omega) (by omega) dL_law_685 ?_
  have hsx37 := hsx (ii + 3)
  refine tf_calli (va_runV (As := [.int (Int32.ofInt ((sx (ii + 1)))), .int (Int32.ofInt ((sx (ii + 2)))), .int (Int32.ofInt ((sx (ii + 3))))]) (rest := []) ⟨hx, hb, hml, hown, hts⟩ (c_X10_kind l g T am ham ((sx (ii + 1))) ⟨by omega, by omega⟩ ((sx (ii + 2))) ⟨by omega, by omega⟩ ((sx (ii + 3))) ⟨by omega, by omega⟩) (cwV 3 hts gv_L_77 rfl rfl rfl hd_X10_kind ⟨Nat.le_trans (by decide) hR1, Nat.le_trans (by decide) hR2⟩) (tf_preV hk hW ham (ci := 10) rfl rfl trivial) rfl rfl hl.1 rfl (lv_room (Nat.le_of_ble_eq_true rfl)) dL_law_686 ⟨Nat.le_trans (by omega) hR3, Nat.le_trans (by omega) hR4⟩) hW (by decide) (fun z38 H38 locs38 hW hF38 hp38 => ?_)
  have hs39 := tf_keepF hF38 hax rfl rfl (by decide) hs5
  have hs40 := tf_keepF hF38 hax rfl rfl (by decide) hs6
  have hs41 := tf_keepF hF38 hax rfl rfl (by decide) hs7
  have hs42 := tf_keepF hF38 hax rfl rfl (by decide) hs8
  have hs43 := tf_keepF hF38 hax rfl rfl (by decide) hs9
  have hs44 := tf_keepF hF38 hax rfl rfl (by decide) hs10
  have hs45 := tf_keepF hF38 hax rfl rfl (by decide) hs11
  have hs46 := tf_keepF hF38 hsq rfl rfl (by decide) hs12
  have hs47 := tf_keepF hF38 hsq rfl rfl (by decide) hs13
  have hs48 := tf_keepF hF38 hsq rfl rfl (by decide) hs14
  have hs49 := tf_keepF hF38 hsq rfl rfl (by decide) hs15
  have hs50 := tf_keepC hF38 hlp rfl (by decide) hs16
  have hs51 := tf_keepC hF38 hlh rfl (by decide) hs17
  have hs52 := tf_keepC hF38 hyr rfl (by decide) hs18
  have hs53 := tf_keepC hF38 hwh rfl (by decide) hs19
  have hs54 := tf_keepC hF38 hta rfl (by decide) hs20
  have hs55 := tf_keepC hF38 hdh rfl (by decide) hs21
  have hs56 := tf_keepF hF38 ham rfl rfl (by decide) hs22
  have hs57 := tf_keepF hF38 ham rfl rfl (by decide) hs23
  have hs58 := tf_keepF hF38 ham rfl rfl (by decide) hs24
  have hs59 := tf_keepF hF38 ham rfl rfl (by decide) hs25
  have hs60 := tf_keepF hF38 ham rfl rfl (by decide) hs26
  have hs61 := tf_keepF hF38 ham rfl rfl (by decide) hs27
  have hs62 := tf_keepF hF38 ham rfl rfl (by decide) hs28
  have hs63 := tf_keepF hF38 ham rfl rfl (by decide) hs29
  have hs64 := tf_keepC hF38 hro rfl (by decide) hs30
  have hs65 := tf_keepC hF38 hiz rfl (by decide) hs31
  have hs66 := tf_keepC hF38 hkp rfl (by decide) hs32
  have hs67 := tf_keepC hF38 htm rfl (by decide) hs33
  have hs68 := tf_keepC hF38 hdw rfl (by decide) hs34
  have hI0 := tf_IS1_keep hF38 him (by decide) (by decide) hI0
  have hI1 := tf_IS2_keep hF38 him (by decide) (by decide) hI1
  obtain ⟨hp38_0, hp38_1⟩ := hp38
  refine lv_pop hx hb dL_law_689 rfl ?_
  refine lv_goto (tgt := 1498) hx hb dL_law_690 (by decide) ?_
  refine W.widen (k := 130 + 30 * jj) (n := 31200 + 1200 * jj) (by omega) (by omega) ?_
  exact hnx _ _ _ hW hax ham ⟨sq, im, ta, dh, lp, lh, yr, wh, ro, iz, kp, tm, dw, (tt), (uu), (dd), gl, gh, gy, gw, tp, gd, rr, qq, rk, tq, gm, hsq, him, hta, hdh, hlp, hlh, hyr, hwh, hro, hiz, hkp, htm, hdw, ⟨by omega, by omega⟩, ⟨by omega, by omega⟩, ⟨by omega, by omega⟩, hs39, hs40, hs41, hs42, hs43, hs44, hs45, hs46, hs47, hs48, hs49, hs50, hs51, hs52, hs53, hs54, hs55, hs56, hs57, hs58, tf_eqv hs59 (by omega), hs60, tf_eqv hs61 (by omega), hs62, tf_eqv hs63 (by omega), hs64, hs65, hs66, hs67, hs68, hRL, hDD, hTP, hI0, hI1⟩ _ (lv_sub hl [0, 1, 2, 3] rfl)

set_option maxHeartbeats 4000000 in
set_option maxRecDepth 100000 in
theorem lc_693 {p : Program} {l : Launch} {e : Env} {s : State} {m : MethodId} {below : List Frame} {meth : Method} {c : Code} {b L : Nat} {g : tf_G} {sx : Int → Int} {Q : State → Prop} (E : lw_E p s m c b L g sx) (ax am jj : Nat) (ii : Int) (hii : ii = 6 * (jj : Int)) (hij : ii + 6 ≤ (L : Int)) (hnx : lw_nx p l e s m below meth c b g ax am jj ii Q) (T : tf_T) (H : Heap) (locs : List Loc) (hW : tf_n tf_kt g M_law (fun _ => none) s.heap T H locs) (hax : T ax = some (39, 0)) (ham : T am = some (63, 0)) (hI : lw_I g T H ax am) (ls : Array Slot) (hl : lv_has ls 4 [(3, .int (Int32.ofInt ii)), (2, .ref am), (1, .ref ax), (0, .ref b)]) : W p l e room_1 s m #[Value.ref b] below meth c H locs (100 + 30 * jj) (30000 + 1200 * jj) Q (F0 m 693 ls []) := by
  obtain ⟨hx, hb, hml, hown, hts, hbl, hk, hBs, hsx, hX, hL⟩ := id E
  have hR1 := lw_R1
  have hR2 := lw_R2
  have hR3 := lw_R3
  have hR4 := lw_R4
  have hK := hk.1
  have hE : tf_E g T := trivial
  obtain ⟨sq, im, ta, dh, lp, lh, yr, wh, ro, iz, kp, tm, dw, tt, uu, dd, gl, gh, gy, gw, tp, gd, rr, qq, rk, tq, gm, hsq, him, hta, hdh, hlp, hlh, hyr, hwh, hro, hiz, hkp, htm, hdw, htt, huu, hdd, hf0, hf1, hf2, hf3, hf4, hf5, hf6, hf7, hf8, hf9, hf10, hf11, hf12, hf13, hf14, hf15, hf16, hf17, hf18, hf19, hf20, hf21, hf22, hf23, hf24, hf25, hf26, hf27, hf28, hf29, hRL, hDD, hTP, hI0, hI1⟩ := hI
  have hWS : tf_WS gy gw := hRL.2.2
  refine lv_aload_n hx hb dL_law_693 rfl (lv_at hl 2 rfl) ?_
  refine lv_aload_n hx hb dL_law_694 rfl (lv_at hl 3 rfl) ?_
  refine lv_iload_n hx hb dL_law_695 rfl (lv_at hl 0 rfl) ?_
  refine tf_iconst hx hb dL_law_696 ?_
  refine tf_iadd hx hb dL_law_697 ?_
  refine lw_sld (sx := sx) hx hb hX hbl hBs hL hW (by omega) (by omega) dL_law_698 ?_
  have hsx1 := hsx (ii + 1)
  refine lv_aload_n hx hb dL_law_699 rfl (lv_at hl 3 rfl) ?_
  refine lv_iload_n hx hb dL_law_700 rfl (lv_at hl 0 rfl) ?_
  refine tf_iconst hx hb dL_law_701 ?_
  refine tf_iadd hx hb dL_law_702 ?_
  refine lw_sld (sx := sx) hx hb hX hbl hBs hL hW (by omega) (by omega) dL_law_703 ?_
  have hsx2 := hsx (ii + 2)
  refine tf_calli (va_runV (As := [.int (Int32.ofInt ((sx (ii + 1)))), .int (Int32.ofInt ((sx (ii + 2))))]) (rest := []) ⟨hx, hb, hml, hown, hts⟩ (c_X9_above l g T ax hax ((sx (ii + 1))) ⟨by omega, by omega⟩ ((sx (ii + 2))) ⟨by omega, by omega⟩ hE) (cwV 2 hts gv_L_78 rfl rfl rfl hd_X9_above ⟨Nat.le_trans (by decide) hR1, Nat.le_trans (by decide) hR2⟩) (tf_preV hk hW hax (ci := 9) rfl rfl trivial) rfl rfl hl.1 rfl (lv_room (Nat.le_of_ble_eq_true rfl)) dL_law_704 ⟨Nat.le_trans (by omega) hR3, Nat.le_trans (by omega) hR4⟩) hW (by decide) (fun z3 H3 locs3 hW hF3 hp3 => ?_)
  have hs4 := tf_keepF hF3 hax rfl rfl (by decide) hf0
  have hs5 := tf_keepF hF3 hax rfl rfl (by decide) hf1
  have hs6 := tf_keepF hF3 hax rfl rfl (by decide) hf2
  have hs7 := tf_keepF hF3 hax rfl rfl (by decide) hf3
  have hs8 := tf_keepF hF3 hax rfl rfl (by decide) hf4
  have hs9 := tf_keepF hF3 hax rfl rfl (by decide) hf5
  have hs10 := tf_keepF hF3 hax rfl rfl (by decide) hf6
  have hs11 := tf_keepF hF3 hsq rfl rfl (by decide) hf7
  have hs12 := tf_keepF hF3 hsq rfl rfl (by decide) hf8
  have hs13 := tf_keepF hF3 hsq rfl rfl (by decide) hf9
  have hs14 := tf_keepF hF3 hsq rfl rfl (by decide) hf10
  have hs15 := tf_keepC hF3 hlp rfl (by decide) hf11
  have hs16 := tf_keepC hF3 hlh rfl (by decide) hf12
  have hs17 := tf_keepC hF3 hyr rfl (by decide) hf13
  have hs18 := tf_keepC hF3 hwh rfl (by decide) hf14
  have hs19 := tf_keepC hF3 hta rfl (by decide) hf15
  have hs20 := tf_keepC hF3 hdh rfl (by decide) hf16
  have hs21 := tf_keepF hF3 ham rfl rfl (by decide) hf17
  have hs22 := tf_keepF hF3 ham rfl rfl (by decide) hf18
  have hs23 := tf_keepF hF3 ham rfl rfl (by decide) hf19
  have hs24 := tf_keepF hF3 ham rfl rfl (by decide) hf20
  have hs25 := tf_keepF hF3 ham rfl rfl (by decide) hf21
  have hs26 := tf_keepF hF3 ham rfl rfl (by decide) hf22
  have hs27 := tf_keepF hF3 ham rfl rfl (by decide) hf23
  have hs28 := tf_keepF hF3 ham rfl rfl (by decide) hf24
  have hs29 := tf_keepC hF3 hro rfl (by decide) hf25
  have hs30 := tf_keepC hF3 hiz rfl (by decide) hf26
  have hs31 := tf_keepC hF3 hkp rfl (by decide) hf27
  have hs32 := tf_keepC hF3 htm rfl (by decide) hf28
  have hs33 := tf_keepC hF3 hdw rfl (by decide) hf29
  have hI0 := tf_IS1_keep hF3 him (by decide) (by decide) hI0
  have hI1 := tf_IS2_keep hF3 him (by decide) (by decide) hI1
  obtain ⟨hp3_0, hp3_1⟩ := hp3
  refine lv_pop hx hb dL_law_707 rfl ?_
  refine lv_aload_n hx hb dL_law_708 rfl (lv_at hl 1 rfl) ?_
  refine lv_aload_n hx hb dL_law_709 rfl (lv_at hl 3 rfl) ?_
  refine lv_iload_n hx hb dL_law_710 rfl (lv_at hl 0 rfl) ?_
  refine tf_iconst hx hb dL_law_711 ?_
  refine tf_iadd hx hb dL_law_712 ?_
  refine lw_sld (sx := sx) hx hb hX hbl hBs hL hW (by omega) (by omega) dL_law_713 ?_
  have hsx34 := hsx (ii + 1)
  refine lv_aload_n hx hb dL_law_714 rfl (lv_at hl 3 rfl) ?_
  refine lv_iload_n hx hb dL_law_715 rfl (lv_at hl 0 rfl) ?_
  refine tf_iconst hx hb dL_law_716 ?_
  refine tf_iadd hx hb dL_law_717 ?_
  refine lw_sld (sx := sx) hx hb hX hbl hBs hL hW (by omega) (by omega) dL_law_718 ?_
  have hsx35 := hsx (ii + 2)
  refine tf_calli (va_runV (As := [.int (Int32.ofInt ((sx (ii + 1)))), .int (Int32.ofInt ((sx (ii + 2))))]) (rest := []) ⟨hx, hb, hml, hown, hts⟩ (c_X10_above l g T am ham ((sx (ii + 1))) ⟨by omega, by omega⟩ ((sx (ii + 2))) ⟨by omega, by omega⟩) (cwV 2 hts gv_L_81 rfl rfl rfl hd_X10_above ⟨Nat.le_trans (by decide) hR1, Nat.le_trans (by decide) hR2⟩) (tf_preV hk hW ham (ci := 10) rfl rfl trivial) rfl rfl hl.1 rfl (lv_room (Nat.le_of_ble_eq_true rfl)) dL_law_719 ⟨Nat.le_trans (by omega) hR3, Nat.le_trans (by omega) hR4⟩) hW (by decide) (fun z36 H36 locs36 hW hF36 hp36 => ?_)
  have hs37 := tf_keepF hF36 hax rfl rfl (by decide) hs4
  have hs38 := tf_keepF hF36 hax rfl rfl (by decide) hs5
  have hs39 := tf_keepF hF36 hax rfl rfl (by decide) hs6
  have hs40 := tf_keepF hF36 hax rfl rfl (by decide) hs7
  have hs41 := tf_keepF hF36 hax rfl rfl (by decide) hs8
  have hs42 := tf_keepF hF36 hax rfl rfl (by decide) hs9
  have hs43 := tf_keepF hF36 hax rfl rfl (by decide) hs10
  have hs44 := tf_keepF hF36 hsq rfl rfl (by decide) hs11
  have hs45 := tf_keepF hF36 hsq rfl rfl (by decide) hs12
  have hs46 := tf_keepF hF36 hsq rfl rfl (by decide) hs13
  have hs47 := tf_keepF hF36 hsq rfl rfl (by decide) hs14
  have hs48 := tf_keepC hF36 hlp rfl (by decide) hs15
  have hs49 := tf_keepC hF36 hlh rfl (by decide) hs16
  have hs50 := tf_keepC hF36 hyr rfl (by decide) hs17
  have hs51 := tf_keepC hF36 hwh rfl (by decide) hs18
  have hs52 := tf_keepC hF36 hta rfl (by decide) hs19
  have hs53 := tf_keepC hF36 hdh rfl (by decide) hs20
  have hs54 := tf_keepF hF36 ham rfl rfl (by decide) hs21
  have hs55 := tf_keepF hF36 ham rfl rfl (by decide) hs22
  have hs56 := tf_keepF hF36 ham rfl rfl (by decide) hs23
  have hs57 := tf_keepF hF36 ham rfl rfl (by decide) hs24
  have hs58 := tf_keepF hF36 ham rfl rfl (by decide) hs25
  have hs59 := tf_keepF hF36 ham rfl rfl (by decide) hs26
  have hs60 := tf_keepF hF36 ham rfl rfl (by decide) hs27
  have hs61 := tf_keepF hF36 ham rfl rfl (by decide) hs28
  have hs62 := tf_keepC hF36 hro rfl (by decide) hs29
  have hs63 := tf_keepC hF36 hiz rfl (by decide) hs30
  have hs64 := tf_keepC hF36 hkp rfl (by decide) hs31
  have hs65 := tf_keepC hF36 htm rfl (by decide) hs32
  have hs66 := tf_keepC hF36 hdw rfl (by decide) hs33
  have hI0 := tf_IS1_keep hF36 him (by decide) (by decide) hI0
  have hI1 := tf_IS2_keep hF36 him (by decide) (by decide) hI1
  obtain ⟨hp36_0, hp36_1⟩ := hp36
  refine lv_pop hx hb dL_law_722 rfl ?_
  refine lv_goto (tgt := 1498) hx hb dL_law_723 (by decide) ?_
  refine W.widen (k := 130 + 30 * jj) (n := 31200 + 1200 * jj) (by omega) (by omega) ?_
  exact hnx _ _ _ hW hax ham ⟨sq, im, ta, dh, lp, lh, yr, wh, ro, iz, kp, tm, dw, (tt), (uu), (dd), gl, gh, gy, gw, tp, gd, rr, qq, rk, tq, gm, hsq, him, hta, hdh, hlp, hlh, hyr, hwh, hro, hiz, hkp, htm, hdw, ⟨by omega, by omega⟩, ⟨by omega, by omega⟩, ⟨by omega, by omega⟩, hs37, hs38, hs39, hs40, hs41, hs42, hs43, hs44, hs45, hs46, hs47, hs48, hs49, hs50, hs51, hs52, hs53, hs54, hs55, hs56, tf_eqv hs57 (by omega), hs58, tf_eqv hs59 (by omega), hs60, tf_eqv hs61 (by omega), hs62, hs63, hs64, hs65, hs66, hRL, hDD, hTP, hI0, hI1⟩ _ (lv_sub hl [0, 1, 2, 3] rfl)

set_option maxHeartbeats 4000000 in
set_option maxRecDepth 100000 in
theorem lc_726 {p : Program} {l : Launch} {e : Env} {s : State} {m : MethodId} {below : List Frame} {meth : Method} {c : Code} {b L : Nat} {g : tf_G} {sx : Int → Int} {Q : State → Prop} (E : lw_E p s m c b L g sx) (ax am jj : Nat) (ii : Int) (hii : ii = 6 * (jj : Int)) (hij : ii + 6 ≤ (L : Int)) (hnx : lw_nx p l e s m below meth c b g ax am jj ii Q) (T : tf_T) (H : Heap) (locs : List Loc) (hW : tf_n tf_kt g M_law (fun _ => none) s.heap T H locs) (hax : T ax = some (39, 0)) (ham : T am = some (63, 0)) (hI : lw_I g T H ax am) (ls : Array Slot) (hl : lv_has ls 4 [(3, .int (Int32.ofInt ii)), (2, .ref am), (1, .ref ax), (0, .ref b)]) : W p l e room_1 s m #[Value.ref b] below meth c H locs (100 + 30 * jj) (30000 + 1200 * jj) Q (F0 m 726 ls []) := by
  obtain ⟨hx, hb, hml, hown, hts, hbl, hk, hBs, hsx, hX, hL⟩ := id E
  have hR1 := lw_R1
  have hR2 := lw_R2
  have hR3 := lw_R3
  have hR4 := lw_R4
  have hK := hk.1
  have hE : tf_E g T := trivial
  obtain ⟨sq, im, ta, dh, lp, lh, yr, wh, ro, iz, kp, tm, dw, tt, uu, dd, gl, gh, gy, gw, tp, gd, rr, qq, rk, tq, gm, hsq, him, hta, hdh, hlp, hlh, hyr, hwh, hro, hiz, hkp, htm, hdw, htt, huu, hdd, hf0, hf1, hf2, hf3, hf4, hf5, hf6, hf7, hf8, hf9, hf10, hf11, hf12, hf13, hf14, hf15, hf16, hf17, hf18, hf19, hf20, hf21, hf22, hf23, hf24, hf25, hf26, hf27, hf28, hf29, hRL, hDD, hTP, hI0, hI1⟩ := hI
  have hWS : tf_WS gy gw := hRL.2.2
  refine lv_aload_n hx hb dL_law_726 rfl (lv_at hl 2 rfl) ?_
  refine lv_aload_n hx hb dL_law_727 rfl (lv_at hl 3 rfl) ?_
  refine lv_iload_n hx hb dL_law_728 rfl (lv_at hl 0 rfl) ?_
  refine tf_iconst hx hb dL_law_729 ?_
  refine tf_iadd hx hb dL_law_730 ?_
  refine lw_sld (sx := sx) hx hb hX hbl hBs hL hW (by omega) (by omega) dL_law_731 ?_
  have hsx1 := hsx (ii + 1)
  refine tf_calli (va_runV (As := [.int (Int32.ofInt ((sx (ii + 1))))]) (rest := []) ⟨hx, hb, hml, hown, hts⟩ (c_X9_over l g T ax hax ((sx (ii + 1))) ⟨by omega, by omega⟩ hE) (cwV 1 hts gv_L_82 rfl rfl rfl hd_X9_over ⟨Nat.le_trans (by decide) hR1, Nat.le_trans (by decide) hR2⟩) (tf_preV hk hW hax (ci := 9) rfl rfl trivial) rfl rfl hl.1 rfl (lv_room (Nat.le_of_ble_eq_true rfl)) dL_law_732 ⟨Nat.le_trans (by omega) hR3, Nat.le_trans (by omega) hR4⟩) hW (by decide) (fun z2 H2 locs2 hW hF2 hp2 => ?_)
  have hs3 := tf_keepF hF2 hax rfl rfl (by decide) hf0
  have hs4 := tf_keepF hF2 hax rfl rfl (by decide) hf1
  have hs5 := tf_keepF hF2 hax rfl rfl (by decide) hf2
  have hs6 := tf_keepF hF2 hax rfl rfl (by decide) hf3
  have hs7 := tf_keepF hF2 hax rfl rfl (by decide) hf4
  have hs8 := tf_keepF hF2 hax rfl rfl (by decide) hf5
  have hs9 := tf_keepF hF2 hax rfl rfl (by decide) hf6
  have hs10 := tf_keepF hF2 hsq rfl rfl (by decide) hf7
  have hs11 := tf_keepF hF2 hsq rfl rfl (by decide) hf8
  have hs12 := tf_keepF hF2 hsq rfl rfl (by decide) hf9
  have hs13 := tf_keepF hF2 hsq rfl rfl (by decide) hf10
  have hs14 := tf_keepC hF2 hlp rfl (by decide) hf11
  have hs15 := tf_keepC hF2 hlh rfl (by decide) hf12
  have hs16 := tf_keepC hF2 hyr rfl (by decide) hf13
  have hs17 := tf_keepC hF2 hwh rfl (by decide) hf14
  have hs18 := tf_keepC hF2 hta rfl (by decide) hf15
  have hs19 := tf_keepC hF2 hdh rfl (by decide) hf16
  have hs20 := tf_keepF hF2 ham rfl rfl (by decide) hf17
  have hs21 := tf_keepF hF2 ham rfl rfl (by decide) hf18
  have hs22 := tf_keepF hF2 ham rfl rfl (by decide) hf19
  have hs23 := tf_keepF hF2 ham rfl rfl (by decide) hf20
  have hs24 := tf_keepF hF2 ham rfl rfl (by decide) hf21
  have hs25 := tf_keepF hF2 ham rfl rfl (by decide) hf22
  have hs26 := tf_keepF hF2 ham rfl rfl (by decide) hf23
  have hs27 := tf_keepF hF2 ham rfl rfl (by decide) hf24
  have hs28 := tf_keepC hF2 hro rfl (by decide) hf25
  have hs29 := tf_keepC hF2 hiz rfl (by decide) hf26
  have hs30 := tf_keepC hF2 hkp rfl (by decide) hf27
  have hs31 := tf_keepC hF2 htm rfl (by decide) hf28
  have hs32 := tf_keepC hF2 hdw rfl (by decide) hf29
  have hI0 := tf_IS1_keep hF2 him (by decide) (by decide) hI0
  have hI1 := tf_IS2_keep hF2 him (by decide) (by decide) hI1
  obtain ⟨hp2_0, hp2_1⟩ := hp2
  refine lv_pop hx hb dL_law_735 rfl ?_
  refine lv_aload_n hx hb dL_law_736 rfl (lv_at hl 1 rfl) ?_
  refine lv_aload_n hx hb dL_law_737 rfl (lv_at hl 3 rfl) ?_
  refine lv_iload_n hx hb dL_law_738 rfl (lv_at hl 0 rfl) ?_
  refine tf_iconst hx hb dL_law_739 ?_
  refine tf_iadd hx hb dL_law_740 ?_
  refine lw_sld (sx := sx) hx hb hX hbl hBs hL hW (by omega) (by omega) dL_law_741 ?_
  have hsx33 := hsx (ii + 1)
  refine tf_calli (va_runV (As := [.int (Int32.ofInt ((sx (ii + 1))))]) (rest := []) ⟨hx, hb, hml, hown, hts⟩ (c_X10_over l g T am ham ((sx (ii + 1))) ⟨by omega, by omega⟩) (cwV 1 hts gv_L_85 rfl rfl rfl hd_X10_over ⟨Nat.le_trans (by decide) hR1, Nat.le_trans (by decide) hR2⟩) (tf_preV hk hW ham (ci := 10) rfl rfl trivial) rfl rfl hl.1 rfl (lv_room (Nat.le_of_ble_eq_true rfl)) dL_law_742 ⟨Nat.le_trans (by omega) hR3, Nat.le_trans (by omega) hR4⟩) hW (by decide) (fun z34 H34 locs34 hW hF34 hp34 => ?_)
  have hs35 := tf_keepF hF34 hax rfl rfl (by decide) hs3
  have hs36 := tf_keepF hF34 hax rfl rfl (by decide) hs4
  have hs37 := tf_keepF hF34 hax rfl rfl (by decide) hs5
  have hs38 := tf_keepF hF34 hax rfl rfl (by decide) hs6
  have hs39 := tf_keepF hF34 hax rfl rfl (by decide) hs7
  have hs40 := tf_keepF hF34 hax rfl rfl (by decide) hs8
  have hs41 := tf_keepF hF34 hax rfl rfl (by decide) hs9
  have hs42 := tf_keepF hF34 hsq rfl rfl (by decide) hs10
  have hs43 := tf_keepF hF34 hsq rfl rfl (by decide) hs11
  have hs44 := tf_keepF hF34 hsq rfl rfl (by decide) hs12
  have hs45 := tf_keepF hF34 hsq rfl rfl (by decide) hs13
  have hs46 := tf_keepC hF34 hlp rfl (by decide) hs14
  have hs47 := tf_keepC hF34 hlh rfl (by decide) hs15
  have hs48 := tf_keepC hF34 hyr rfl (by decide) hs16
  have hs49 := tf_keepC hF34 hwh rfl (by decide) hs17
  have hs50 := tf_keepC hF34 hta rfl (by decide) hs18
  have hs51 := tf_keepC hF34 hdh rfl (by decide) hs19
  have hs52 := tf_keepF hF34 ham rfl rfl (by decide) hs20
  have hs53 := tf_keepF hF34 ham rfl rfl (by decide) hs21
  have hs54 := tf_keepF hF34 ham rfl rfl (by decide) hs22
  have hs55 := tf_keepF hF34 ham rfl rfl (by decide) hs23
  have hs56 := tf_keepF hF34 ham rfl rfl (by decide) hs24
  have hs57 := tf_keepF hF34 ham rfl rfl (by decide) hs25
  have hs58 := tf_keepF hF34 ham rfl rfl (by decide) hs26
  have hs59 := tf_keepF hF34 ham rfl rfl (by decide) hs27
  have hs60 := tf_keepC hF34 hro rfl (by decide) hs28
  have hs61 := tf_keepC hF34 hiz rfl (by decide) hs29
  have hs62 := tf_keepC hF34 hkp rfl (by decide) hs30
  have hs63 := tf_keepC hF34 htm rfl (by decide) hs31
  have hs64 := tf_keepC hF34 hdw rfl (by decide) hs32
  have hI0 := tf_IS1_keep hF34 him (by decide) (by decide) hI0
  have hI1 := tf_IS2_keep hF34 him (by decide) (by decide) hI1
  obtain ⟨hp34_0, hp34_1⟩ := hp34
  refine lv_pop hx hb dL_law_745 rfl ?_
  refine lv_goto (tgt := 1498) hx hb dL_law_746 (by decide) ?_
  refine W.widen (k := 130 + 30 * jj) (n := 31200 + 1200 * jj) (by omega) (by omega) ?_
  exact hnx _ _ _ hW hax ham ⟨sq, im, ta, dh, lp, lh, yr, wh, ro, iz, kp, tm, dw, (tt), (uu), (dd), gl, gh, gy, gw, tp, gd, rr, qq, rk, tq, gm, hsq, him, hta, hdh, hlp, hlh, hyr, hwh, hro, hiz, hkp, htm, hdw, ⟨by omega, by omega⟩, ⟨by omega, by omega⟩, ⟨by omega, by omega⟩, hs35, hs36, hs37, hs38, hs39, hs40, hs41, hs42, hs43, hs44, hs45, hs46, hs47, hs48, hs49, hs50, hs51, hs52, hs53, hs54, tf_eqv hs55 (by omega), hs56, tf_eqv hs57 (by omega), hs58, tf_eqv hs59 (by omega), hs60, hs61, hs62, hs63, hs64, hRL, hDD, hTP, hI0, hI1⟩ _ (lv_sub hl [0, 1, 2, 3] rfl)

set_option maxHeartbeats 4000000 in
set_option maxRecDepth 100000 in
theorem lc_749 {p : Program} {l : Launch} {e : Env} {s : State} {m : MethodId} {below : List Frame} {meth : Method} {c : Code} {b L : Nat} {g : tf_G} {sx : Int → Int} {Q : State → Prop} (E : lw_E p s m c b L g sx) (ax am jj : Nat) (ii : Int) (hii : ii = 6 * (jj : Int)) (hij : ii + 6 ≤ (L : Int)) (hnx : lw_nx p l e s m below meth c b g ax am jj ii Q) (T : tf_T) (H : Heap) (locs : List Loc) (hW : tf_n tf_kt g M_law (fun _ => none) s.heap T H locs) (hax : T ax = some (39, 0)) (ham : T am = some (63, 0)) (hI : lw_I g T H ax am) (ls : Array Slot) (hl : lv_has ls 4 [(3, .int (Int32.ofInt ii)), (2, .ref am), (1, .ref ax), (0, .ref b)]) : W p l e room_1 s m #[Value.ref b] below meth c H locs (100 + 30 * jj) (30000 + 1200 * jj) Q (F0 m 749 ls []) := by
  obtain ⟨hx, hb, hml, hown, hts, hbl, hk, hBs, hsx, hX, hL⟩ := id E
  have hR1 := lw_R1
  have hR2 := lw_R2
  have hR3 := lw_R3
  have hR4 := lw_R4
  have hK := hk.1
  have hE : tf_E g T := trivial
  obtain ⟨sq, im, ta, dh, lp, lh, yr, wh, ro, iz, kp, tm, dw, tt, uu, dd, gl, gh, gy, gw, tp, gd, rr, qq, rk, tq, gm, hsq, him, hta, hdh, hlp, hlh, hyr, hwh, hro, hiz, hkp, htm, hdw, htt, huu, hdd, hf0, hf1, hf2, hf3, hf4, hf5, hf6, hf7, hf8, hf9, hf10, hf11, hf12, hf13, hf14, hf15, hf16, hf17, hf18, hf19, hf20, hf21, hf22, hf23, hf24, hf25, hf26, hf27, hf28, hf29, hRL, hDD, hTP, hI0, hI1⟩ := hI
  have hWS : tf_WS gy gw := hRL.2.2
  refine lv_aload_n hx hb dL_law_749 rfl (lv_at hl 2 rfl) ?_
  refine lv_aload_n hx hb dL_law_750 rfl (lv_at hl 3 rfl) ?_
  refine lv_iload_n hx hb dL_law_751 rfl (lv_at hl 0 rfl) ?_
  refine tf_iconst hx hb dL_law_752 ?_
  refine tf_iadd hx hb dL_law_753 ?_
  refine lw_sld (sx := sx) hx hb hX hbl hBs hL hW (by omega) (by omega) dL_law_754 ?_
  have hsx1 := hsx (ii + 1)
  refine tf_calli (va_runV (As := [.int (Int32.ofInt ((sx (ii + 1))))]) (rest := []) ⟨hx, hb, hml, hown, hts⟩ (c_X9_bad l g T ax hax ((sx (ii + 1))) ⟨by omega, by omega⟩ hE) (cwV 1 hts gv_L_86 rfl rfl rfl hd_X9_bad ⟨Nat.le_trans (by decide) hR1, Nat.le_trans (by decide) hR2⟩) (tf_preV hk hW hax (ci := 9) rfl rfl trivial) rfl rfl hl.1 rfl (lv_room (Nat.le_of_ble_eq_true rfl)) dL_law_755 ⟨Nat.le_trans (by omega) hR3, Nat.le_trans (by omega) hR4⟩) hW (by decide) (fun z2 H2 locs2 hW hF2 hp2 => ?_)
  have hs3 := tf_keepF hF2 hax rfl rfl (by decide) hf0
  have hs4 := tf_keepF hF2 hax rfl rfl (by decide) hf1
  have hs5 := tf_keepF hF2 hax rfl rfl (by decide) hf2
  have hs6 := tf_keepF hF2 hax rfl rfl (by decide) hf3
  have hs7 := tf_keepF hF2 hax rfl rfl (by decide) hf4
  have hs8 := tf_keepF hF2 hax rfl rfl (by decide) hf5
  have hs9 := tf_keepF hF2 hax rfl rfl (by decide) hf6
  have hs10 := tf_keepF hF2 hsq rfl rfl (by decide) hf7
  have hs11 := tf_keepF hF2 hsq rfl rfl (by decide) hf8
  have hs12 := tf_keepF hF2 hsq rfl rfl (by decide) hf9
  have hs13 := tf_keepF hF2 hsq rfl rfl (by decide) hf10
  have hs14 := tf_keepC hF2 hlp rfl (by decide) hf11
  have hs15 := tf_keepC hF2 hlh rfl (by decide) hf12
  have hs16 := tf_keepC hF2 hyr rfl (by decide) hf13
  have hs17 := tf_keepC hF2 hwh rfl (by decide) hf14
  have hs18 := tf_keepC hF2 hta rfl (by decide) hf15
  have hs19 := tf_keepC hF2 hdh rfl (by decide) hf16
  have hs20 := tf_keepF hF2 ham rfl rfl (by decide) hf17
  have hs21 := tf_keepF hF2 ham rfl rfl (by decide) hf18
  have hs22 := tf_keepF hF2 ham rfl rfl (by decide) hf19
  have hs23 := tf_keepF hF2 ham rfl rfl (by decide) hf20
  have hs24 := tf_keepF hF2 ham rfl rfl (by decide) hf21
  have hs25 := tf_keepF hF2 ham rfl rfl (by decide) hf22
  have hs26 := tf_keepF hF2 ham rfl rfl (by decide) hf23
  have hs27 := tf_keepF hF2 ham rfl rfl (by decide) hf24
  have hs28 := tf_keepC hF2 hro rfl (by decide) hf25
  have hs29 := tf_keepC hF2 hiz rfl (by decide) hf26
  have hs30 := tf_keepC hF2 hkp rfl (by decide) hf27
  have hs31 := tf_keepC hF2 htm rfl (by decide) hf28
  have hs32 := tf_keepC hF2 hdw rfl (by decide) hf29
  have hI0 := tf_IS1_keep hF2 him (by decide) (by decide) hI0
  have hI1 := tf_IS2_keep hF2 him (by decide) (by decide) hI1
  obtain ⟨hp2_0, hp2_1⟩ := hp2
  refine lv_pop hx hb dL_law_758 rfl ?_
  refine lv_aload_n hx hb dL_law_759 rfl (lv_at hl 1 rfl) ?_
  refine lv_aload_n hx hb dL_law_760 rfl (lv_at hl 3 rfl) ?_
  refine lv_iload_n hx hb dL_law_761 rfl (lv_at hl 0 rfl) ?_
  refine tf_iconst hx hb dL_law_762 ?_
  refine tf_iadd hx hb dL_law_763 ?_
  refine lw_sld (sx := sx) hx hb hX hbl hBs hL hW (by omega) (by omega) dL_law_764 ?_
  have hsx33 := hsx (ii + 1)
  refine tf_calli (va_runV (As := [.int (Int32.ofInt ((sx (ii + 1))))]) (rest := []) ⟨hx, hb, hml, hown, hts⟩ (c_X10_bad l g T am ham ((sx (ii + 1))) ⟨by omega, by omega⟩) (cwV 1 hts gv_L_89 rfl rfl rfl hd_X10_bad ⟨Nat.le_trans (by decide) hR1, Nat.le_trans (by decide) hR2⟩) (tf_preV hk hW ham (ci := 10) rfl rfl trivial) rfl rfl hl.1 rfl (lv_room (Nat.le_of_ble_eq_true rfl)) dL_law_765 ⟨Nat.le_trans (by omega) hR3, Nat.le_trans (by omega) hR4⟩) hW (by decide) (fun z34 H34 locs34 hW hF34 hp34 => ?_)
  have hs35 := tf_keepF hF34 hax rfl rfl (by decide) hs3
  have hs36 := tf_keepF hF34 hax rfl rfl (by decide) hs4
  have hs37 := tf_keepF hF34 hax rfl rfl (by decide) hs5
  have hs38 := tf_keepF hF34 hax rfl rfl (by decide) hs6
  have hs39 := tf_keepF hF34 hax rfl rfl (by decide) hs7
  have hs40 := tf_keepF hF34 hax rfl rfl (by decide) hs8
  have hs41 := tf_keepF hF34 hax rfl rfl (by decide) hs9
  have hs42 := tf_keepF hF34 hsq rfl rfl (by decide) hs10
  have hs43 := tf_keepF hF34 hsq rfl rfl (by decide) hs11
  have hs44 := tf_keepF hF34 hsq rfl rfl (by decide) hs12
  have hs45 := tf_keepF hF34 hsq rfl rfl (by decide) hs13
  have hs46 := tf_keepC hF34 hlp rfl (by decide) hs14
  have hs47 := tf_keepC hF34 hlh rfl (by decide) hs15
  have hs48 := tf_keepC hF34 hyr rfl (by decide) hs16
  have hs49 := tf_keepC hF34 hwh rfl (by decide) hs17
  have hs50 := tf_keepC hF34 hta rfl (by decide) hs18
  have hs51 := tf_keepC hF34 hdh rfl (by decide) hs19
  have hs52 := tf_keepF hF34 ham rfl rfl (by decide) hs20
  have hs53 := tf_keepF hF34 ham rfl rfl (by decide) hs21
  have hs54 := tf_keepF hF34 ham rfl rfl (by decide) hs22
  have hs55 := tf_keepF hF34 ham rfl rfl (by decide) hs23
  have hs56 := tf_keepF hF34 ham rfl rfl (by decide) hs24
  have hs57 := tf_keepF hF34 ham rfl rfl (by decide) hs25
  have hs58 := tf_keepF hF34 ham rfl rfl (by decide) hs26
  have hs59 := tf_keepF hF34 ham rfl rfl (by decide) hs27
  have hs60 := tf_keepC hF34 hro rfl (by decide) hs28
  have hs61 := tf_keepC hF34 hiz rfl (by decide) hs29
  have hs62 := tf_keepC hF34 hkp rfl (by decide) hs30
  have hs63 := tf_keepC hF34 htm rfl (by decide) hs31
  have hs64 := tf_keepC hF34 hdw rfl (by decide) hs32
  have hI0 := tf_IS1_keep hF34 him (by decide) (by decide) hI0
  have hI1 := tf_IS2_keep hF34 him (by decide) (by decide) hI1
  obtain ⟨hp34_0, hp34_1⟩ := hp34
  refine lv_pop hx hb dL_law_768 rfl ?_
  refine lv_goto (tgt := 1498) hx hb dL_law_769 (by decide) ?_
  refine W.widen (k := 130 + 30 * jj) (n := 31200 + 1200 * jj) (by omega) (by omega) ?_
  exact hnx _ _ _ hW hax ham ⟨sq, im, ta, dh, lp, lh, yr, wh, ro, iz, kp, tm, dw, (tt), (uu), (dd), gl, gh, gy, gw, tp, gd, rr, qq, rk, tq, gm, hsq, him, hta, hdh, hlp, hlh, hyr, hwh, hro, hiz, hkp, htm, hdw, ⟨by omega, by omega⟩, ⟨by omega, by omega⟩, ⟨by omega, by omega⟩, hs35, hs36, hs37, hs38, hs39, hs40, hs41, hs42, hs43, hs44, hs45, hs46, hs47, hs48, hs49, hs50, hs51, hs52, hs53, hs54, tf_eqv hs55 (by omega), hs56, tf_eqv hs57 (by omega), hs58, tf_eqv hs59 (by omega), hs60, hs61, hs62, hs63, hs64, hRL, hDD, hTP, hI0, hI1⟩ _ (lv_sub hl [0, 1, 2, 3] rfl)

set_option maxHeartbeats 4000000 in
set_option maxRecDepth 100000 in
theorem lc_772 {p : Program} {l : Launch} {e : Env} {s : State} {m : MethodId} {below : List Frame} {meth : Method} {c : Code} {b L : Nat} {g : tf_G} {sx : Int → Int} {Q : State → Prop} (E : lw_E p s m c b L g sx) (ax am jj : Nat) (ii : Int) (hii : ii = 6 * (jj : Int)) (hij : ii + 6 ≤ (L : Int)) (hnx : lw_nx p l e s m below meth c b g ax am jj ii Q) (T : tf_T) (H : Heap) (locs : List Loc) (hW : tf_n tf_kt g M_law (fun _ => none) s.heap T H locs) (hax : T ax = some (39, 0)) (ham : T am = some (63, 0)) (hI : lw_I g T H ax am) (ls : Array Slot) (hl : lv_has ls 4 [(3, .int (Int32.ofInt ii)), (2, .ref am), (1, .ref ax), (0, .ref b)]) : W p l e room_1 s m #[Value.ref b] below meth c H locs (100 + 30 * jj) (30000 + 1200 * jj) Q (F0 m 772 ls []) := by
  obtain ⟨hx, hb, hml, hown, hts, hbl, hk, hBs, hsx, hX, hL⟩ := id E
  have hR1 := lw_R1
  have hR2 := lw_R2
  have hR3 := lw_R3
  have hR4 := lw_R4
  have hK := hk.1
  have hE : tf_E g T := trivial
  obtain ⟨sq, im, ta, dh, lp, lh, yr, wh, ro, iz, kp, tm, dw, tt, uu, dd, gl, gh, gy, gw, tp, gd, rr, qq, rk, tq, gm, hsq, him, hta, hdh, hlp, hlh, hyr, hwh, hro, hiz, hkp, htm, hdw, htt, huu, hdd, hf0, hf1, hf2, hf3, hf4, hf5, hf6, hf7, hf8, hf9, hf10, hf11, hf12, hf13, hf14, hf15, hf16, hf17, hf18, hf19, hf20, hf21, hf22, hf23, hf24, hf25, hf26, hf27, hf28, hf29, hRL, hDD, hTP, hI0, hI1⟩ := hI
  have hWS : tf_WS gy gw := hRL.2.2
  refine lv_aload_n hx hb dL_law_772 rfl (lv_at hl 2 rfl) ?_
  refine lv_aload_n hx hb dL_law_773 rfl (lv_at hl 3 rfl) ?_
  refine lv_iload_n hx hb dL_law_774 rfl (lv_at hl 0 rfl) ?_
  refine tf_iconst hx hb dL_law_775 ?_
  refine tf_iadd hx hb dL_law_776 ?_
  refine lw_sld (sx := sx) hx hb hX hbl hBs hL hW (by omega) (by omega) dL_law_777 ?_
  have hsx1 := hsx (ii + 1)
  refine lv_aload_n hx hb dL_law_778 rfl (lv_at hl 3 rfl) ?_
  refine lv_iload_n hx hb dL_law_779 rfl (lv_at hl 0 rfl) ?_
  refine tf_iconst hx hb dL_law_780 ?_
  refine tf_iadd hx hb dL_law_781 ?_
  refine lw_sld (sx := sx) hx hb hX hbl hBs hL hW (by omega) (by omega) dL_law_782 ?_
  have hsx2 := hsx (ii + 2)
  refine tf_calli (va_runV (As := [.int (Int32.ofInt ((sx (ii + 1)))), .int (Int32.ofInt ((sx (ii + 2))))]) (rest := []) ⟨hx, hb, hml, hown, hts⟩ (c_X9_kinds l g T ax hax ((sx (ii + 1))) ⟨by omega, by omega⟩ ((sx (ii + 2))) ⟨by omega, by omega⟩ hE) (cwV 2 hts gv_L_90 rfl rfl rfl hd_X9_kinds ⟨Nat.le_trans (by decide) hR1, Nat.le_trans (by decide) hR2⟩) (tf_preV hk hW hax (ci := 9) rfl rfl trivial) rfl rfl hl.1 rfl (lv_room (Nat.le_of_ble_eq_true rfl)) dL_law_783 ⟨Nat.le_trans (by omega) hR3, Nat.le_trans (by omega) hR4⟩) hW (by decide) (fun z3 H3 locs3 hW hF3 hp3 => ?_)
  have hs4 := tf_keepF hF3 hax rfl rfl (by decide) hf0
  have hs5 := tf_keepF hF3 hax rfl rfl (by decide) hf1
  have hs6 := tf_keepF hF3 hax rfl rfl (by decide) hf2
  have hs7 := tf_keepF hF3 hax rfl rfl (by decide) hf3
  have hs8 := tf_keepF hF3 hax rfl rfl (by decide) hf4
  have hs9 := tf_keepF hF3 hax rfl rfl (by decide) hf5
  have hs10 := tf_keepF hF3 hax rfl rfl (by decide) hf6
  have hs11 := tf_keepF hF3 hsq rfl rfl (by decide) hf7
  have hs12 := tf_keepF hF3 hsq rfl rfl (by decide) hf8
  have hs13 := tf_keepF hF3 hsq rfl rfl (by decide) hf9
  have hs14 := tf_keepF hF3 hsq rfl rfl (by decide) hf10
  have hs15 := tf_keepC hF3 hlp rfl (by decide) hf11
  have hs16 := tf_keepC hF3 hlh rfl (by decide) hf12
  have hs17 := tf_keepC hF3 hyr rfl (by decide) hf13
  have hs18 := tf_keepC hF3 hwh rfl (by decide) hf14
  have hs19 := tf_keepC hF3 hta rfl (by decide) hf15
  have hs20 := tf_keepC hF3 hdh rfl (by decide) hf16
  have hs21 := tf_keepF hF3 ham rfl rfl (by decide) hf17
  have hs22 := tf_keepF hF3 ham rfl rfl (by decide) hf18
  have hs23 := tf_keepF hF3 ham rfl rfl (by decide) hf19
  have hs24 := tf_keepF hF3 ham rfl rfl (by decide) hf20
  have hs25 := tf_keepF hF3 ham rfl rfl (by decide) hf21
  have hs26 := tf_keepF hF3 ham rfl rfl (by decide) hf22
  have hs27 := tf_keepF hF3 ham rfl rfl (by decide) hf23
  have hs28 := tf_keepF hF3 ham rfl rfl (by decide) hf24
  have hs29 := tf_keepC hF3 hro rfl (by decide) hf25
  have hs30 := tf_keepC hF3 hiz rfl (by decide) hf26
  have hs31 := tf_keepC hF3 hkp rfl (by decide) hf27
  have hs32 := tf_keepC hF3 htm rfl (by decide) hf28
  have hs33 := tf_keepC hF3 hdw rfl (by decide) hf29
  have hI0 := tf_IS1_keep hF3 him (by decide) (by decide) hI0
  have hI1 := tf_IS2_keep hF3 him (by decide) (by decide) hI1
  obtain ⟨hp3_0, hp3_1⟩ := hp3
  refine lv_pop hx hb dL_law_786 rfl ?_
  refine lv_aload_n hx hb dL_law_787 rfl (lv_at hl 1 rfl) ?_
  refine lv_aload_n hx hb dL_law_788 rfl (lv_at hl 3 rfl) ?_
  refine lv_iload_n hx hb dL_law_789 rfl (lv_at hl 0 rfl) ?_
  refine tf_iconst hx hb dL_law_790 ?_
  refine tf_iadd hx hb dL_law_791 ?_
  refine lw_sld (sx := sx) hx hb hX hbl hBs hL hW (by omega) (by omega) dL_law_792 ?_
  have hsx34 := hsx (ii + 1)
  refine lv_aload_n hx hb dL_law_793 rfl (lv_at hl 3 rfl) ?_
  refine lv_iload_n hx hb dL_law_794 rfl (lv_at hl 0 rfl) ?_
  refine tf_iconst hx hb dL_law_795 ?_
  refine tf_iadd hx hb dL_law_796 ?_
  refine lw_sld (sx := sx) hx hb hX hbl hBs hL hW (by omega) (by omega) dL_law_797 ?_
  have hsx35 := hsx (ii + 2)
  refine tf_calli (va_runV (As := [.int (Int32.ofInt ((sx (ii + 1)))), .int (Int32.ofInt ((sx (ii + 2))))]) (rest := []) ⟨hx, hb, hml, hown, hts⟩ (c_X10_kinds l g T am ham ((sx (ii + 1))) ⟨by omega, by omega⟩ ((sx (ii + 2))) ⟨by omega, by omega⟩) (cwV 2 hts gv_L_93 rfl rfl rfl hd_X10_kinds ⟨Nat.le_trans (by decide) hR1, Nat.le_trans (by decide) hR2⟩) (tf_preV hk hW ham (ci := 10) rfl rfl trivial) rfl rfl hl.1 rfl (lv_room (Nat.le_of_ble_eq_true rfl)) dL_law_798 ⟨Nat.le_trans (by omega) hR3, Nat.le_trans (by omega) hR4⟩) hW (by decide) (fun z36 H36 locs36 hW hF36 hp36 => ?_)
  have hs37 := tf_keepF hF36 hax rfl rfl (by decide) hs4
  have hs38 := tf_keepF hF36 hax rfl rfl (by decide) hs5
  have hs39 := tf_keepF hF36 hax rfl rfl (by decide) hs6
  have hs40 := tf_keepF hF36 hax rfl rfl (by decide) hs7
  have hs41 := tf_keepF hF36 hax rfl rfl (by decide) hs8
  have hs42 := tf_keepF hF36 hax rfl rfl (by decide) hs9
  have hs43 := tf_keepF hF36 hax rfl rfl (by decide) hs10
  have hs44 := tf_keepF hF36 hsq rfl rfl (by decide) hs11
  have hs45 := tf_keepF hF36 hsq rfl rfl (by decide) hs12
  have hs46 := tf_keepF hF36 hsq rfl rfl (by decide) hs13
  have hs47 := tf_keepF hF36 hsq rfl rfl (by decide) hs14
  have hs48 := tf_keepC hF36 hlp rfl (by decide) hs15
  have hs49 := tf_keepC hF36 hlh rfl (by decide) hs16
  have hs50 := tf_keepC hF36 hyr rfl (by decide) hs17
  have hs51 := tf_keepC hF36 hwh rfl (by decide) hs18
  have hs52 := tf_keepC hF36 hta rfl (by decide) hs19
  have hs53 := tf_keepC hF36 hdh rfl (by decide) hs20
  have hs54 := tf_keepF hF36 ham rfl rfl (by decide) hs21
  have hs55 := tf_keepF hF36 ham rfl rfl (by decide) hs22
  have hs56 := tf_keepF hF36 ham rfl rfl (by decide) hs23
  have hs57 := tf_keepF hF36 ham rfl rfl (by decide) hs24
  have hs58 := tf_keepF hF36 ham rfl rfl (by decide) hs25
  have hs59 := tf_keepF hF36 ham rfl rfl (by decide) hs26
  have hs60 := tf_keepF hF36 ham rfl rfl (by decide) hs27
  have hs61 := tf_keepF hF36 ham rfl rfl (by decide) hs28
  have hs62 := tf_keepC hF36 hro rfl (by decide) hs29
  have hs63 := tf_keepC hF36 hiz rfl (by decide) hs30
  have hs64 := tf_keepC hF36 hkp rfl (by decide) hs31
  have hs65 := tf_keepC hF36 htm rfl (by decide) hs32
  have hs66 := tf_keepC hF36 hdw rfl (by decide) hs33
  have hI0 := tf_IS1_keep hF36 him (by decide) (by decide) hI0
  have hI1 := tf_IS2_keep hF36 him (by decide) (by decide) hI1
  obtain ⟨hp36_0, hp36_1⟩ := hp36
  refine lv_pop hx hb dL_law_801 rfl ?_
  refine lv_goto (tgt := 1498) hx hb dL_law_802 (by decide) ?_
  refine W.widen (k := 130 + 30 * jj) (n := 31200 + 1200 * jj) (by omega) (by omega) ?_
  exact hnx _ _ _ hW hax ham ⟨sq, im, ta, dh, lp, lh, yr, wh, ro, iz, kp, tm, dw, (tt), (uu), (dd), gl, gh, gy, gw, tp, gd, rr, qq, rk, tq, gm, hsq, him, hta, hdh, hlp, hlh, hyr, hwh, hro, hiz, hkp, htm, hdw, ⟨by omega, by omega⟩, ⟨by omega, by omega⟩, ⟨by omega, by omega⟩, hs37, hs38, hs39, hs40, hs41, hs42, hs43, hs44, hs45, hs46, hs47, hs48, hs49, hs50, hs51, hs52, hs53, hs54, hs55, hs56, tf_eqv hs57 (by omega), hs58, tf_eqv hs59 (by omega), hs60, tf_eqv hs61 (by omega), hs62, hs63, hs64, hs65, hs66, hRL, hDD, hTP, hI0, hI1⟩ _ (lv_sub hl [0, 1, 2, 3] rfl)

set_option maxHeartbeats 4000000 in
set_option maxRecDepth 100000 in
theorem lc_805 {p : Program} {l : Launch} {e : Env} {s : State} {m : MethodId} {below : List Frame} {meth : Method} {c : Code} {b L : Nat} {g : tf_G} {sx : Int → Int} {Q : State → Prop} (E : lw_E p s m c b L g sx) (ax am jj : Nat) (ii : Int) (hii : ii = 6 * (jj : Int)) (hij : ii + 6 ≤ (L : Int)) (hnx : lw_nx p l e s m below meth c b g ax am jj ii Q) (T : tf_T) (H : Heap) (locs : List Loc) (hW : tf_n tf_kt g M_law (fun _ => none) s.heap T H locs) (hax : T ax = some (39, 0)) (ham : T am = some (63, 0)) (hI : lw_I g T H ax am) (ls : Array Slot) (hl : lv_has ls 4 [(3, .int (Int32.ofInt ii)), (2, .ref am), (1, .ref ax), (0, .ref b)]) : W p l e room_1 s m #[Value.ref b] below meth c H locs (100 + 30 * jj) (30000 + 1200 * jj) Q (F0 m 805 ls []) := by
  obtain ⟨hx, hb, hml, hown, hts, hbl, hk, hBs, hsx, hX, hL⟩ := id E
  have hR1 := lw_R1
  have hR2 := lw_R2
  have hR3 := lw_R3
  have hR4 := lw_R4
  have hK := hk.1
  have hE : tf_E g T := trivial
  obtain ⟨sq, im, ta, dh, lp, lh, yr, wh, ro, iz, kp, tm, dw, tt, uu, dd, gl, gh, gy, gw, tp, gd, rr, qq, rk, tq, gm, hsq, him, hta, hdh, hlp, hlh, hyr, hwh, hro, hiz, hkp, htm, hdw, htt, huu, hdd, hf0, hf1, hf2, hf3, hf4, hf5, hf6, hf7, hf8, hf9, hf10, hf11, hf12, hf13, hf14, hf15, hf16, hf17, hf18, hf19, hf20, hf21, hf22, hf23, hf24, hf25, hf26, hf27, hf28, hf29, hRL, hDD, hTP, hI0, hI1⟩ := hI
  have hWS : tf_WS gy gw := hRL.2.2
  refine lv_aload_n hx hb dL_law_805 rfl (lv_at hl 2 rfl) ?_
  refine lv_aload_n hx hb dL_law_806 rfl (lv_at hl 3 rfl) ?_
  refine lv_iload_n hx hb dL_law_807 rfl (lv_at hl 0 rfl) ?_
  refine tf_iconst hx hb dL_law_808 ?_
  refine tf_iadd hx hb dL_law_809 ?_
  refine lw_sld (sx := sx) hx hb hX hbl hBs hL hW (by omega) (by omega) dL_law_810 ?_
  have hsx1 := hsx (ii + 1)
  refine tf_calli (va_runV (As := [.int (Int32.ofInt ((sx (ii + 1))))]) (rest := []) ⟨hx, hb, hml, hown, hts⟩ (c_X9_does l g T ax hax ((sx (ii + 1))) ⟨by omega, by omega⟩ hE) (cwV 1 hts gv_L_94 rfl rfl rfl hd_X9_does ⟨Nat.le_trans (by decide) hR1, Nat.le_trans (by decide) hR2⟩) (tf_preV hk hW hax (ci := 9) rfl rfl trivial) rfl rfl hl.1 rfl (lv_room (Nat.le_of_ble_eq_true rfl)) dL_law_811 ⟨Nat.le_trans (by omega) hR3, Nat.le_trans (by omega) hR4⟩) hW (by decide) (fun z2 H2 locs2 hW hF2 hp2 => ?_)
  have hs3 := tf_keepF hF2 hax rfl rfl (by decide) hf0
  have hs4 := tf_keepF hF2 hax rfl rfl (by decide) hf1
  have hs5 := tf_keepF hF2 hax rfl rfl (by decide) hf2
  have hs6 := tf_keepF hF2 hax rfl rfl (by decide) hf3
  have hs7 := tf_keepF hF2 hax rfl rfl (by decide) hf4
  have hs8 := tf_keepF hF2 hax rfl rfl (by decide) hf5
  have hs9 := tf_keepF hF2 hax rfl rfl (by decide) hf6
  have hs10 := tf_keepF hF2 hsq rfl rfl (by decide) hf7
  have hs11 := tf_keepF hF2 hsq rfl rfl (by decide) hf8
  have hs12 := tf_keepF hF2 hsq rfl rfl (by decide) hf9
  have hs13 := tf_keepF hF2 hsq rfl rfl (by decide) hf10
  have hs14 := tf_keepC hF2 hlp rfl (by decide) hf11
  have hs15 := tf_keepC hF2 hlh rfl (by decide) hf12
  have hs16 := tf_keepC hF2 hyr rfl (by decide) hf13
  have hs17 := tf_keepC hF2 hwh rfl (by decide) hf14
  have hs18 := tf_keepC hF2 hta rfl (by decide) hf15
  have hs19 := tf_keepC hF2 hdh rfl (by decide) hf16
  have hs20 := tf_keepF hF2 ham rfl rfl (by decide) hf17
  have hs21 := tf_keepF hF2 ham rfl rfl (by decide) hf18
  have hs22 := tf_keepF hF2 ham rfl rfl (by decide) hf19
  have hs23 := tf_keepF hF2 ham rfl rfl (by decide) hf20
  have hs24 := tf_keepF hF2 ham rfl rfl (by decide) hf21
  have hs25 := tf_keepF hF2 ham rfl rfl (by decide) hf22
  have hs26 := tf_keepF hF2 ham rfl rfl (by decide) hf23
  have hs27 := tf_keepF hF2 ham rfl rfl (by decide) hf24
  have hs28 := tf_keepC hF2 hro rfl (by decide) hf25
  have hs29 := tf_keepC hF2 hiz rfl (by decide) hf26
  have hs30 := tf_keepC hF2 hkp rfl (by decide) hf27
  have hs31 := tf_keepC hF2 htm rfl (by decide) hf28
  have hs32 := tf_keepC hF2 hdw rfl (by decide) hf29
  have hI0 := tf_IS1_keep hF2 him (by decide) (by decide) hI0
  have hI1 := tf_IS2_keep hF2 him (by decide) (by decide) hI1
  obtain ⟨hp2_0, hp2_1⟩ := hp2
  refine lv_pop hx hb dL_law_814 rfl ?_
  refine lv_aload_n hx hb dL_law_815 rfl (lv_at hl 1 rfl) ?_
  refine lv_aload_n hx hb dL_law_816 rfl (lv_at hl 3 rfl) ?_
  refine lv_iload_n hx hb dL_law_817 rfl (lv_at hl 0 rfl) ?_
  refine tf_iconst hx hb dL_law_818 ?_
  refine tf_iadd hx hb dL_law_819 ?_
  refine lw_sld (sx := sx) hx hb hX hbl hBs hL hW (by omega) (by omega) dL_law_820 ?_
  have hsx33 := hsx (ii + 1)
  refine tf_calli (va_runV (As := [.int (Int32.ofInt ((sx (ii + 1))))]) (rest := []) ⟨hx, hb, hml, hown, hts⟩ (c_X10_does l g T am ham ((sx (ii + 1))) ⟨by omega, by omega⟩) (cwV 1 hts gv_L_97 rfl rfl rfl hd_X10_does ⟨Nat.le_trans (by decide) hR1, Nat.le_trans (by decide) hR2⟩) (tf_preV hk hW ham (ci := 10) rfl rfl trivial) rfl rfl hl.1 rfl (lv_room (Nat.le_of_ble_eq_true rfl)) dL_law_821 ⟨Nat.le_trans (by omega) hR3, Nat.le_trans (by omega) hR4⟩) hW (by decide) (fun z34 H34 locs34 hW hF34 hp34 => ?_)
  have hs35 := tf_keepF hF34 hax rfl rfl (by decide) hs3
  have hs36 := tf_keepF hF34 hax rfl rfl (by decide) hs4
  have hs37 := tf_keepF hF34 hax rfl rfl (by decide) hs5
  have hs38 := tf_keepF hF34 hax rfl rfl (by decide) hs6
  have hs39 := tf_keepF hF34 hax rfl rfl (by decide) hs7
  have hs40 := tf_keepF hF34 hax rfl rfl (by decide) hs8
  have hs41 := tf_keepF hF34 hax rfl rfl (by decide) hs9
  have hs42 := tf_keepF hF34 hsq rfl rfl (by decide) hs10
  have hs43 := tf_keepF hF34 hsq rfl rfl (by decide) hs11
  have hs44 := tf_keepF hF34 hsq rfl rfl (by decide) hs12
  have hs45 := tf_keepF hF34 hsq rfl rfl (by decide) hs13
  have hs46 := tf_keepC hF34 hlp rfl (by decide) hs14
  have hs47 := tf_keepC hF34 hlh rfl (by decide) hs15
  have hs48 := tf_keepC hF34 hyr rfl (by decide) hs16
  have hs49 := tf_keepC hF34 hwh rfl (by decide) hs17
  have hs50 := tf_keepC hF34 hta rfl (by decide) hs18
  have hs51 := tf_keepC hF34 hdh rfl (by decide) hs19
  have hs52 := tf_keepF hF34 ham rfl rfl (by decide) hs20
  have hs53 := tf_keepF hF34 ham rfl rfl (by decide) hs21
  have hs54 := tf_keepF hF34 ham rfl rfl (by decide) hs22
  have hs55 := tf_keepF hF34 ham rfl rfl (by decide) hs23
  have hs56 := tf_keepF hF34 ham rfl rfl (by decide) hs24
  have hs57 := tf_keepF hF34 ham rfl rfl (by decide) hs25
  have hs58 := tf_keepF hF34 ham rfl rfl (by decide) hs26
  have hs59 := tf_keepF hF34 ham rfl rfl (by decide) hs27
  have hs60 := tf_keepC hF34 hro rfl (by decide) hs28
  have hs61 := tf_keepC hF34 hiz rfl (by decide) hs29
  have hs62 := tf_keepC hF34 hkp rfl (by decide) hs30
  have hs63 := tf_keepC hF34 htm rfl (by decide) hs31
  have hs64 := tf_keepC hF34 hdw rfl (by decide) hs32
  have hI0 := tf_IS1_keep hF34 him (by decide) (by decide) hI0
  have hI1 := tf_IS2_keep hF34 him (by decide) (by decide) hI1
  obtain ⟨hp34_0, hp34_1⟩ := hp34
  refine lv_pop hx hb dL_law_824 rfl ?_
  refine lv_goto (tgt := 1498) hx hb dL_law_825 (by decide) ?_
  refine W.widen (k := 130 + 30 * jj) (n := 31200 + 1200 * jj) (by omega) (by omega) ?_
  exact hnx _ _ _ hW hax ham ⟨sq, im, ta, dh, lp, lh, yr, wh, ro, iz, kp, tm, dw, (tt), (uu), (dd), gl, gh, gy, gw, tp, gd, rr, qq, rk, tq, gm, hsq, him, hta, hdh, hlp, hlh, hyr, hwh, hro, hiz, hkp, htm, hdw, ⟨by omega, by omega⟩, ⟨by omega, by omega⟩, ⟨by omega, by omega⟩, hs35, hs36, hs37, hs38, hs39, hs40, hs41, hs42, hs43, hs44, hs45, hs46, hs47, hs48, hs49, hs50, hs51, hs52, hs53, hs54, tf_eqv hs55 (by omega), hs56, tf_eqv hs57 (by omega), hs58, tf_eqv hs59 (by omega), hs60, hs61, hs62, hs63, hs64, hRL, hDD, hTP, hI0, hI1⟩ _ (lv_sub hl [0, 1, 2, 3] rfl)

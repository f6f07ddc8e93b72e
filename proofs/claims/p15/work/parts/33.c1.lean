set_option maxHeartbeats 4000000 in
set_option maxRecDepth 100000 in
theorem lc_588 {p : Program} {l : Launch} {e : Env} {s : State} {m : MethodId} {below : List Frame} {meth : Method} {c : Code} {b L : Nat} {g : tf_G} {sx : Int → Int} {Q : State → Prop} (E : lw_E p s m c b L g sx) (ax am jj : Nat) (ii : Int) (hii : ii = 6 * (jj : Int)) (hij : ii + 6 ≤ (L : Int)) (hnx : lw_nx p l e s m below meth c b g ax am jj ii Q) (T : tf_T) (H : Heap) (locs : List Loc) (hW : tf_n tf_kt g M_law (fun _ => none) s.heap T H locs) (hax : T ax = some (39, 0)) (ham : T am = some (63, 0)) (hI : lw_I g T H ax am) (ls : Array Slot) (hl : lv_has ls 4 [(3, .int (Int32.ofInt ii)), (2, .ref am), (1, .ref ax), (0, .ref b)]) : W p l e room_1 s m #[Value.ref b] below meth c H locs (100 + 30 * jj) (30000 + 1200 * jj) Q (F0 m 588 ls []) := by
  obtain ⟨hx, hb, hml, hown, hts, hbl, hk, hBs, hsx, hX, hL⟩ := id E
  have hR1 := lw_R1
  have hR2 := lw_R2
  have hR3 := lw_R3
  have hR4 := lw_R4
  have hK := hk.1
  have hE : tf_E g T := trivial
  obtain ⟨sq, im, ta, dh, lp, lh, yr, wh, ro, iz, kp, tm, dw, wd, tt, uu, dd, lm, fo, fp, gl, gh, gy, gw, tp, gd, rr, qq, rk, tq, gm, gW, hsq, him, hta, hdh, hlp, hlh, hyr, hwh, hro, hiz, hkp, htm, hdw, hwd, htt, huu, hdd, hlm, hfo, hfp, hf0, hf1, hf2, hf3, hf4, hf5, hf6, hf7, hf8, hf9, hf10, hf11, hf12, hf13, hf14, hf15, hf16, hf17, hf18, hf19, hf20, hf21, hf22, hf23, hf24, hf25, hf26, hf27, hf28, hf29, hf30, hf31, hf32, hf33, hf34, hf35, hRL, hDD, hTP, hWW, hLM, hI0, hI1⟩ := hI
  have hWS : tf_WS gy gw := hRL.2.2
  refine lv_aload_n hx hb dL_law_588 rfl (lv_at hl 2 rfl) ?_
  refine tf_calli (va_runV (As := []) (rest := []) ⟨hx, hb, hml, hown, hts⟩ (c_X9_torn l g T ax hax (uu) ⟨by omega, by omega⟩) (cwV 0 hts gv_L_58 rfl rfl rfl hd_X9_torn ⟨Nat.le_trans (by decide) hR1, Nat.le_trans (by decide) hR2⟩) (tf_preV hk hW hax (ci := 9) rfl rfl hf4) rfl rfl hl.1 rfl (lv_room (Nat.le_of_ble_eq_true rfl)) dL_law_589 ⟨Nat.le_trans (by omega) hR3, Nat.le_trans (by omega) hR4⟩) hW (by decide) (fun z1 H1 locs1 hW hF1 hp1 => ?_)
  have hs2 := tf_keepF hF1 hax rfl rfl (by decide) hf0
  have hs3 := tf_keepF hF1 hax rfl rfl (by decide) hf1
  have hs4 := tf_keepF hF1 hax rfl rfl (by decide) hf2
  have hs5 := tf_keepF hF1 hax rfl rfl (by decide) hf3
  have hs6 := tf_keepF hF1 hax rfl rfl (by decide) hf4
  have hs7 := tf_keepF hF1 hax rfl rfl (by decide) hf5
  have hs8 := tf_keepF hF1 hax rfl rfl (by decide) hf6
  have hs9 := tf_keepF hF1 hax rfl rfl (by decide) hf7
  have hs10 := tf_keepF hF1 hsq rfl rfl (by decide) hf8
  have hs11 := tf_keepF hF1 hsq rfl rfl (by decide) hf9
  have hs12 := tf_keepF hF1 hsq rfl rfl (by decide) hf10
  have hs13 := tf_keepF hF1 hsq rfl rfl (by decide) hf11
  have hs14 := tf_keepF hF1 hsq rfl rfl (by decide) hf12
  have hs15 := tf_keepF hF1 hsq rfl rfl (by decide) hf13
  have hs16 := tf_keepC hF1 hlp rfl (by decide) hf14
  have hs17 := tf_keepC hF1 hlh rfl (by decide) hf15
  have hs18 := tf_keepC hF1 hyr rfl (by decide) hf16
  have hs19 := tf_keepC hF1 hwh rfl (by decide) hf17
  have hs20 := tf_keepC hF1 hta rfl (by decide) hf18
  have hs21 := tf_keepC hF1 hdh rfl (by decide) hf19
  have hs22 := tf_keepF hF1 ham rfl rfl (by decide) hf20
  have hs23 := tf_keepF hF1 ham rfl rfl (by decide) hf21
  have hs24 := tf_keepF hF1 ham rfl rfl (by decide) hf22
  have hs25 := tf_keepF hF1 ham rfl rfl (by decide) hf23
  have hs26 := tf_keepF hF1 ham rfl rfl (by decide) hf24
  have hs27 := tf_keepF hF1 ham rfl rfl (by decide) hf25
  have hs28 := tf_keepF hF1 ham rfl rfl (by decide) hf26
  have hs29 := tf_keepF hF1 ham rfl rfl (by decide) hf27
  have hs30 := tf_keepF hF1 ham rfl rfl (by decide) hf28
  have hs31 := tf_keepF hF1 ham rfl rfl (by decide) hf29
  have hs32 := tf_keepC hF1 hro rfl (by decide) hf30
  have hs33 := tf_keepC hF1 hiz rfl (by decide) hf31
  have hs34 := tf_keepC hF1 hkp rfl (by decide) hf32
  have hs35 := tf_keepC hF1 htm rfl (by decide) hf33
  have hs36 := tf_keepC hF1 hdw rfl (by decide) hf34
  have hs37 := tf_keepC hF1 hwd rfl (by decide) hf35
  have hI0 := tf_IS1_keep hF1 him (by decide) (by decide) hI0
  have hI1 := tf_IS2_keep hF1 him (by decide) (by decide) hI1
  obtain ⟨hp1_0, hp1_1, hp1_2⟩ := hp1
  refine lv_pop hx hb dL_law_592 rfl ?_
  refine lv_aload_n hx hb dL_law_593 rfl (lv_at hl 1 rfl) ?_
  refine tf_calli (va_runV (As := []) (rest := []) ⟨hx, hb, hml, hown, hts⟩ (c_X10_torn l g T am ham (uu) ⟨by omega, by omega⟩) (cwV 0 hts gv_L_61 rfl rfl rfl hd_X10_torn ⟨Nat.le_trans (by decide) hR1, Nat.le_trans (by decide) hR2⟩) (tf_preV hk hW ham (ci := 10) rfl rfl hs25) rfl rfl hl.1 rfl (lv_room (Nat.le_of_ble_eq_true rfl)) dL_law_594 ⟨Nat.le_trans (by omega) hR3, Nat.le_trans (by omega) hR4⟩) hW (by decide) (fun z38 H38 locs38 hW hF38 hp38 => ?_)
  have hs39 := tf_keepF hF38 hax rfl rfl (by decide) hs2
  have hs40 := tf_keepF hF38 hax rfl rfl (by decide) hs3
  have hs41 := tf_keepF hF38 hax rfl rfl (by decide) hs4
  have hs42 := tf_keepF hF38 hax rfl rfl (by decide) hs5
  have hs43 := tf_keepF hF38 hax rfl rfl (by decide) hs6
  have hs44 := tf_keepF hF38 hax rfl rfl (by decide) hs7
  have hs45 := tf_keepF hF38 hax rfl rfl (by decide) hs8
  have hs46 := tf_keepF hF38 hax rfl rfl (by decide) hs9
  have hs47 := tf_keepF hF38 hsq rfl rfl (by decide) hs10
  have hs48 := tf_keepF hF38 hsq rfl rfl (by decide) hs11
  have hs49 := tf_keepF hF38 hsq rfl rfl (by decide) hs12
  have hs50 := tf_keepF hF38 hsq rfl rfl (by decide) hs13
  have hs51 := tf_keepF hF38 hsq rfl rfl (by decide) hs14
  have hs52 := tf_keepF hF38 hsq rfl rfl (by decide) hs15
  have hs53 := tf_keepC hF38 hlp rfl (by decide) hs16
  have hs54 := tf_keepC hF38 hlh rfl (by decide) hs17
  have hs55 := tf_keepC hF38 hyr rfl (by decide) hs18
  have hs56 := tf_keepC hF38 hwh rfl (by decide) hs19
  have hs57 := tf_keepC hF38 hta rfl (by decide) hs20
  have hs58 := tf_keepC hF38 hdh rfl (by decide) hs21
  have hs59 := tf_keepF hF38 ham rfl rfl (by decide) hs22
  have hs60 := tf_keepF hF38 ham rfl rfl (by decide) hs23
  have hs61 := tf_keepF hF38 ham rfl rfl (by decide) hs24
  have hs62 := tf_keepF hF38 ham rfl rfl (by decide) hs25
  have hs63 := tf_keepF hF38 ham rfl rfl (by decide) hs26
  have hs64 := tf_keepF hF38 ham rfl rfl (by decide) hs27
  have hs65 := tf_keepF hF38 ham rfl rfl (by decide) hs28
  have hs66 := tf_keepF hF38 ham rfl rfl (by decide) hs29
  have hs67 := tf_keepF hF38 ham rfl rfl (by decide) hs30
  have hs68 := tf_keepF hF38 ham rfl rfl (by decide) hs31
  have hs69 := tf_keepC hF38 hro rfl (by decide) hs32
  have hs70 := tf_keepC hF38 hiz rfl (by decide) hs33
  have hs71 := tf_keepC hF38 hkp rfl (by decide) hs34
  have hs72 := tf_keepC hF38 htm rfl (by decide) hs35
  have hs73 := tf_keepC hF38 hdw rfl (by decide) hs36
  have hs74 := tf_keepC hF38 hwd rfl (by decide) hs37
  have hI0 := tf_IS1_keep hF38 him (by decide) (by decide) hI0
  have hI1 := tf_IS2_keep hF38 him (by decide) (by decide) hI1
  obtain ⟨hp38_0, hp38_1, hp38_2⟩ := hp38
  refine lv_pop hx hb dL_law_597 rfl ?_
  refine lv_goto (tgt := 1498) hx hb dL_law_598 (by decide) ?_
  refine W.widen (k := 130 + 30 * jj) (n := 31200 + 1200 * jj) (by omega) (by omega) ?_
  exact hnx _ _ _ hW hax ham ⟨sq, im, ta, dh, lp, lh, yr, wh, ro, iz, kp, tm, dw, wd, (tt), (uu), (dd), (lm), (fo), (fp), gl, gh, gy, gw, tp, gd, rr, qq, rk, tq, gm, gW, hsq, him, hta, hdh, hlp, hlh, hyr, hwh, hro, hiz, hkp, htm, hdw, hwd, ⟨by omega, by omega⟩, ⟨by omega, by omega⟩, ⟨by omega, by omega⟩, ⟨by omega, by omega⟩, ⟨by omega, by omega⟩, ⟨by omega, by omega⟩, hs39, hs40, hs41, hs42, hs43, hs44, hs45, hs46, hs47, hs48, hs49, hs50, hs51, hs52, hs53, hs54, hs55, hs56, hs57, hs58, hs59, hs60, hs61, tf_eqv hs62 (by omega), hs63, tf_eqv hs64 (by omega), tf_eqv hs65 (by omega), hs66, hs67, tf_eqv hs68 (by omega), hs69, hs70, hs71, hs72, hs73, hs74, hRL, hDD, hTP, hWW, hLM, hI0, hI1⟩ _ (lv_sub hl [0, 1, 2, 3] rfl)

set_option maxHeartbeats 4000000 in
set_option maxRecDepth 100000 in
theorem lc_601 {p : Program} {l : Launch} {e : Env} {s : State} {m : MethodId} {below : List Frame} {meth : Method} {c : Code} {b L : Nat} {g : tf_G} {sx : Int → Int} {Q : State → Prop} (E : lw_E p s m c b L g sx) (ax am jj : Nat) (ii : Int) (hii : ii = 6 * (jj : Int)) (hij : ii + 6 ≤ (L : Int)) (hnx : lw_nx p l e s m below meth c b g ax am jj ii Q) (T : tf_T) (H : Heap) (locs : List Loc) (hW : tf_n tf_kt g M_law (fun _ => none) s.heap T H locs) (hax : T ax = some (39, 0)) (ham : T am = some (63, 0)) (hI : lw_I g T H ax am) (ls : Array Slot) (hl : lv_has ls 4 [(3, .int (Int32.ofInt ii)), (2, .ref am), (1, .ref ax), (0, .ref b)]) : W p l e room_1 s m #[Value.ref b] below meth c H locs (100 + 30 * jj) (30000 + 1200 * jj) Q (F0 m 601 ls []) := by
  obtain ⟨hx, hb, hml, hown, hts, hbl, hk, hBs, hsx, hX, hL⟩ := id E
  have hR1 := lw_R1
  have hR2 := lw_R2
  have hR3 := lw_R3
  have hR4 := lw_R4
  have hK := hk.1
  have hE : tf_E g T := trivial
  obtain ⟨sq, im, ta, dh, lp, lh, yr, wh, ro, iz, kp, tm, dw, wd, tt, uu, dd, lm, fo, fp, gl, gh, gy, gw, tp, gd, rr, qq, rk, tq, gm, gW, hsq, him, hta, hdh, hlp, hlh, hyr, hwh, hro, hiz, hkp, htm, hdw, hwd, htt, huu, hdd, hlm, hfo, hfp, hf0, hf1, hf2, hf3, hf4, hf5, hf6, hf7, hf8, hf9, hf10, hf11, hf12, hf13, hf14, hf15, hf16, hf17, hf18, hf19, hf20, hf21, hf22, hf23, hf24, hf25, hf26, hf27, hf28, hf29, hf30, hf31, hf32, hf33, hf34, hf35, hRL, hDD, hTP, hWW, hLM, hI0, hI1⟩ := hI
  have hWS : tf_WS gy gw := hRL.2.2
  refine lv_aload_n hx hb dL_law_601 rfl (lv_at hl 2 rfl) ?_
  refine tf_callI (va_runV (As := []) (rest := []) ⟨hx, hb, hml, hown, hts⟩ (c_X9_law l g T ax hax sq hsq ta hta (lm) ⟨by omega, by omega⟩ (fp) ⟨by omega, by omega⟩ (tt) ⟨by omega, by omega⟩ tp) (cwV 0 hts gv_L_62 rfl rfl rfl hd_X9_law ⟨Nat.le_trans (by decide) hR1, Nat.le_trans (by decide) hR2⟩) (tf_preV hk hW hax (ci := 9) rfl rfl ⟨hf0, hf12, hf5, hf3, hf2, hf18⟩) rfl rfl hl.1 rfl (lv_room (Nat.le_of_ble_eq_true rfl)) dL_law_602 ⟨Nat.le_trans (by omega) hR3, Nat.le_trans (by omega) hR4⟩) hW (by decide) (fun z1 H1 locs1 T hW hE1 hF1 hp1 => ?_)
  have hs2 := tf_keepF hF1 hax rfl rfl (by decide) hf0
  have hs3 := tf_keepF hF1 hax rfl rfl (by decide) hf1
  have hs4 := tf_keepF hF1 hax rfl rfl (by decide) hf2
  have hs5 := tf_keepF hF1 hax rfl rfl (by decide) hf4
  have hs6 := tf_keepF hF1 hax rfl rfl (by decide) hf6
  have hs7 := tf_keepF hF1 hax rfl rfl (by decide) hf7
  have hs8 := tf_keepF hF1 hsq rfl rfl (by decide) hf8
  have hs9 := tf_keepF hF1 hsq rfl rfl (by decide) hf9
  have hs10 := tf_keepF hF1 hsq rfl rfl (by decide) hf10
  have hs11 := tf_keepF hF1 hsq rfl rfl (by decide) hf11
  have hs12 := tf_keepF hF1 hsq rfl rfl (by decide) hf13
  have hs13 := tf_keepC hF1 hlp rfl (by decide) hf14
  have hs14 := tf_keepC hF1 hlh rfl (by decide) hf15
  have hs15 := tf_keepC hF1 hyr rfl (by decide) hf16
  have hs16 := tf_keepC hF1 hwh rfl (by decide) hf17
  have hs17 := tf_keepC hF1 hta rfl (by decide) hf18
  have hs18 := tf_keepC hF1 hdh rfl (by decide) hf19
  have hs19 := tf_keepF hF1 ham rfl rfl (by decide) hf20
  have hs20 := tf_keepF hF1 ham rfl rfl (by decide) hf21
  have hs21 := tf_keepF hF1 ham rfl rfl (by decide) hf22
  have hs22 := tf_keepF hF1 ham rfl rfl (by decide) hf23
  have hs23 := tf_keepF hF1 ham rfl rfl (by decide) hf24
  have hs24 := tf_keepF hF1 ham rfl rfl (by decide) hf25
  have hs25 := tf_keepF hF1 ham rfl rfl (by decide) hf26
  have hs26 := tf_keepF hF1 ham rfl rfl (by decide) hf27
  have hs27 := tf_keepF hF1 ham rfl rfl (by decide) hf28
  have hs28 := tf_keepF hF1 ham rfl rfl (by decide) hf29
  have hs29 := tf_keepC hF1 hro rfl (by decide) hf30
  have hs30 := tf_keepC hF1 hiz rfl (by decide) hf31
  have hs31 := tf_keepC hF1 hkp rfl (by decide) hf32
  have hs32 := tf_keepC hF1 htm rfl (by decide) hf33
  have hs33 := tf_keepC hF1 hdw rfl (by decide) hf34
  have hs34 := tf_keepC hF1 hwd rfl (by decide) hf35
  have hI0 := tf_IS1_keep hF1 him (by decide) (by decide) hI0
  have hI1 := tf_IS2_keep hF1 him (by decide) (by decide) hI1
  have ham := hE1 _ _ ham
  have hax := hE1 _ _ hax
  have hsq := hE1 _ _ hsq
  have him := hE1 _ _ him
  have hta := hE1 _ _ hta
  have hdh := hE1 _ _ hdh
  have hlp := hE1 _ _ hlp
  have hlh := hE1 _ _ hlh
  have hyr := hE1 _ _ hyr
  have hwh := hE1 _ _ hwh
  have hro := hE1 _ _ hro
  have hiz := hE1 _ _ hiz
  have hkp := hE1 _ _ hkp
  have htm := hE1 _ _ htm
  have hwd := hE1 _ _ hwd
  have hdw := hE1 _ _ hdw
  have hE := hE.mono hE1
  have hI0 := tf_IS1_mono hE1 hI0
  have hI1 := tf_IS2_mono hE1 hI1
  obtain ⟨hp1_0, hp1_1, hp1_2⟩ := hp1
  obtain ⟨t1_1, fp1_1, lm1_1, ss_1, pp_1, mm_1, hX1_0, hX1_1, hX1_2, hB1_0, hB1_1, hB1_2, hR1_0, hR1_1⟩ := hp1_2
  refine lv_pop hx hb dL_law_605 rfl ?_
  refine lv_aload_n hx hb dL_law_606 rfl (lv_at hl 1 rfl) ?_
  refine tf_calli (va_runV (As := []) (rest := []) ⟨hx, hb, hml, hown, hts⟩ (c_X10_law l g T am ham (ss_1) (pp_1) (mm_1) ro hro tm htm wd hwd rr (tt) ⟨by omega, by omega⟩ tq gW (fp) ⟨by omega, by omega⟩ (tf_law_tok hTP hLM hR1_1) hWW) (cwV 0 hts gv_L_65 rfl rfl rfl hd_X10_law ⟨Nat.le_trans (by decide) hR1, Nat.le_trans (by decide) hR2⟩) (tf_preV hk hW ham (ci := 10) rfl rfl ⟨hs19, hs29, hs24, hs23, hs32, hs26, hs34, hs25⟩) rfl rfl hl.1 rfl (lv_room (Nat.le_of_ble_eq_true rfl)) dL_law_607 ⟨Nat.le_trans (by omega) hR3, Nat.le_trans (by omega) hR4⟩) hW (by decide) (fun z35 H35 locs35 hW hF35 hp35 => ?_)
  have hs36 := tf_keepF hF35 hax rfl rfl (by decide) hs2
  have hs37 := tf_keepF hF35 hax rfl rfl (by decide) hs3
  have hs38 := tf_keepF hF35 hax rfl rfl (by decide) hs4
  have hs39 := tf_keepF hF35 hax rfl rfl (by decide) hs5
  have hs40 := tf_keepF hF35 hax rfl rfl (by decide) hs6
  have hs41 := tf_keepF hF35 hax rfl rfl (by decide) hs7
  have hs42 := tf_keepF hF35 hsq rfl rfl (by decide) hs8
  have hs43 := tf_keepF hF35 hsq rfl rfl (by decide) hs9
  have hs44 := tf_keepF hF35 hsq rfl rfl (by decide) hs10
  have hs45 := tf_keepF hF35 hsq rfl rfl (by decide) hs11
  have hs46 := tf_keepF hF35 hsq rfl rfl (by decide) hs12
  have hs47 := tf_keepC hF35 hlp rfl (by decide) hs13
  have hs48 := tf_keepC hF35 hlh rfl (by decide) hs14
  have hs49 := tf_keepC hF35 hyr rfl (by decide) hs15
  have hs50 := tf_keepC hF35 hwh rfl (by decide) hs16
  have hs51 := tf_keepC hF35 hta rfl (by decide) hs17
  have hs52 := tf_keepC hF35 hdh rfl (by decide) hs18
  have hs53 := tf_keepF hF35 ham rfl rfl (by decide) hs19
  have hs54 := tf_keepF hF35 ham rfl rfl (by decide) hs20
  have hs55 := tf_keepF hF35 ham rfl rfl (by decide) hs21
  have hs56 := tf_keepF hF35 ham rfl rfl (by decide) hs22
  have hs57 := tf_keepF hF35 ham rfl rfl (by decide) hs23
  have hs58 := tf_keepF hF35 ham rfl rfl (by decide) hs26
  have hs59 := tf_keepF hF35 ham rfl rfl (by decide) hs27
  have hs60 := tf_keepF hF35 ham rfl rfl (by decide) hs28
  have hs61 := tf_keepC hF35 hiz rfl (by decide) hs30
  have hs62 := tf_keepC hF35 hkp rfl (by decide) hs31
  have hs63 := tf_keepC hF35 htm rfl (by decide) hs32
  have hs64 := tf_keepC hF35 hdw rfl (by decide) hs33
  have hs65 := tf_keepC hF35 hwd rfl (by decide) hs34
  have hs66 := tf_keepF hF35 hax rfl rfl (by decide) hX1_0
  have hs67 := tf_keepF hF35 hax rfl rfl (by decide) hX1_1
  have hs68 := tf_keepF hF35 hsq rfl rfl (by decide) hX1_2
  have hI0 := tf_IS1_keep hF35 him (by decide) (by decide) hI0
  have hI1 := tf_IS2_keep hF35 him (by decide) (by decide) hI1
  obtain ⟨hp35_0, hp35_1, hp35_2⟩ := hp35
  obtain ⟨t1_35, gx1_35, r1_35, hX35_0, hX35_1, hX35_2, hB35_0, hB35_1, hR35_0, hR35_1, hR35_2⟩ := hp35_2
  obtain ⟨hzz, hfz, hLM⟩ := tf_law_eq hLM hR1_1 hR35_2 hR35_1
  have hRL := tf_RL_kl hRL hR35_1
  refine lv_pop hx hb dL_law_610 rfl ?_
  refine lv_goto (tgt := 1498) hx hb dL_law_611 (by decide) ?_
  refine W.widen (k := 130 + 30 * jj) (n := 31200 + 1200 * jj) (by omega) (by omega) ?_
  exact hnx _ _ _ hW hax ham ⟨sq, im, ta, dh, lp, lh, yr, wh, ro, iz, kp, tm, dw, wd, (t1_1), (uu), (dd), (lm1_1), (fo), (fp1_1), gl, gh, gy, gw, tp, gd, r1_35, qq, rk, tq, gm, gW, hsq, him, hta, hdh, hlp, hlh, hyr, hwh, hro, hiz, hkp, htm, hdw, hwd, ⟨by omega, by omega⟩, ⟨by omega, by omega⟩, ⟨by omega, by omega⟩, ⟨by omega, by omega⟩, ⟨by omega, by omega⟩, ⟨by omega, by omega⟩, hs36, hs37, hs38, hs66, hs39, hs67, hs40, hs41, hs42, hs43, hs44, hs45, hs68, hs46, hs47, hs48, hs49, hs50, hs51, hs52, hs53, hs54, hs55, tf_eqv hs56 (by omega), hs57, tf_eqv hX35_1 (by omega), tf_eqv hX35_2 (by omega), hs58, hs59, tf_eqv hs60 (by omega), hX35_0, hs61, hs62, hs63, hs64, hs65, hRL, hDD, hTP, hWW, hLM, hI0, hI1⟩ _ (lv_sub hl [0, 1, 2, 3] rfl)

set_option maxHeartbeats 4000000 in
set_option maxRecDepth 100000 in
theorem lc_614 {p : Program} {l : Launch} {e : Env} {s : State} {m : MethodId} {below : List Frame} {meth : Method} {c : Code} {b L : Nat} {g : tf_G} {sx : Int → Int} {Q : State → Prop} (E : lw_E p s m c b L g sx) (ax am jj : Nat) (ii : Int) (hii : ii = 6 * (jj : Int)) (hij : ii + 6 ≤ (L : Int)) (hnx : lw_nx p l e s m below meth c b g ax am jj ii Q) (T : tf_T) (H : Heap) (locs : List Loc) (hW : tf_n tf_kt g M_law (fun _ => none) s.heap T H locs) (hax : T ax = some (39, 0)) (ham : T am = some (63, 0)) (hI : lw_I g T H ax am) (ls : Array Slot) (hl : lv_has ls 4 [(3, .int (Int32.ofInt ii)), (2, .ref am), (1, .ref ax), (0, .ref b)]) : W p l e room_1 s m #[Value.ref b] below meth c H locs (100 + 30 * jj) (30000 + 1200 * jj) Q (F0 m 614 ls []) := by
  obtain ⟨hx, hb, hml, hown, hts, hbl, hk, hBs, hsx, hX, hL⟩ := id E
  have hR1 := lw_R1
  have hR2 := lw_R2
  have hR3 := lw_R3
  have hR4 := lw_R4
  have hK := hk.1
  have hE : tf_E g T := trivial
  obtain ⟨sq, im, ta, dh, lp, lh, yr, wh, ro, iz, kp, tm, dw, wd, tt, uu, dd, lm, fo, fp, gl, gh, gy, gw, tp, gd, rr, qq, rk, tq, gm, gW, hsq, him, hta, hdh, hlp, hlh, hyr, hwh, hro, hiz, hkp, htm, hdw, hwd, htt, huu, hdd, hlm, hfo, hfp, hf0, hf1, hf2, hf3, hf4, hf5, hf6, hf7, hf8, hf9, hf10, hf11, hf12, hf13, hf14, hf15, hf16, hf17, hf18, hf19, hf20, hf21, hf22, hf23, hf24, hf25, hf26, hf27, hf28, hf29, hf30, hf31, hf32, hf33, hf34, hf35, hRL, hDD, hTP, hWW, hLM, hI0, hI1⟩ := hI
  have hWS : tf_WS gy gw := hRL.2.2
  refine lv_aload_n hx hb dL_law_614 rfl (lv_at hl 2 rfl) ?_
  refine tf_calli (va_runV (As := []) (rest := []) ⟨hx, hb, hml, hown, hts⟩ (c_X9_fault l g T ax hax (fp) ⟨by omega, by omega⟩) (cwV 0 hts gv_L_66 rfl rfl rfl hd_X9_fault ⟨Nat.le_trans (by decide) hR1, Nat.le_trans (by decide) hR2⟩) (tf_preV hk hW hax (ci := 9) rfl rfl hf5) rfl rfl hl.1 rfl (lv_room (Nat.le_of_ble_eq_true rfl)) dL_law_615 ⟨Nat.le_trans (by omega) hR3, Nat.le_trans (by omega) hR4⟩) hW (by decide) (fun z1 H1 locs1 hW hF1 hp1 => ?_)
  have hs2 := tf_keepF hF1 hax rfl rfl (by decide) hf0
  have hs3 := tf_keepF hF1 hax rfl rfl (by decide) hf1
  have hs4 := tf_keepF hF1 hax rfl rfl (by decide) hf2
  have hs5 := tf_keepF hF1 hax rfl rfl (by decide) hf3
  have hs6 := tf_keepF hF1 hax rfl rfl (by decide) hf4
  have hs7 := tf_keepF hF1 hax rfl rfl (by decide) hf5
  have hs8 := tf_keepF hF1 hax rfl rfl (by decide) hf6
  have hs9 := tf_keepF hF1 hax rfl rfl (by decide) hf7
  have hs10 := tf_keepF hF1 hsq rfl rfl (by decide) hf8
  have hs11 := tf_keepF hF1 hsq rfl rfl (by decide) hf9
  have hs12 := tf_keepF hF1 hsq rfl rfl (by decide) hf10
  have hs13 := tf_keepF hF1 hsq rfl rfl (by decide) hf11
  have hs14 := tf_keepF hF1 hsq rfl rfl (by decide) hf12
  have hs15 := tf_keepF hF1 hsq rfl rfl (by decide) hf13
  have hs16 := tf_keepC hF1 hlp rfl (by decide) hf14
  have hs17 := tf_keepC hF1 hlh rfl (by decide) hf15
  have hs18 := tf_keepC hF1 hyr rfl (by decide) hf16
  have hs19 := tf_keepC hF1 hwh rfl (by decide) hf17
  have hs20 := tf_keepC hF1 hta rfl (by decide) hf18
  have hs21 := tf_keepC hF1 hdh rfl (by decide) hf19
  have hs22 := tf_keepF hF1 ham rfl rfl (by decide) hf20
  have hs23 := tf_keepF hF1 ham rfl rfl (by decide) hf21
  have hs24 := tf_keepF hF1 ham rfl rfl (by decide) hf22
  have hs25 := tf_keepF hF1 ham rfl rfl (by decide) hf23
  have hs26 := tf_keepF hF1 ham rfl rfl (by decide) hf24
  have hs27 := tf_keepF hF1 ham rfl rfl (by decide) hf25
  have hs28 := tf_keepF hF1 ham rfl rfl (by decide) hf26
  have hs29 := tf_keepF hF1 ham rfl rfl (by decide) hf27
  have hs30 := tf_keepF hF1 ham rfl rfl (by decide) hf28
  have hs31 := tf_keepF hF1 ham rfl rfl (by decide) hf29
  have hs32 := tf_keepC hF1 hro rfl (by decide) hf30
  have hs33 := tf_keepC hF1 hiz rfl (by decide) hf31
  have hs34 := tf_keepC hF1 hkp rfl (by decide) hf32
  have hs35 := tf_keepC hF1 htm rfl (by decide) hf33
  have hs36 := tf_keepC hF1 hdw rfl (by decide) hf34
  have hs37 := tf_keepC hF1 hwd rfl (by decide) hf35
  have hI0 := tf_IS1_keep hF1 him (by decide) (by decide) hI0
  have hI1 := tf_IS2_keep hF1 him (by decide) (by decide) hI1
  obtain ⟨hp1_0, hp1_1, hp1_2⟩ := hp1
  refine lv_pop hx hb dL_law_618 rfl ?_
  refine lv_aload_n hx hb dL_law_619 rfl (lv_at hl 1 rfl) ?_
  refine tf_calli (va_runV (As := []) (rest := []) ⟨hx, hb, hml, hown, hts⟩ (c_X10_fault l g T am ham (fp) ⟨by omega, by omega⟩) (cwV 0 hts gv_L_69 rfl rfl rfl hd_X10_fault ⟨Nat.le_trans (by decide) hR1, Nat.le_trans (by decide) hR2⟩) (tf_preV hk hW ham (ci := 10) rfl rfl hs28) rfl rfl hl.1 rfl (lv_room (Nat.le_of_ble_eq_true rfl)) dL_law_620 ⟨Nat.le_trans (by omega) hR3, Nat.le_trans (by omega) hR4⟩) hW (by decide) (fun z38 H38 locs38 hW hF38 hp38 => ?_)
  have hs39 := tf_keepF hF38 hax rfl rfl (by decide) hs2
  have hs40 := tf_keepF hF38 hax rfl rfl (by decide) hs3
  have hs41 := tf_keepF hF38 hax rfl rfl (by decide) hs4
  have hs42 := tf_keepF hF38 hax rfl rfl (by decide) hs5
  have hs43 := tf_keepF hF38 hax rfl rfl (by decide) hs6
  have hs44 := tf_keepF hF38 hax rfl rfl (by decide) hs7
  have hs45 := tf_keepF hF38 hax rfl rfl (by decide) hs8
  have hs46 := tf_keepF hF38 hax rfl rfl (by decide) hs9
  have hs47 := tf_keepF hF38 hsq rfl rfl (by decide) hs10
  have hs48 := tf_keepF hF38 hsq rfl rfl (by decide) hs11
  have hs49 := tf_keepF hF38 hsq rfl rfl (by decide) hs12
  have hs50 := tf_keepF hF38 hsq rfl rfl (by decide) hs13
  have hs51 := tf_keepF hF38 hsq rfl rfl (by decide) hs14
  have hs52 := tf_keepF hF38 hsq rfl rfl (by decide) hs15
  have hs53 := tf_keepC hF38 hlp rfl (by decide) hs16
  have hs54 := tf_keepC hF38 hlh rfl (by decide) hs17
  have hs55 := tf_keepC hF38 hyr rfl (by decide) hs18
  have hs56 := tf_keepC hF38 hwh rfl (by decide) hs19
  have hs57 := tf_keepC hF38 hta rfl (by decide) hs20
  have hs58 := tf_keepC hF38 hdh rfl (by decide) hs21
  have hs59 := tf_keepF hF38 ham rfl rfl (by decide) hs22
  have hs60 := tf_keepF hF38 ham rfl rfl (by decide) hs23
  have hs61 := tf_keepF hF38 ham rfl rfl (by decide) hs24
  have hs62 := tf_keepF hF38 ham rfl rfl (by decide) hs25
  have hs63 := tf_keepF hF38 ham rfl rfl (by decide) hs26
  have hs64 := tf_keepF hF38 ham rfl rfl (by decide) hs27
  have hs65 := tf_keepF hF38 ham rfl rfl (by decide) hs28
  have hs66 := tf_keepF hF38 ham rfl rfl (by decide) hs29
  have hs67 := tf_keepF hF38 ham rfl rfl (by decide) hs30
  have hs68 := tf_keepF hF38 ham rfl rfl (by decide) hs31
  have hs69 := tf_keepC hF38 hro rfl (by decide) hs32
  have hs70 := tf_keepC hF38 hiz rfl (by decide) hs33
  have hs71 := tf_keepC hF38 hkp rfl (by decide) hs34
  have hs72 := tf_keepC hF38 htm rfl (by decide) hs35
  have hs73 := tf_keepC hF38 hdw rfl (by decide) hs36
  have hs74 := tf_keepC hF38 hwd rfl (by decide) hs37
  have hI0 := tf_IS1_keep hF38 him (by decide) (by decide) hI0
  have hI1 := tf_IS2_keep hF38 him (by decide) (by decide) hI1
  obtain ⟨hp38_0, hp38_1, hp38_2⟩ := hp38
  refine lv_pop hx hb dL_law_623 rfl ?_
  refine lv_goto (tgt := 1498) hx hb dL_law_624 (by decide) ?_
  refine W.widen (k := 130 + 30 * jj) (n := 31200 + 1200 * jj) (by omega) (by omega) ?_
  exact hnx _ _ _ hW hax ham ⟨sq, im, ta, dh, lp, lh, yr, wh, ro, iz, kp, tm, dw, wd, (tt), (uu), (dd), (lm), (fo), (fp), gl, gh, gy, gw, tp, gd, rr, qq, rk, tq, gm, gW, hsq, him, hta, hdh, hlp, hlh, hyr, hwh, hro, hiz, hkp, htm, hdw, hwd, ⟨by omega, by omega⟩, ⟨by omega, by omega⟩, ⟨by omega, by omega⟩, ⟨by omega, by omega⟩, ⟨by omega, by omega⟩, ⟨by omega, by omega⟩, hs39, hs40, hs41, hs42, hs43, hs44, hs45, hs46, hs47, hs48, hs49, hs50, hs51, hs52, hs53, hs54, hs55, hs56, hs57, hs58, hs59, hs60, hs61, tf_eqv hs62 (by omega), hs63, tf_eqv hs64 (by omega), tf_eqv hs65 (by omega), hs66, hs67, tf_eqv hs68 (by omega), hs69, hs70, hs71, hs72, hs73, hs74, hRL, hDD, hTP, hWW, hLM, hI0, hI1⟩ _ (lv_sub hl [0, 1, 2, 3] rfl)

set_option maxHeartbeats 4000000 in
set_option maxRecDepth 100000 in
theorem lc_627 {p : Program} {l : Launch} {e : Env} {s : State} {m : MethodId} {below : List Frame} {meth : Method} {c : Code} {b L : Nat} {g : tf_G} {sx : Int → Int} {Q : State → Prop} (E : lw_E p s m c b L g sx) (ax am jj : Nat) (ii : Int) (hii : ii = 6 * (jj : Int)) (hij : ii + 6 ≤ (L : Int)) (hnx : lw_nx p l e s m below meth c b g ax am jj ii Q) (T : tf_T) (H : Heap) (locs : List Loc) (hW : tf_n tf_kt g M_law (fun _ => none) s.heap T H locs) (hax : T ax = some (39, 0)) (ham : T am = some (63, 0)) (hI : lw_I g T H ax am) (ls : Array Slot) (hl : lv_has ls 4 [(3, .int (Int32.ofInt ii)), (2, .ref am), (1, .ref ax), (0, .ref b)]) : W p l e room_1 s m #[Value.ref b] below meth c H locs (100 + 30 * jj) (30000 + 1200 * jj) Q (F0 m 627 ls []) := by
  obtain ⟨hx, hb, hml, hown, hts, hbl, hk, hBs, hsx, hX, hL⟩ := id E
  have hR1 := lw_R1
  have hR2 := lw_R2
  have hR3 := lw_R3
  have hR4 := lw_R4
  have hK := hk.1
  have hE : tf_E g T := trivial
  obtain ⟨sq, im, ta, dh, lp, lh, yr, wh, ro, iz, kp, tm, dw, wd, tt, uu, dd, lm, fo, fp, gl, gh, gy, gw, tp, gd, rr, qq, rk, tq, gm, gW, hsq, him, hta, hdh, hlp, hlh, hyr, hwh, hro, hiz, hkp, htm, hdw, hwd, htt, huu, hdd, hlm, hfo, hfp, hf0, hf1, hf2, hf3, hf4, hf5, hf6, hf7, hf8, hf9, hf10, hf11, hf12, hf13, hf14, hf15, hf16, hf17, hf18, hf19, hf20, hf21, hf22, hf23, hf24, hf25, hf26, hf27, hf28, hf29, hf30, hf31, hf32, hf33, hf34, hf35, hRL, hDD, hTP, hWW, hLM, hI0, hI1⟩ := hI
  have hWS : tf_WS gy gw := hRL.2.2
  refine lv_aload_n hx hb dL_law_627 rfl (lv_at hl 2 rfl) ?_
  refine lv_aload_n hx hb dL_law_628 rfl (lv_at hl 3 rfl) ?_
  refine lv_iload_n hx hb dL_law_629 rfl (lv_at hl 0 rfl) ?_
  refine tf_iconst hx hb dL_law_630 ?_
  refine tf_iadd hx hb dL_law_631 ?_
  refine lw_sld (sx := sx) hx hb hX hbl hBs hL hW (by omega) (by omega) dL_law_632 ?_
  have hsx1 := hsx (ii + 1)
  refine tf_calli (va_runV (As := [.int (Int32.ofInt ((sx (ii + 1))))]) (rest := []) ⟨hx, hb, hml, hown, hts⟩ (c_X9_force l g T ax hax ((sx (ii + 1))) ⟨by omega, by omega⟩ sq hsq (lm) ⟨by omega, by omega⟩ (fo) ⟨by omega, by omega⟩) (cwV 1 hts gv_L_70 rfl rfl rfl hd_X9_force ⟨Nat.le_trans (by decide) hR1, Nat.le_trans (by decide) hR2⟩) (tf_preV hk hW hax (ci := 9) rfl rfl ⟨hf0, hf12, hf13⟩) rfl rfl hl.1 rfl (lv_room (Nat.le_of_ble_eq_true rfl)) dL_law_633 ⟨Nat.le_trans (by omega) hR3, Nat.le_trans (by omega) hR4⟩) hW (by decide) (fun z2 H2 locs2 hW hF2 hp2 => ?_)
  have hs3 := tf_keepF hF2 hax rfl rfl (by decide) hf0
  have hs4 := tf_keepF hF2 hax rfl rfl (by decide) hf1
  have hs5 := tf_keepF hF2 hax rfl rfl (by decide) hf2
  have hs6 := tf_keepF hF2 hax rfl rfl (by decide) hf3
  have hs7 := tf_keepF hF2 hax rfl rfl (by decide) hf4
  have hs8 := tf_keepF hF2 hax rfl rfl (by decide) hf5
  have hs9 := tf_keepF hF2 hax rfl rfl (by decide) hf6
  have hs10 := tf_keepF hF2 hax rfl rfl (by decide) hf7
  have hs11 := tf_keepF hF2 hsq rfl rfl (by decide) hf8
  have hs12 := tf_keepF hF2 hsq rfl rfl (by decide) hf9
  have hs13 := tf_keepF hF2 hsq rfl rfl (by decide) hf10
  have hs14 := tf_keepF hF2 hsq rfl rfl (by decide) hf11
  have hs15 := tf_keepF hF2 hsq rfl rfl (by decide) hf12
  have hs16 := tf_keepC hF2 hlp rfl (by decide) hf14
  have hs17 := tf_keepC hF2 hlh rfl (by decide) hf15
  have hs18 := tf_keepC hF2 hyr rfl (by decide) hf16
  have hs19 := tf_keepC hF2 hwh rfl (by decide) hf17
  have hs20 := tf_keepC hF2 hta rfl (by decide) hf18
  have hs21 := tf_keepC hF2 hdh rfl (by decide) hf19
  have hs22 := tf_keepF hF2 ham rfl rfl (by decide) hf20
  have hs23 := tf_keepF hF2 ham rfl rfl (by decide) hf21
  have hs24 := tf_keepF hF2 ham rfl rfl (by decide) hf22
  have hs25 := tf_keepF hF2 ham rfl rfl (by decide) hf23
  have hs26 := tf_keepF hF2 ham rfl rfl (by decide) hf24
  have hs27 := tf_keepF hF2 ham rfl rfl (by decide) hf25
  have hs28 := tf_keepF hF2 ham rfl rfl (by decide) hf26
  have hs29 := tf_keepF hF2 ham rfl rfl (by decide) hf27
  have hs30 := tf_keepF hF2 ham rfl rfl (by decide) hf28
  have hs31 := tf_keepF hF2 ham rfl rfl (by decide) hf29
  have hs32 := tf_keepC hF2 hro rfl (by decide) hf30
  have hs33 := tf_keepC hF2 hiz rfl (by decide) hf31
  have hs34 := tf_keepC hF2 hkp rfl (by decide) hf32
  have hs35 := tf_keepC hF2 htm rfl (by decide) hf33
  have hs36 := tf_keepC hF2 hdw rfl (by decide) hf34
  have hs37 := tf_keepC hF2 hwd rfl (by decide) hf35
  have hI0 := tf_IS1_keep hF2 him (by decide) (by decide) hI0
  have hI1 := tf_IS2_keep hF2 him (by decide) (by decide) hI1
  obtain ⟨hp2_0, hp2_1, hp2_2⟩ := hp2
  obtain ⟨fo1_2, hX2_0, hB2_0, hR2_0⟩ := hp2_2
  refine lv_aload_n hx hb dL_law_636 rfl (lv_at hl 1 rfl) ?_
  refine lv_aload_n hx hb dL_law_637 rfl (lv_at hl 3 rfl) ?_
  refine lv_iload_n hx hb dL_law_638 rfl (lv_at hl 0 rfl) ?_
  refine tf_iconst hx hb dL_law_639 ?_
  refine tf_iadd hx hb dL_law_640 ?_
  refine lw_sld (sx := sx) hx hb hX hbl hBs hL hW (by omega) (by omega) dL_law_641 ?_
  have hsx38 := hsx (ii + 1)
  refine tf_calli (va_runV (As := [.int (Int32.ofInt ((sx (ii + 1))))]) (rest := [.int (Int32.ofInt z2)]) ⟨hx, hb, hml, hown, hts⟩ (c_X10_force l g T am ham ((sx (ii + 1))) ⟨by omega, by omega⟩ ro hro rr) (cwV 1 hts gv_L_73 rfl rfl rfl hd_X10_force ⟨Nat.le_trans (by decide) hR1, Nat.le_trans (by decide) hR2⟩) (tf_preV hk hW ham (ci := 10) rfl rfl ⟨hs22, hs32⟩) rfl rfl hl.1 rfl (lv_room (Nat.le_of_ble_eq_true rfl)) dL_law_642 ⟨Nat.le_trans (by omega) hR3, Nat.le_trans (by omega) hR4⟩) hW (by decide) (fun z39 H39 locs39 hW hF39 hp39 => ?_)
  have hs40 := tf_keepF hF39 hax rfl rfl (by decide) hs3
  have hs41 := tf_keepF hF39 hax rfl rfl (by decide) hs4
  have hs42 := tf_keepF hF39 hax rfl rfl (by decide) hs5
  have hs43 := tf_keepF hF39 hax rfl rfl (by decide) hs6
  have hs44 := tf_keepF hF39 hax rfl rfl (by decide) hs7
  have hs45 := tf_keepF hF39 hax rfl rfl (by decide) hs8
  have hs46 := tf_keepF hF39 hax rfl rfl (by decide) hs9
  have hs47 := tf_keepF hF39 hax rfl rfl (by decide) hs10
  have hs48 := tf_keepF hF39 hsq rfl rfl (by decide) hs11
  have hs49 := tf_keepF hF39 hsq rfl rfl (by decide) hs12
  have hs50 := tf_keepF hF39 hsq rfl rfl (by decide) hs13
  have hs51 := tf_keepF hF39 hsq rfl rfl (by decide) hs14
  have hs52 := tf_keepF hF39 hsq rfl rfl (by decide) hs15
  have hs53 := tf_keepC hF39 hlp rfl (by decide) hs16
  have hs54 := tf_keepC hF39 hlh rfl (by decide) hs17
  have hs55 := tf_keepC hF39 hyr rfl (by decide) hs18
  have hs56 := tf_keepC hF39 hwh rfl (by decide) hs19
  have hs57 := tf_keepC hF39 hta rfl (by decide) hs20
  have hs58 := tf_keepC hF39 hdh rfl (by decide) hs21
  have hs59 := tf_keepF hF39 ham rfl rfl (by decide) hs22
  have hs60 := tf_keepF hF39 ham rfl rfl (by decide) hs23
  have hs61 := tf_keepF hF39 ham rfl rfl (by decide) hs24
  have hs62 := tf_keepF hF39 ham rfl rfl (by decide) hs25
  have hs63 := tf_keepF hF39 ham rfl rfl (by decide) hs26
  have hs64 := tf_keepF hF39 ham rfl rfl (by decide) hs27
  have hs65 := tf_keepF hF39 ham rfl rfl (by decide) hs28
  have hs66 := tf_keepF hF39 ham rfl rfl (by decide) hs29
  have hs67 := tf_keepF hF39 ham rfl rfl (by decide) hs30
  have hs68 := tf_keepF hF39 ham rfl rfl (by decide) hs31
  have hs69 := tf_keepC hF39 hiz rfl (by decide) hs33
  have hs70 := tf_keepC hF39 hkp rfl (by decide) hs34
  have hs71 := tf_keepC hF39 htm rfl (by decide) hs35
  have hs72 := tf_keepC hF39 hdw rfl (by decide) hs36
  have hs73 := tf_keepC hF39 hwd rfl (by decide) hs37
  have hs74 := tf_keepF hF39 hsq rfl rfl (by decide) hX2_0
  have hI0 := tf_IS1_keep hF39 him (by decide) (by decide) hI0
  have hI1 := tf_IS2_keep hF39 him (by decide) (by decide) hI1
  obtain ⟨hp39_0, hp39_1, hp39_2⟩ := hp39
  obtain ⟨r1_39, hX39_0, hR39_0⟩ := hp39_2
  obtain ⟨hzz, hLM, hRL⟩ := tf_force_eq hRL hLM hR2_0 hR39_0
  refine tf_icmp_eq (tgt := 1498) hx hb ⟨by omega, by omega⟩ ⟨by omega, by omega⟩ dL_law_645 (by decide) (fun h75 => ?_) (fun h75 => ?_)
  · refine W.widen (k := 130 + 30 * jj) (n := 31200 + 1200 * jj) (by omega) (by omega) ?_
    exact hnx _ _ _ hW hax ham ⟨sq, im, ta, dh, lp, lh, yr, wh, ro, iz, kp, tm, dw, wd, (tt), (uu), (dd), (lm), (fo1_2), (fp), gl, gh, gy, gw, tp, gd, r1_39, qq, rk, tq, gm, gW, hsq, him, hta, hdh, hlp, hlh, hyr, hwh, hro, hiz, hkp, htm, hdw, hwd, ⟨by omega, by omega⟩, ⟨by omega, by omega⟩, ⟨by omega, by omega⟩, ⟨by omega, by omega⟩, ⟨by omega, by omega⟩, ⟨by omega, by omega⟩, hs40, hs41, hs42, hs43, hs44, hs45, hs46, hs47, hs48, hs49, hs50, hs51, hs52, hs74, hs53, hs54, hs55, hs56, hs57, hs58, hs59, hs60, hs61, tf_eqv hs62 (by omega), hs63, tf_eqv hs64 (by omega), tf_eqv hs65 (by omega), hs66, hs67, tf_eqv hs68 (by omega), hX39_0, hs69, hs70, hs71, hs72, hs73, hRL, hDD, hTP, hWW, hLM, hI0, hI1⟩ _ (lv_sub hl [0, 1, 2, 3] rfl)
  · exfalso; omega

set_option maxHeartbeats 4000000 in
set_option maxRecDepth 100000 in
theorem lc_650 {p : Program} {l : Launch} {e : Env} {s : State} {m : MethodId} {below : List Frame} {meth : Method} {c : Code} {b L : Nat} {g : tf_G} {sx : Int → Int} {Q : State → Prop} (E : lw_E p s m c b L g sx) (ax am jj : Nat) (ii : Int) (hii : ii = 6 * (jj : Int)) (hij : ii + 6 ≤ (L : Int)) (hnx : lw_nx p l e s m below meth c b g ax am jj ii Q) (T : tf_T) (H : Heap) (locs : List Loc) (hW : tf_n tf_kt g M_law (fun _ => none) s.heap T H locs) (hax : T ax = some (39, 0)) (ham : T am = some (63, 0)) (hI : lw_I g T H ax am) (ls : Array Slot) (hl : lv_has ls 4 [(3, .int (Int32.ofInt ii)), (2, .ref am), (1, .ref ax), (0, .ref b)]) : W p l e room_1 s m #[Value.ref b] below meth c H locs (100 + 30 * jj) (30000 + 1200 * jj) Q (F0 m 650 ls []) := by
  obtain ⟨hx, hb, hml, hown, hts, hbl, hk, hBs, hsx, hX, hL⟩ := id E
  have hR1 := lw_R1
  have hR2 := lw_R2
  have hR3 := lw_R3
  have hR4 := lw_R4
  have hK := hk.1
  have hE : tf_E g T := trivial
  obtain ⟨sq, im, ta, dh, lp, lh, yr, wh, ro, iz, kp, tm, dw, wd, tt, uu, dd, lm, fo, fp, gl, gh, gy, gw, tp, gd, rr, qq, rk, tq, gm, gW, hsq, him, hta, hdh, hlp, hlh, hyr, hwh, hro, hiz, hkp, htm, hdw, hwd, htt, huu, hdd, hlm, hfo, hfp, hf0, hf1, hf2, hf3, hf4, hf5, hf6, hf7, hf8, hf9, hf10, hf11, hf12, hf13, hf14, hf15, hf16, hf17, hf18, hf19, hf20, hf21, hf22, hf23, hf24, hf25, hf26, hf27, hf28, hf29, hf30, hf31, hf32, hf33, hf34, hf35, hRL, hDD, hTP, hWW, hLM, hI0, hI1⟩ := hI
  have hWS : tf_WS gy gw := hRL.2.2
  refine lv_aload_n hx hb dL_law_650 rfl (lv_at hl 2 rfl) ?_
  refine lv_aload_n hx hb dL_law_651 rfl (lv_at hl 3 rfl) ?_
  refine lv_iload_n hx hb dL_law_652 rfl (lv_at hl 0 rfl) ?_
  refine tf_iconst hx hb dL_law_653 ?_
  refine tf_iadd hx hb dL_law_654 ?_
  refine lw_sld (sx := sx) hx hb hX hbl hBs hL hW (by omega) (by omega) dL_law_655 ?_
  have hsx1 := hsx (ii + 1)
  refine lv_aload_n hx hb dL_law_656 rfl (lv_at hl 3 rfl) ?_
  refine lv_iload_n hx hb dL_law_657 rfl (lv_at hl 0 rfl) ?_
  refine tf_iconst hx hb dL_law_658 ?_
  refine tf_iadd hx hb dL_law_659 ?_
  refine lw_sld (sx := sx) hx hb hX hbl hBs hL hW (by omega) (by omega) dL_law_660 ?_
  have hsx2 := hsx (ii + 2)
  refine lv_aload_n hx hb dL_law_661 rfl (lv_at hl 3 rfl) ?_
  refine lv_iload_n hx hb dL_law_662 rfl (lv_at hl 0 rfl) ?_
  refine tf_iconst hx hb dL_law_663 ?_
  refine tf_iadd hx hb dL_law_664 ?_
  refine lw_sld (sx := sx) hx hb hX hbl hBs hL hW (by omega) (by omega) dL_law_665 ?_
  have hsx3 := hsx (ii + 3)
  refine tf_calli (va_runV (As := [.int (Int32.ofInt ((sx (ii + 1)))), .int (Int32.ofInt ((sx (ii + 2)))), .int (Int32.ofInt ((sx (ii + 3))))]) (rest := []) ⟨hx, hb, hml, hown, hts⟩ (c_X9_kind l g T ax hax ((sx (ii + 1))) ⟨by omega, by omega⟩ ((sx (ii + 2))) ⟨by omega, by omega⟩ ((sx (ii + 3))) ⟨by omega, by omega⟩ hE) (cwV 3 hts gv_L_74 rfl rfl rfl hd_X9_kind ⟨Nat.le_trans (by decide) hR1, Nat.le_trans (by decide) hR2⟩) (tf_preV hk hW hax (ci := 9) rfl rfl trivial) rfl rfl hl.1 rfl (lv_room (Nat.le_of_ble_eq_true rfl)) dL_law_666 ⟨Nat.le_trans (by omega) hR3, Nat.le_trans (by omega) hR4⟩) hW (by decide) (fun z4 H4 locs4 hW hF4 hp4 => ?_)
  have hs5 := tf_keepF hF4 hax rfl rfl (by decide) hf0
  have hs6 := tf_keepF hF4 hax rfl rfl (by decide) hf1
  have hs7 := tf_keepF hF4 hax rfl rfl (by decide) hf2
  have hs8 := tf_keepF hF4 hax rfl rfl (by decide) hf3
  have hs9 := tf_keepF hF4 hax rfl rfl (by decide) hf4
  have hs10 := tf_keepF hF4 hax rfl rfl (by decide) hf5
  have hs11 := tf_keepF hF4 hax rfl rfl (by decide) hf6
  have hs12 := tf_keepF hF4 hax rfl rfl (by decide) hf7
  have hs13 := tf_keepF hF4 hsq rfl rfl (by decide) hf8
  have hs14 := tf_keepF hF4 hsq rfl rfl (by decide) hf9
  have hs15 := tf_keepF hF4 hsq rfl rfl (by decide) hf10
  have hs16 := tf_keepF hF4 hsq rfl rfl (by decide) hf11
  have hs17 := tf_keepF hF4 hsq rfl rfl (by decide) hf12
  have hs18 := tf_keepF hF4 hsq rfl rfl (by decide) hf13
  have hs19 := tf_keepC hF4 hlp rfl (by decide) hf14
  have hs20 := tf_keepC hF4 hlh rfl (by decide) hf15
  have hs21 := tf_keepC hF4 hyr rfl (by decide) hf16
  have hs22 := tf_keepC hF4 hwh rfl (by decide) hf17
  have hs23 := tf_keepC hF4 hta rfl (by decide) hf18
  have hs24 := tf_keepC hF4 hdh rfl (by decide) hf19
  have hs25 := tf_keepF hF4 ham rfl rfl (by decide) hf20
  have hs26 := tf_keepF hF4 ham rfl rfl (by decide) hf21
  have hs27 := tf_keepF hF4 ham rfl rfl (by decide) hf22
  have hs28 := tf_keepF hF4 ham rfl rfl (by decide) hf23
  have hs29 := tf_keepF hF4 ham rfl rfl (by decide) hf24
  have hs30 := tf_keepF hF4 ham rfl rfl (by decide) hf25
  have hs31 := tf_keepF hF4 ham rfl rfl (by decide) hf26
  have hs32 := tf_keepF hF4 ham rfl rfl (by decide) hf27
  have hs33 := tf_keepF hF4 ham rfl rfl (by decide) hf28
  have hs34 := tf_keepF hF4 ham rfl rfl (by decide) hf29
  have hs35 := tf_keepC hF4 hro rfl (by decide) hf30
  have hs36 := tf_keepC hF4 hiz rfl (by decide) hf31
  have hs37 := tf_keepC hF4 hkp rfl (by decide) hf32
  have hs38 := tf_keepC hF4 htm rfl (by decide) hf33
  have hs39 := tf_keepC hF4 hdw rfl (by decide) hf34
  have hs40 := tf_keepC hF4 hwd rfl (by decide) hf35
  have hI0 := tf_IS1_keep hF4 him (by decide) (by decide) hI0
  have hI1 := tf_IS2_keep hF4 him (by decide) (by decide) hI1
  obtain ⟨hp4_0, hp4_1⟩ := hp4
  refine lv_pop hx hb dL_law_669 rfl ?_
  refine lv_aload_n hx hb dL_law_670 rfl (lv_at hl 1 rfl) ?_
  refine lv_aload_n hx hb dL_law_671 rfl (lv_at hl 3 rfl) ?_
  refine lv_iload_n hx hb dL_law_672 rfl (lv_at hl 0 rfl) ?_
  refine tf_iconst hx hb dL_law_673 ?_
  refine tf_iadd hx hb dL_law_674 ?_
  refine lw_sld (sx := sx) hx hb hX hbl hBs hL hW (by omega) (by omega) dL_law_675 ?_
  have hsx41 := hsx (ii + 1)
  refine lv_aload_n hx hb dL_law_676 rfl (lv_at hl 3 rfl) ?_
  refine lv_iload_n hx hb dL_law_677 rfl (lv_at hl 0 rfl) ?_
  refine tf_iconst hx hb dL_law_678 ?_
  refine tf_iadd hx hb dL_law_679 ?_
  refine lw_sld (sx := sx) hx hb hX hbl hBs hL hW (by omega) (by omega) dL_law_680 ?_
  have hsx42 := hsx (ii + 2)
  refine lv_aload_n hx hb dL_law_681 rfl (lv_at hl 3 rfl) ?_
  refine lv_iload_n hx hb dL_law_682 rfl (lv_at hl 0 rfl) ?_
  refine tf_iconst hx hb dL_law_683 ?_
  refine tf_iadd hx hb dL_law_684 ?_
  refine lw_sld (sx := sx) hx hb hX hbl hBs hL hW (by omega) (by omega) dL_law_685 ?_
  have hsx43 := hsx (ii + 3)
  refine tf_calli (va_runV (As := [.int (Int32.ofInt ((sx (ii + 1)))), .int (Int32.ofInt ((sx (ii + 2)))), .int (Int32.ofInt ((sx (ii + 3))))]) (rest := []) ⟨hx, hb, hml, hown, hts⟩ (c_X10_kind l g T am ham ((sx (ii + 1))) ⟨by omega, by omega⟩ ((sx (ii + 2))) ⟨by omega, by omega⟩ ((sx (ii + 3))) ⟨by omega, by omega⟩) (cwV 3 hts gv_L_77 rfl rfl rfl hd_X10_kind ⟨Nat.le_trans (by decide) hR1, Nat.le_trans (by decide) hR2⟩) (tf_preV hk hW ham (ci := 10) rfl rfl trivial) rfl rfl hl.1 rfl (lv_room (Nat.le_of_ble_eq_true rfl)) dL_law_686 ⟨Nat.le_trans (by omega) hR3, Nat.le_trans (by omega) hR4⟩) hW (by decide) (fun z44 H44 locs44 hW hF44 hp44 => ?_)
  have hs45 := tf_keepF hF44 hax rfl rfl (by decide) hs5
  have hs46 := tf_keepF hF44 hax rfl rfl (by decide) hs6
  have hs47 := tf_keepF hF44 hax rfl rfl (by decide) hs7
  have hs48 := tf_keepF hF44 hax rfl rfl (by decide) hs8
  have hs49 := tf_keepF hF44 hax rfl rfl (by decide) hs9
  have hs50 := tf_keepF hF44 hax rfl rfl (by decide) hs10
  have hs51 := tf_keepF hF44 hax rfl rfl (by decide) hs11
  have hs52 := tf_keepF hF44 hax rfl rfl (by decide) hs12
  have hs53 := tf_keepF hF44 hsq rfl rfl (by decide) hs13
  have hs54 := tf_keepF hF44 hsq rfl rfl (by decide) hs14
  have hs55 := tf_keepF hF44 hsq rfl rfl (by decide) hs15
  have hs56 := tf_keepF hF44 hsq rfl rfl (by decide) hs16
  have hs57 := tf_keepF hF44 hsq rfl rfl (by decide) hs17
  have hs58 := tf_keepF hF44 hsq rfl rfl (by decide) hs18
  have hs59 := tf_keepC hF44 hlp rfl (by decide) hs19
  have hs60 := tf_keepC hF44 hlh rfl (by decide) hs20
  have hs61 := tf_keepC hF44 hyr rfl (by decide) hs21
  have hs62 := tf_keepC hF44 hwh rfl (by decide) hs22
  have hs63 := tf_keepC hF44 hta rfl (by decide) hs23
  have hs64 := tf_keepC hF44 hdh rfl (by decide) hs24
  have hs65 := tf_keepF hF44 ham rfl rfl (by decide) hs25
  have hs66 := tf_keepF hF44 ham rfl rfl (by decide) hs26
  have hs67 := tf_keepF hF44 ham rfl rfl (by decide) hs27
  have hs68 := tf_keepF hF44 ham rfl rfl (by decide) hs28
  have hs69 := tf_keepF hF44 ham rfl rfl (by decide) hs29
  have hs70 := tf_keepF hF44 ham rfl rfl (by decide) hs30
  have hs71 := tf_keepF hF44 ham rfl rfl (by decide) hs31
  have hs72 := tf_keepF hF44 ham rfl rfl (by decide) hs32
  have hs73 := tf_keepF hF44 ham rfl rfl (by decide) hs33
  have hs74 := tf_keepF hF44 ham rfl rfl (by decide) hs34
  have hs75 := tf_keepC hF44 hro rfl (by decide) hs35
  have hs76 := tf_keepC hF44 hiz rfl (by decide) hs36
  have hs77 := tf_keepC hF44 hkp rfl (by decide) hs37
  have hs78 := tf_keepC hF44 htm rfl (by decide) hs38
  have hs79 := tf_keepC hF44 hdw rfl (by decide) hs39
  have hs80 := tf_keepC hF44 hwd rfl (by decide) hs40
  have hI0 := tf_IS1_keep hF44 him (by decide) (by decide) hI0
  have hI1 := tf_IS2_keep hF44 him (by decide) (by decide) hI1
  obtain ⟨hp44_0, hp44_1⟩ := hp44
  refine lv_pop hx hb dL_law_689 rfl ?_
  refine lv_goto (tgt := 1498) hx hb dL_law_690 (by decide) ?_
  refine W.widen (k := 130 + 30 * jj) (n := 31200 + 1200 * jj) (by omega) (by omega) ?_
  exact hnx _ _ _ hW hax ham ⟨sq, im, ta, dh, lp, lh, yr, wh, ro, iz, kp, tm, dw, wd, (tt), (uu), (dd), (lm), (fo), (fp), gl, gh, gy, gw, tp, gd, rr, qq, rk, tq, gm, gW, hsq, him, hta, hdh, hlp, hlh, hyr, hwh, hro, hiz, hkp, htm, hdw, hwd, ⟨by omega, by omega⟩, ⟨by omega, by omega⟩, ⟨by omega, by omega⟩, ⟨by omega, by omega⟩, ⟨by omega, by omega⟩, ⟨by omega, by omega⟩, hs45, hs46, hs47, hs48, hs49, hs50, hs51, hs52, hs53, hs54, hs55, hs56, hs57, hs58, hs59, hs60, hs61, hs62, hs63, hs64, hs65, hs66, hs67, tf_eqv hs68 (by omega), hs69, tf_eqv hs70 (by omega), tf_eqv hs71 (by omega), hs72, hs73, tf_eqv hs74 (by omega), hs75, hs76, hs77, hs78, hs79, hs80, hRL, hDD, hTP, hWW, hLM, hI0, hI1⟩ _ (lv_sub hl [0, 1, 2, 3] rfl)

set_option maxHeartbeats 4000000 in
set_option maxRecDepth 100000 in
theorem lc_693 {p : Program} {l : Launch} {e : Env} {s : State} {m : MethodId} {below : List Frame} {meth : Method} {c : Code} {b L : Nat} {g : tf_G} {sx : Int → Int} {Q : State → Prop} (E : lw_E p s m c b L g sx) (ax am jj : Nat) (ii : Int) (hii : ii = 6 * (jj : Int)) (hij : ii + 6 ≤ (L : Int)) (hnx : lw_nx p l e s m below meth c b g ax am jj ii Q) (T : tf_T) (H : Heap) (locs : List Loc) (hW : tf_n tf_kt g M_law (fun _ => none) s.heap T H locs) (hax : T ax = some (39, 0)) (ham : T am = some (63, 0)) (hI : lw_I g T H ax am) (ls : Array Slot) (hl : lv_has ls 4 [(3, .int (Int32.ofInt ii)), (2, .ref am), (1, .ref ax), (0, .ref b)]) : W p l e room_1 s m #[Value.ref b] below meth c H locs (100 + 30 * jj) (30000 + 1200 * jj) Q (F0 m 693 ls []) := by
  obtain ⟨hx, hb, hml, hown, hts, hbl, hk, hBs, hsx, hX, hL⟩ := id E
  have hR1 := lw_R1
  have hR2 := lw_R2
  have hR3 := lw_R3
  have hR4 := lw_R4
  have hK := hk.1
  have hE : tf_E g T := trivial
  obtain ⟨sq, im, ta, dh, lp, lh, yr, wh, ro, iz, kp, tm, dw, wd, tt, uu, dd, lm, fo, fp, gl, gh, gy, gw, tp, gd, rr, qq, rk, tq, gm, gW, hsq, him, hta, hdh, hlp, hlh, hyr, hwh, hro, hiz, hkp, htm, hdw, hwd, htt, huu, hdd, hlm, hfo, hfp, hf0, hf1, hf2, hf3, hf4, hf5, hf6, hf7, hf8, hf9, hf10, hf11, hf12, hf13, hf14, hf15, hf16, hf17, hf18, hf19, hf20, hf21, hf22, hf23, hf24, hf25, hf26, hf27, hf28, hf29, hf30, hf31, hf32, hf33, hf34, hf35, hRL, hDD, hTP, hWW, hLM, hI0, hI1⟩ := hI
  have hWS : tf_WS gy gw := hRL.2.2
  refine lv_aload_n hx hb dL_law_693 rfl (lv_at hl 2 rfl) ?_
  refine lv_aload_n hx hb dL_law_694 rfl (lv_at hl 3 rfl) ?_
  refine lv_iload_n hx hb dL_law_695 rfl (lv_at hl 0 rfl) ?_
  refine tf_iconst hx hb dL_law_696 ?_
  refine tf_iadd hx hb dL_law_697 ?_
  refine lw_sld (sx := sx) hx hb hX hbl hBs hL hW (by omega) (by omega) dL_law_698 ?_
  have hsx1 := hsx (ii + 1)
  refine lv_aload_n hx hb dL_law_699 rfl (lv_at hl 3 rfl) ?_
  refine lv_iload_n hx hb dL_law_700 rfl (lv_at hl 0 rfl) ?_
  refine tf_iconst hx hb dL_law_701 ?_
  refine tf_iadd hx hb dL_law_702 ?_
  refine lw_sld (sx := sx) hx hb hX hbl hBs hL hW (by omega) (by omega) dL_law_703 ?_
  have hsx2 := hsx (ii + 2)
  refine tf_calli (va_runV (As := [.int (Int32.ofInt ((sx (ii + 1)))), .int (Int32.ofInt ((sx (ii + 2))))]) (rest := []) ⟨hx, hb, hml, hown, hts⟩ (c_X9_above l g T ax hax ((sx (ii + 1))) ⟨by omega, by omega⟩ ((sx (ii + 2))) ⟨by omega, by omega⟩ hE) (cwV 2 hts gv_L_78 rfl rfl rfl hd_X9_above ⟨Nat.le_trans (by decide) hR1, Nat.le_trans (by decide) hR2⟩) (tf_preV hk hW hax (ci := 9) rfl rfl trivial) rfl rfl hl.1 rfl (lv_room (Nat.le_of_ble_eq_true rfl)) dL_law_704 ⟨Nat.le_trans (by omega) hR3, Nat.le_trans (by omega) hR4⟩) hW (by decide) (fun z3 H3 locs3 hW hF3 hp3 => ?_)
  have hs4 := tf_keepF hF3 hax rfl rfl (by decide) hf0
  have hs5 := tf_keepF hF3 hax rfl rfl (by decide) hf1
  have hs6 := tf_keepF hF3 hax rfl rfl (by decide) hf2
  have hs7 := tf_keepF hF3 hax rfl rfl (by decide) hf3
  have hs8 := tf_keepF hF3 hax rfl rfl (by decide) hf4
  have hs9 := tf_keepF hF3 hax rfl rfl (by decide) hf5
  have hs10 := tf_keepF hF3 hax rfl rfl (by decide) hf6
  have hs11 := tf_keepF hF3 hax rfl rfl (by decide) hf7
  have hs12 := tf_keepF hF3 hsq rfl rfl (by decide) hf8
  have hs13 := tf_keepF hF3 hsq rfl rfl (by decide) hf9
  have hs14 := tf_keepF hF3 hsq rfl rfl (by decide) hf10
  have hs15 := tf_keepF hF3 hsq rfl rfl (by decide) hf11
  have hs16 := tf_keepF hF3 hsq rfl rfl (by decide) hf12
  have hs17 := tf_keepF hF3 hsq rfl rfl (by decide) hf13
  have hs18 := tf_keepC hF3 hlp rfl (by decide) hf14
  have hs19 := tf_keepC hF3 hlh rfl (by decide) hf15
  have hs20 := tf_keepC hF3 hyr rfl (by decide) hf16
  have hs21 := tf_keepC hF3 hwh rfl (by decide) hf17
  have hs22 := tf_keepC hF3 hta rfl (by decide) hf18
  have hs23 := tf_keepC hF3 hdh rfl (by decide) hf19
  have hs24 := tf_keepF hF3 ham rfl rfl (by decide) hf20
  have hs25 := tf_keepF hF3 ham rfl rfl (by decide) hf21
  have hs26 := tf_keepF hF3 ham rfl rfl (by decide) hf22
  have hs27 := tf_keepF hF3 ham rfl rfl (by decide) hf23
  have hs28 := tf_keepF hF3 ham rfl rfl (by decide) hf24
  have hs29 := tf_keepF hF3 ham rfl rfl (by decide) hf25
  have hs30 := tf_keepF hF3 ham rfl rfl (by decide) hf26
  have hs31 := tf_keepF hF3 ham rfl rfl (by decide) hf27
  have hs32 := tf_keepF hF3 ham rfl rfl (by decide) hf28
  have hs33 := tf_keepF hF3 ham rfl rfl (by decide) hf29
  have hs34 := tf_keepC hF3 hro rfl (by decide) hf30
  have hs35 := tf_keepC hF3 hiz rfl (by decide) hf31
  have hs36 := tf_keepC hF3 hkp rfl (by decide) hf32
  have hs37 := tf_keepC hF3 htm rfl (by decide) hf33
  have hs38 := tf_keepC hF3 hdw rfl (by decide) hf34
  have hs39 := tf_keepC hF3 hwd rfl (by decide) hf35
  have hI0 := tf_IS1_keep hF3 him (by decide) (by decide) hI0
  have hI1 := tf_IS2_keep hF3 him (by decide) (by decide) hI1
  obtain ⟨hp3_0, hp3_1⟩ := hp3
  refine lv_pop hx hb dL_law_707 rfl ?_
  refine lv_aload_n hx hb dL_law_708 rfl (lv_at hl 1 rfl) ?_
  refine lv_aload_n hx hb dL_law_709 rfl (lv_at hl 3 rfl) ?_
  refine lv_iload_n hx hb dL_law_710 rfl (lv_at hl 0 rfl) ?_
  refine tf_iconst hx hb dL_law_711 ?_
  refine tf_iadd hx hb dL_law_712 ?_
  refine lw_sld (sx := sx) hx hb hX hbl hBs hL hW (by omega) (by omega) dL_law_713 ?_
  have hsx40 := hsx (ii + 1)
  refine lv_aload_n hx hb dL_law_714 rfl (lv_at hl 3 rfl) ?_
  refine lv_iload_n hx hb dL_law_715 rfl (lv_at hl 0 rfl) ?_
  refine tf_iconst hx hb dL_law_716 ?_
  refine tf_iadd hx hb dL_law_717 ?_
  refine lw_sld (sx := sx) hx hb hX hbl hBs hL hW (by omega) (by omega) dL_law_718 ?_
  have hsx41 := hsx (ii + 2)
  refine tf_calli (va_runV (As := [.int (Int32.ofInt ((sx (ii + 1)))), .int (Int32.ofInt ((sx (ii + 2))))]) (rest := []) ⟨hx, hb, hml, hown, hts⟩ (c_X10_above l g T am ham ((sx (ii + 1))) ⟨by omega, by omega⟩ ((sx (ii + 2))) ⟨by omega, by omega⟩) (cwV 2 hts gv_L_81 rfl rfl rfl hd_X10_above ⟨Nat.le_trans (by decide) hR1, Nat.le_trans (by decide) hR2⟩) (tf_preV hk hW ham (ci := 10) rfl rfl trivial) rfl rfl hl.1 rfl (lv_room (Nat.le_of_ble_eq_true rfl)) dL_law_719 ⟨Nat.le_trans (by omega) hR3, Nat.le_trans (by omega) hR4⟩) hW (by decide) (fun z42 H42 locs42 hW hF42 hp42 => ?_)
  have hs43 := tf_keepF hF42 hax rfl rfl (by decide) hs4
  have hs44 := tf_keepF hF42 hax rfl rfl (by decide) hs5
  have hs45 := tf_keepF hF42 hax rfl rfl (by decide) hs6
  have hs46 := tf_keepF hF42 hax rfl rfl (by decide) hs7
  have hs47 := tf_keepF hF42 hax rfl rfl (by decide) hs8
  have hs48 := tf_keepF hF42 hax rfl rfl (by decide) hs9
  have hs49 := tf_keepF hF42 hax rfl rfl (by decide) hs10
  have hs50 := tf_keepF hF42 hax rfl rfl (by decide) hs11
  have hs51 := tf_keepF hF42 hsq rfl rfl (by decide) hs12
  have hs52 := tf_keepF hF42 hsq rfl rfl (by decide) hs13
  have hs53 := tf_keepF hF42 hsq rfl rfl (by decide) hs14
  have hs54 := tf_keepF hF42 hsq rfl rfl (by decide) hs15
  have hs55 := tf_keepF hF42 hsq rfl rfl (by decide) hs16
  have hs56 := tf_keepF hF42 hsq rfl rfl (by decide) hs17
  have hs57 := tf_keepC hF42 hlp rfl (by decide) hs18
  have hs58 := tf_keepC hF42 hlh rfl (by decide) hs19
  have hs59 := tf_keepC hF42 hyr rfl (by decide) hs20
  have hs60 := tf_keepC hF42 hwh rfl (by decide) hs21
  have hs61 := tf_keepC hF42 hta rfl (by decide) hs22
  have hs62 := tf_keepC hF42 hdh rfl (by decide) hs23
  have hs63 := tf_keepF hF42 ham rfl rfl (by decide) hs24
  have hs64 := tf_keepF hF42 ham rfl rfl (by decide) hs25
  have hs65 := tf_keepF hF42 ham rfl rfl (by decide) hs26
  have hs66 := tf_keepF hF42 ham rfl rfl (by decide) hs27
  have hs67 := tf_keepF hF42 ham rfl rfl (by decide) hs28
  have hs68 := tf_keepF hF42 ham rfl rfl (by decide) hs29
  have hs69 := tf_keepF hF42 ham rfl rfl (by decide) hs30
  have hs70 := tf_keepF hF42 ham rfl rfl (by decide) hs31
  have hs71 := tf_keepF hF42 ham rfl rfl (by decide) hs32
  have hs72 := tf_keepF hF42 ham rfl rfl (by decide) hs33
  have hs73 := tf_keepC hF42 hro rfl (by decide) hs34
  have hs74 := tf_keepC hF42 hiz rfl (by decide) hs35
  have hs75 := tf_keepC hF42 hkp rfl (by decide) hs36
  have hs76 := tf_keepC hF42 htm rfl (by decide) hs37
  have hs77 := tf_keepC hF42 hdw rfl (by decide) hs38
  have hs78 := tf_keepC hF42 hwd rfl (by decide) hs39
  have hI0 := tf_IS1_keep hF42 him (by decide) (by decide) hI0
  have hI1 := tf_IS2_keep hF42 him (by decide) (by decide) hI1
  obtain ⟨hp42_0, hp42_1⟩ := hp42
  refine lv_pop hx hb dL_law_722 rfl ?_
  refine lv_goto (tgt := 1498) hx hb dL_law_723 (by decide) ?_
  refine W.widen (k := 130 + 30 * jj) (n := 31200 + 1200 * jj) (by omega) (by omega) ?_
  exact hnx _ _ _ hW hax ham ⟨sq, im, ta, dh, lp, lh, yr, wh, ro, iz, kp, tm, dw, wd, (tt), (uu), (dd), (lm), (fo), (fp), gl, gh, gy, gw, tp, gd, rr, qq, rk, tq, gm, gW, hsq, him, hta, hdh, hlp, hlh, hyr, hwh, hro, hiz, hkp, htm, hdw, hwd, ⟨by omega, by omega⟩, ⟨by omega, by omega⟩, ⟨by omega, by omega⟩, ⟨by omega, by omega⟩, ⟨by omega, by omega⟩, ⟨by omega, by omega⟩, hs43, hs44, hs45, hs46, hs47, hs48, hs49, hs50, hs51, hs52, hs53, hs54, hs55, hs56, hs57, hs58, hs59, hs60, hs61, hs62, hs63, hs64, hs65, tf_eqv hs66 (by omega), hs67, tf_eqv hs68 (by omega), tf_eqv hs69 (by omega), hs70, hs71, tf_eqv hs72 (by omega), hs73, hs74, hs75, hs76, hs77, hs78, hRL, hDD, hTP, hWW, hLM, hI0, hI1⟩ _ (lv_sub hl [0, 1, 2, 3] rfl)

set_option maxHeartbeats 4000000 in
set_option maxRecDepth 100000 in
theorem lc_726 {p : Program} {l : Launch} {e : Env} {s : State} {m : MethodId} {below : List Frame} {meth : Method} {c : Code} {b L : Nat} {g : tf_G} {sx : Int → Int} {Q : State → Prop} (E : lw_E p s m c b L g sx) (ax am jj : Nat) (ii : Int) (hii : ii = 6 * (jj : Int)) (hij : ii + 6 ≤ (L : Int)) (hnx : lw_nx p l e s m below meth c b g ax am jj ii Q) (T : tf_T) (H : Heap) (locs : List Loc) (hW : tf_n tf_kt g M_law (fun _ => none) s.heap T H locs) (hax : T ax = some (39, 0)) (ham : T am = some (63, 0)) (hI : lw_I g T H ax am) (ls : Array Slot) (hl : lv_has ls 4 [(3, .int (Int32.ofInt ii)), (2, .ref am), (1, .ref ax), (0, .ref b)]) : W p l e room_1 s m #[Value.ref b] below meth c H locs (100 + 30 * jj) (30000 + 1200 * jj) Q (F0 m 726 ls []) := by
  obtain ⟨hx, hb, hml, hown, hts, hbl, hk, hBs, hsx, hX, hL⟩ := id E
  have hR1 := lw_R1
  have hR2 := lw_R2
  have hR3 := lw_R3
  have hR4 := lw_R4
  have hK := hk.1
  have hE : tf_E g T := trivial
  obtain ⟨sq, im, ta, dh, lp, lh, yr, wh, ro, iz, kp, tm, dw, wd, tt, uu, dd, lm, fo, fp, gl, gh, gy, gw, tp, gd, rr, qq, rk, tq, gm, gW, hsq, him, hta, hdh, hlp, hlh, hyr, hwh, hro, hiz, hkp, htm, hdw, hwd, htt, huu, hdd, hlm, hfo, hfp, hf0, hf1, hf2, hf3, hf4, hf5, hf6, hf7, hf8, hf9, hf10, hf11, hf12, hf13, hf14, hf15, hf16, hf17, hf18, hf19, hf20, hf21, hf22, hf23, hf24, hf25, hf26, hf27, hf28, hf29, hf30, hf31, hf32, hf33, hf34, hf35, hRL, hDD, hTP, hWW, hLM, hI0, hI1⟩ := hI
  have hWS : tf_WS gy gw := hRL.2.2
  refine lv_aload_n hx hb dL_law_726 rfl (lv_at hl 2 rfl) ?_
  refine lv_aload_n hx hb dL_law_727 rfl (lv_at hl 3 rfl) ?_
  refine lv_iload_n hx hb dL_law_728 rfl (lv_at hl 0 rfl) ?_
  refine tf_iconst hx hb dL_law_729 ?_
  refine tf_iadd hx hb dL_law_730 ?_
  refine lw_sld (sx := sx) hx hb hX hbl hBs hL hW (by omega) (by omega) dL_law_731 ?_
  have hsx1 := hsx (ii + 1)
  refine tf_calli (va_runV (As := [.int (Int32.ofInt ((sx (ii + 1))))]) (rest := []) ⟨hx, hb, hml, hown, hts⟩ (c_X9_over l g T ax hax ((sx (ii + 1))) ⟨by omega, by omega⟩ hE) (cwV 1 hts gv_L_82 rfl rfl rfl hd_X9_over ⟨Nat.le_trans (by decide) hR1, Nat.le_trans (by decide) hR2⟩) (tf_preV hk hW hax (ci := 9) rfl rfl trivial) rfl rfl hl.1 rfl (lv_room (Nat.le_of_ble_eq_true rfl)) dL_law_732 ⟨Nat.le_trans (by omega) hR3, Nat.le_trans (by omega) hR4⟩) hW (by decide) (fun z2 H2 locs2 hW hF2 hp2 => ?_)
  have hs3 := tf_keepF hF2 hax rfl rfl (by decide) hf0
  have hs4 := tf_keepF hF2 hax rfl rfl (by decide) hf1
  have hs5 := tf_keepF hF2 hax rfl rfl (by decide) hf2
  have hs6 := tf_keepF hF2 hax rfl rfl (by decide) hf3
  have hs7 := tf_keepF hF2 hax rfl rfl (by decide) hf4
  have hs8 := tf_keepF hF2 hax rfl rfl (by decide) hf5
  have hs9 := tf_keepF hF2 hax rfl rfl (by decide) hf6
  have hs10 := tf_keepF hF2 hax rfl rfl (by decide) hf7
  have hs11 := tf_keepF hF2 hsq rfl rfl (by decide) hf8
  have hs12 := tf_keepF hF2 hsq rfl rfl (by decide) hf9
  have hs13 := tf_keepF hF2 hsq rfl rfl (by decide) hf10
  have hs14 := tf_keepF hF2 hsq rfl rfl (by decide) hf11
  have hs15 := tf_keepF hF2 hsq rfl rfl (by decide) hf12
  have hs16 := tf_keepF hF2 hsq rfl rfl (by decide) hf13
  have hs17 := tf_keepC hF2 hlp rfl (by decide) hf14
  have hs18 := tf_keepC hF2 hlh rfl (by decide) hf15
  have hs19 := tf_keepC hF2 hyr rfl (by decide) hf16
  have hs20 := tf_keepC hF2 hwh rfl (by decide) hf17
  have hs21 := tf_keepC hF2 hta rfl (by decide) hf18
  have hs22 := tf_keepC hF2 hdh rfl (by decide) hf19
  have hs23 := tf_keepF hF2 ham rfl rfl (by decide) hf20
  have hs24 := tf_keepF hF2 ham rfl rfl (by decide) hf21
  have hs25 := tf_keepF hF2 ham rfl rfl (by decide) hf22
  have hs26 := tf_keepF hF2 ham rfl rfl (by decide) hf23
  have hs27 := tf_keepF hF2 ham rfl rfl (by decide) hf24
  have hs28 := tf_keepF hF2 ham rfl rfl (by decide) hf25
  have hs29 := tf_keepF hF2 ham rfl rfl (by decide) hf26
  have hs30 := tf_keepF hF2 ham rfl rfl (by decide) hf27
  have hs31 := tf_keepF hF2 ham rfl rfl (by decide) hf28
  have hs32 := tf_keepF hF2 ham rfl rfl (by decide) hf29
  have hs33 := tf_keepC hF2 hro rfl (by decide) hf30
  have hs34 := tf_keepC hF2 hiz rfl (by decide) hf31
  have hs35 := tf_keepC hF2 hkp rfl (by decide) hf32
  have hs36 := tf_keepC hF2 htm rfl (by decide) hf33
  have hs37 := tf_keepC hF2 hdw rfl (by decide) hf34
  have hs38 := tf_keepC hF2 hwd rfl (by decide) hf35
  have hI0 := tf_IS1_keep hF2 him (by decide) (by decide) hI0
  have hI1 := tf_IS2_keep hF2 him (by decide) (by decide) hI1
  obtain ⟨hp2_0, hp2_1⟩ := hp2
  refine lv_pop hx hb dL_law_735 rfl ?_
  refine lv_aload_n hx hb dL_law_736 rfl (lv_at hl 1 rfl) ?_
  refine lv_aload_n hx hb dL_law_737 rfl (lv_at hl 3 rfl) ?_
  refine lv_iload_n hx hb dL_law_738 rfl (lv_at hl 0 rfl) ?_
  refine tf_iconst hx hb dL_law_739 ?_
  refine tf_iadd hx hb dL_law_740 ?_
  refine lw_sld (sx := sx) hx hb hX hbl hBs hL hW (by omega) (by omega) dL_law_741 ?_
  have hsx39 := hsx (ii + 1)
  refine tf_calli (va_runV (As := [.int (Int32.ofInt ((sx (ii + 1))))]) (rest := []) ⟨hx, hb, hml, hown, hts⟩ (c_X10_over l g T am ham ((sx (ii + 1))) ⟨by omega, by omega⟩) (cwV 1 hts gv_L_85 rfl rfl rfl hd_X10_over ⟨Nat.le_trans (by decide) hR1, Nat.le_trans (by decide) hR2⟩) (tf_preV hk hW ham (ci := 10) rfl rfl trivial) rfl rfl hl.1 rfl (lv_room (Nat.le_of_ble_eq_true rfl)) dL_law_742 ⟨Nat.le_trans (by omega) hR3, Nat.le_trans (by omega) hR4⟩) hW (by decide) (fun z40 H40 locs40 hW hF40 hp40 => ?_)
  have hs41 := tf_keepF hF40 hax rfl rfl (by decide) hs3
  have hs42 := tf_keepF hF40 hax rfl rfl (by decide) hs4
  have hs43 := tf_keepF hF40 hax rfl rfl (by decide) hs5
  have hs44 := tf_keepF hF40 hax rfl rfl (by decide) hs6
  have hs45 := tf_keepF hF40 hax rfl rfl (by decide) hs7
  have hs46 := tf_keepF hF40 hax rfl rfl (by decide) hs8
  have hs47 := tf_keepF hF40 hax rfl rfl (by decide) hs9
  have hs48 := tf_keepF hF40 hax rfl rfl (by decide) hs10
  have hs49 := tf_keepF hF40 hsq rfl rfl (by decide) hs11
  have hs50 := tf_keepF hF40 hsq rfl rfl (by decide) hs12
  have hs51 := tf_keepF hF40 hsq rfl rfl (by decide) hs13
  have hs52 := tf_keepF hF40 hsq rfl rfl (by decide) hs14
  have hs53 := tf_keepF hF40 hsq rfl rfl (by decide) hs15
  have hs54 := tf_keepF hF40 hsq rfl rfl (by decide) hs16
  have hs55 := tf_keepC hF40 hlp rfl (by decide) hs17
  have hs56 := tf_keepC hF40 hlh rfl (by decide) hs18
  have hs57 := tf_keepC hF40 hyr rfl (by decide) hs19
  have hs58 := tf_keepC hF40 hwh rfl (by decide) hs20
  have hs59 := tf_keepC hF40 hta rfl (by decide) hs21
  have hs60 := tf_keepC hF40 hdh rfl (by decide) hs22
  have hs61 := tf_keepF hF40 ham rfl rfl (by decide) hs23
  have hs62 := tf_keepF hF40 ham rfl rfl (by decide) hs24
  have hs63 := tf_keepF hF40 ham rfl rfl (by decide) hs25
  have hs64 := tf_keepF hF40 ham rfl rfl (by decide) hs26
  have hs65 := tf_keepF hF40 ham rfl rfl (by decide) hs27
  have hs66 := tf_keepF hF40 ham rfl rfl (by decide) hs28
  have hs67 := tf_keepF hF40 ham rfl rfl (by decide) hs29
  have hs68 := tf_keepF hF40 ham rfl rfl (by decide) hs30
  have hs69 := tf_keepF hF40 ham rfl rfl (by decide) hs31
  have hs70 := tf_keepF hF40 ham rfl rfl (by decide) hs32
  have hs71 := tf_keepC hF40 hro rfl (by decide) hs33
  have hs72 := tf_keepC hF40 hiz rfl (by decide) hs34
  have hs73 := tf_keepC hF40 hkp rfl (by decide) hs35
  have hs74 := tf_keepC hF40 htm rfl (by decide) hs36
  have hs75 := tf_keepC hF40 hdw rfl (by decide) hs37
  have hs76 := tf_keepC hF40 hwd rfl (by decide) hs38
  have hI0 := tf_IS1_keep hF40 him (by decide) (by decide) hI0
  have hI1 := tf_IS2_keep hF40 him (by decide) (by decide) hI1
  obtain ⟨hp40_0, hp40_1⟩ := hp40
  refine lv_pop hx hb dL_law_745 rfl ?_
  refine lv_goto (tgt := 1498) hx hb dL_law_746 (by decide) ?_
  refine W.widen (k := 130 + 30 * jj) (n := 31200 + 1200 * jj) (by omega) (by omega) ?_
  exact hnx _ _ _ hW hax ham ⟨sq, im, ta, dh, lp, lh, yr, wh, ro, iz, kp, tm, dw, wd, (tt), (uu), (dd), (lm), (fo), (fp), gl, gh, gy, gw, tp, gd, rr, qq, rk, tq, gm, gW, hsq, him, hta, hdh, hlp, hlh, hyr, hwh, hro, hiz, hkp, htm, hdw, hwd, ⟨by omega, by omega⟩, ⟨by omega, by omega⟩, ⟨by omega, by omega⟩, ⟨by omega, by omega⟩, ⟨by omega, by omega⟩, ⟨by omega, by omega⟩, hs41, hs42, hs43, hs44, hs45, hs46, hs47, hs48, hs49, hs50, hs51, hs52, hs53, hs54, hs55, hs56, hs57, hs58, hs59, hs60, hs61, hs62, hs63, tf_eqv hs64 (by omega), hs65, tf_eqv hs66 (by omega), tf_eqv hs67 (by omega), hs68, hs69, tf_eqv hs70 (by omega), hs71, hs72, hs73, hs74, hs75, hs76, hRL, hDD, hTP, hWW, hLM, hI0, hI1⟩ _ (lv_sub hl [0, 1, 2, 3] rfl)

set_option maxHeartbeats 4000000 in
set_option maxRecDepth 100000 in
theorem lc_749 {p : Program} {l : Launch} {e : Env} {s : State} {m : MethodId} {below : List Frame} {meth : Method} {c : Code} {b L : Nat} {g : tf_G} {sx : Int → Int} {Q : State → Prop} (E : lw_E p s m c b L g sx) (ax am jj : Nat) (ii : Int) (hii : ii = 6 * (jj : Int)) (hij : ii + 6 ≤ (L : Int)) (hnx : lw_nx p l e s m below meth c b g ax am jj ii Q) (T : tf_T) (H : Heap) (locs : List Loc) (hW : tf_n tf_kt g M_law (fun _ => none) s.heap T H locs) (hax : T ax = some (39, 0)) (ham : T am = some (63, 0)) (hI : lw_I g T H ax am) (ls : Array Slot) (hl : lv_has ls 4 [(3, .int (Int32.ofInt ii)), (2, .ref am), (1, .ref ax), (0, .ref b)]) : W p l e room_1 s m #[Value.ref b] below meth c H locs (100 + 30 * jj) (30000 + 1200 * jj) Q (F0 m 749 ls []) := by
  obtain ⟨hx, hb, hml, hown, hts, hbl, hk, hBs, hsx, hX, hL⟩ := id E
  have hR1 := lw_R1
  have hR2 := lw_R2
  have hR3 := lw_R3
  have hR4 := lw_R4
  have hK := hk.1
  have hE : tf_E g T := trivial
  obtain ⟨sq, im, ta, dh, lp, lh, yr, wh, ro, iz, kp, tm, dw, wd, tt, uu, dd, lm, fo, fp, gl, gh, gy, gw, tp, gd, rr, qq, rk, tq, gm, gW, hsq, him, hta, hdh, hlp, hlh, hyr, hwh, hro, hiz, hkp, htm, hdw, hwd, htt, huu, hdd, hlm, hfo, hfp, hf0, hf1, hf2, hf3, hf4, hf5, hf6, hf7, hf8, hf9, hf10, hf11, hf12, hf13, hf14, hf15, hf16, hf17, hf18, hf19, hf20, hf21, hf22, hf23, hf24, hf25, hf26, hf27, hf28, hf29, hf30, hf31, hf32, hf33, hf34, hf35, hRL, hDD, hTP, hWW, hLM, hI0, hI1⟩ := hI
  have hWS : tf_WS gy gw := hRL.2.2
  refine lv_aload_n hx hb dL_law_749 rfl (lv_at hl 2 rfl) ?_
  refine lv_aload_n hx hb dL_law_750 rfl (lv_at hl 3 rfl) ?_
  refine lv_iload_n hx hb dL_law_751 rfl (lv_at hl 0 rfl) ?_
  refine tf_iconst hx hb dL_law_752 ?_
  refine tf_iadd hx hb dL_law_753 ?_
  refine lw_sld (sx := sx) hx hb hX hbl hBs hL hW (by omega) (by omega) dL_law_754 ?_
  have hsx1 := hsx (ii + 1)
  refine tf_calli (va_runV (As := [.int (Int32.ofInt ((sx (ii + 1))))]) (rest := []) ⟨hx, hb, hml, hown, hts⟩ (c_X9_bad l g T ax hax ((sx (ii + 1))) ⟨by omega, by omega⟩ hE) (cwV 1 hts gv_L_86 rfl rfl rfl hd_X9_bad ⟨Nat.le_trans (by decide) hR1, Nat.le_trans (by decide) hR2⟩) (tf_preV hk hW hax (ci := 9) rfl rfl trivial) rfl rfl hl.1 rfl (lv_room (Nat.le_of_ble_eq_true rfl)) dL_law_755 ⟨Nat.le_trans (by omega) hR3, Nat.le_trans (by omega) hR4⟩) hW (by decide) (fun z2 H2 locs2 hW hF2 hp2 => ?_)
  have hs3 := tf_keepF hF2 hax rfl rfl (by decide) hf0
  have hs4 := tf_keepF hF2 hax rfl rfl (by decide) hf1
  have hs5 := tf_keepF hF2 hax rfl rfl (by decide) hf2
  have hs6 := tf_keepF hF2 hax rfl rfl (by decide) hf3
  have hs7 := tf_keepF hF2 hax rfl rfl (by decide) hf4
  have hs8 := tf_keepF hF2 hax rfl rfl (by decide) hf5
  have hs9 := tf_keepF hF2 hax rfl rfl (by decide) hf6
  have hs10 := tf_keepF hF2 hax rfl rfl (by decide) hf7
  have hs11 := tf_keepF hF2 hsq rfl rfl (by decide) hf8
  have hs12 := tf_keepF hF2 hsq rfl rfl (by decide) hf9
  have hs13 := tf_keepF hF2 hsq rfl rfl (by decide) hf10
  have hs14 := tf_keepF hF2 hsq rfl rfl (by decide) hf11
  have hs15 := tf_keepF hF2 hsq rfl rfl (by decide) hf12
  have hs16 := tf_keepF hF2 hsq rfl rfl (by decide) hf13
  have hs17 := tf_keepC hF2 hlp rfl (by decide) hf14
  have hs18 := tf_keepC hF2 hlh rfl (by decide) hf15
  have hs19 := tf_keepC hF2 hyr rfl (by decide) hf16
  have hs20 := tf_keepC hF2 hwh rfl (by decide) hf17
  have hs21 := tf_keepC hF2 hta rfl (by decide) hf18
  have hs22 := tf_keepC hF2 hdh rfl (by decide) hf19
  have hs23 := tf_keepF hF2 ham rfl rfl (by decide) hf20
  have hs24 := tf_keepF hF2 ham rfl rfl (by decide) hf21
  have hs25 := tf_keepF hF2 ham rfl rfl (by decide) hf22
  have hs26 := tf_keepF hF2 ham rfl rfl (by decide) hf23
  have hs27 := tf_keepF hF2 ham rfl rfl (by decide) hf24
  have hs28 := tf_keepF hF2 ham rfl rfl (by decide) hf25
  have hs29 := tf_keepF hF2 ham rfl rfl (by decide) hf26
  have hs30 := tf_keepF hF2 ham rfl rfl (by decide) hf27
  have hs31 := tf_keepF hF2 ham rfl rfl (by decide) hf28
  have hs32 := tf_keepF hF2 ham rfl rfl (by decide) hf29
  have hs33 := tf_keepC hF2 hro rfl (by decide) hf30
  have hs34 := tf_keepC hF2 hiz rfl (by decide) hf31
  have hs35 := tf_keepC hF2 hkp rfl (by decide) hf32
  have hs36 := tf_keepC hF2 htm rfl (by decide) hf33
  have hs37 := tf_keepC hF2 hdw rfl (by decide) hf34
  have hs38 := tf_keepC hF2 hwd rfl (by decide) hf35
  have hI0 := tf_IS1_keep hF2 him (by decide) (by decide) hI0
  have hI1 := tf_IS2_keep hF2 him (by decide) (by decide) hI1
  obtain ⟨hp2_0, hp2_1⟩ := hp2
  refine lv_pop hx hb dL_law_758 rfl ?_
  refine lv_aload_n hx hb dL_law_759 rfl (lv_at hl 1 rfl) ?_
  refine lv_aload_n hx hb dL_law_760 rfl (lv_at hl 3 rfl) ?_
  refine lv_iload_n hx hb dL_law_761 rfl (lv_at hl 0 rfl) ?_
  refine tf_iconst hx hb dL_law_762 ?_
  refine tf_iadd hx hb dL_law_763 ?_
  refine lw_sld (sx := sx) hx hb hX hbl hBs hL hW (by omega) (by omega) dL_law_764 ?_
  have hsx39 := hsx (ii + 1)
  refine tf_calli (va_runV (As := [.int (Int32.ofInt ((sx (ii + 1))))]) (rest := []) ⟨hx, hb, hml, hown, hts⟩ (c_X10_bad l g T am ham ((sx (ii + 1))) ⟨by omega, by omega⟩) (cwV 1 hts gv_L_89 rfl rfl rfl hd_X10_bad ⟨Nat.le_trans (by decide) hR1, Nat.le_trans (by decide) hR2⟩) (tf_preV hk hW ham (ci := 10) rfl rfl trivial) rfl rfl hl.1 rfl (lv_room (Nat.le_of_ble_eq_true rfl)) dL_law_765 ⟨Nat.le_trans (by omega) hR3, Nat.le_trans (by omega) hR4⟩) hW (by decide) (fun z40 H40 locs40 hW hF40 hp40 => ?_)
  have hs41 := tf_keepF hF40 hax rfl rfl (by decide) hs3
  have hs42 := tf_keepF hF40 hax rfl rfl (by decide) hs4
  have hs43 := tf_keepF hF40 hax rfl rfl (by decide) hs5
  have hs44 := tf_keepF hF40 hax rfl rfl (by decide) hs6
  have hs45 := tf_keepF hF40 hax rfl rfl (by decide) hs7
  have hs46 := tf_keepF hF40 hax rfl rfl (by decide) hs8
  have hs47 := tf_keepF hF40 hax rfl rfl (by decide) hs9
  have hs48 := tf_keepF hF40 hax rfl rfl (by decide) hs10
  have hs49 := tf_keepF hF40 hsq rfl rfl (by decide) hs11
  have hs50 := tf_keepF hF40 hsq rfl rfl (by decide) hs12
  have hs51 := tf_keepF hF40 hsq rfl rfl (by decide) hs13
  have hs52 := tf_keepF hF40 hsq rfl rfl (by decide) hs14
  have hs53 := tf_keepF hF40 hsq rfl rfl (by decide) hs15
  have hs54 := tf_keepF hF40 hsq rfl rfl (by decide) hs16
  have hs55 := tf_keepC hF40 hlp rfl (by decide) hs17
  have hs56 := tf_keepC hF40 hlh rfl (by decide) hs18
  have hs57 := tf_keepC hF40 hyr rfl (by decide) hs19
  have hs58 := tf_keepC hF40 hwh rfl (by decide) hs20
  have hs59 := tf_keepC hF40 hta rfl (by decide) hs21
  have hs60 := tf_keepC hF40 hdh rfl (by decide) hs22
  have hs61 := tf_keepF hF40 ham rfl rfl (by decide) hs23
  have hs62 := tf_keepF hF40 ham rfl rfl (by decide) hs24
  have hs63 := tf_keepF hF40 ham rfl rfl (by decide) hs25
  have hs64 := tf_keepF hF40 ham rfl rfl (by decide) hs26
  have hs65 := tf_keepF hF40 ham rfl rfl (by decide) hs27
  have hs66 := tf_keepF hF40 ham rfl rfl (by decide) hs28
  have hs67 := tf_keepF hF40 ham rfl rfl (by decide) hs29
  have hs68 := tf_keepF hF40 ham rfl rfl (by decide) hs30
  have hs69 := tf_keepF hF40 ham rfl rfl (by decide) hs31
  have hs70 := tf_keepF hF40 ham rfl rfl (by decide) hs32
  have hs71 := tf_keepC hF40 hro rfl (by decide) hs33
  have hs72 := tf_keepC hF40 hiz rfl (by decide) hs34
  have hs73 := tf_keepC hF40 hkp rfl (by decide) hs35
  have hs74 := tf_keepC hF40 htm rfl (by decide) hs36
  have hs75 := tf_keepC hF40 hdw rfl (by decide) hs37
  have hs76 := tf_keepC hF40 hwd rfl (by decide) hs38
  have hI0 := tf_IS1_keep hF40 him (by decide) (by decide) hI0
  have hI1 := tf_IS2_keep hF40 him (by decide) (by decide) hI1
  obtain ⟨hp40_0, hp40_1⟩ := hp40
  refine lv_pop hx hb dL_law_768 rfl ?_
  refine lv_goto (tgt := 1498) hx hb dL_law_769 (by decide) ?_
  refine W.widen (k := 130 + 30 * jj) (n := 31200 + 1200 * jj) (by omega) (by omega) ?_
  exact hnx _ _ _ hW hax ham ⟨sq, im, ta, dh, lp, lh, yr, wh, ro, iz, kp, tm, dw, wd, (tt), (uu), (dd), (lm), (fo), (fp), gl, gh, gy, gw, tp, gd, rr, qq, rk, tq, gm, gW, hsq, him, hta, hdh, hlp, hlh, hyr, hwh, hro, hiz, hkp, htm, hdw, hwd, ⟨by omega, by omega⟩, ⟨by omega, by omega⟩, ⟨by omega, by omega⟩, ⟨by omega, by omega⟩, ⟨by omega, by omega⟩, ⟨by omega, by omega⟩, hs41, hs42, hs43, hs44, hs45, hs46, hs47, hs48, hs49, hs50, hs51, hs52, hs53, hs54, hs55, hs56, hs57, hs58, hs59, hs60, hs61, hs62, hs63, tf_eqv hs64 (by omega), hs65, tf_eqv hs66 (by omega), tf_eqv hs67 (by omega), hs68, hs69, tf_eqv hs70 (by omega), hs71, hs72, hs73, hs74, hs75, hs76, hRL, hDD, hTP, hWW, hLM, hI0, hI1⟩ _ (lv_sub hl [0, 1, 2, 3] rfl)

set_option maxHeartbeats 4000000 in
set_option maxRecDepth 100000 in
theorem lc_772 {p : Program} {l : Launch} {e : Env} {s : State} {m : MethodId} {below : List Frame} {meth : Method} {c : Code} {b L : Nat} {g : tf_G} {sx : Int → Int} {Q : State → Prop} (E : lw_E p s m c b L g sx) (ax am jj : Nat) (ii : Int) (hii : ii = 6 * (jj : Int)) (hij : ii + 6 ≤ (L : Int)) (hnx : lw_nx p l e s m below meth c b g ax am jj ii Q) (T : tf_T) (H : Heap) (locs : List Loc) (hW : tf_n tf_kt g M_law (fun _ => none) s.heap T H locs) (hax : T ax = some (39, 0)) (ham : T am = some (63, 0)) (hI : lw_I g T H ax am) (ls : Array Slot) (hl : lv_has ls 4 [(3, .int (Int32.ofInt ii)), (2, .ref am), (1, .ref ax), (0, .ref b)]) : W p l e room_1 s m #[Value.ref b] below meth c H locs (100 + 30 * jj) (30000 + 1200 * jj) Q (F0 m 772 ls []) := by
  obtain ⟨hx, hb, hml, hown, hts, hbl, hk, hBs, hsx, hX, hL⟩ := id E
  have hR1 := lw_R1
  have hR2 := lw_R2
  have hR3 := lw_R3
  have hR4 := lw_R4
  have hK := hk.1
  have hE : tf_E g T := trivial
  obtain ⟨sq, im, ta, dh, lp, lh, yr, wh, ro, iz, kp, tm, dw, wd, tt, uu, dd, lm, fo, fp, gl, gh, gy, gw, tp, gd, rr, qq, rk, tq, gm, gW, hsq, him, hta, hdh, hlp, hlh, hyr, hwh, hro, hiz, hkp, htm, hdw, hwd, htt, huu, hdd, hlm, hfo, hfp, hf0, hf1, hf2, hf3, hf4, hf5, hf6, hf7, hf8, hf9, hf10, hf11, hf12, hf13, hf14, hf15, hf16, hf17, hf18, hf19, hf20, hf21, hf22, hf23, hf24, hf25, hf26, hf27, hf28, hf29, hf30, hf31, hf32, hf33, hf34, hf35, hRL, hDD, hTP, hWW, hLM, hI0, hI1⟩ := hI
  have hWS : tf_WS gy gw := hRL.2.2
  refine lv_aload_n hx hb dL_law_772 rfl (lv_at hl 2 rfl) ?_
  refine lv_aload_n hx hb dL_law_773 rfl (lv_at hl 3 rfl) ?_
  refine lv_iload_n hx hb dL_law_774 rfl (lv_at hl 0 rfl) ?_
  refine tf_iconst hx hb dL_law_775 ?_
  refine tf_iadd hx hb dL_law_776 ?_
  refine lw_sld (sx := sx) hx hb hX hbl hBs hL hW (by omega) (by omega) dL_law_777 ?_
  have hsx1 := hsx (ii + 1)
  refine lv_aload_n hx hb dL_law_778 rfl (lv_at hl 3 rfl) ?_
  refine lv_iload_n hx hb dL_law_779 rfl (lv_at hl 0 rfl) ?_
  refine tf_iconst hx hb dL_law_780 ?_
  refine tf_iadd hx hb dL_law_781 ?_
  refine lw_sld (sx := sx) hx hb hX hbl hBs hL hW (by omega) (by omega) dL_law_782 ?_
  have hsx2 := hsx (ii + 2)
  refine tf_calli (va_runV (As := [.int (Int32.ofInt ((sx (ii + 1)))), .int (Int32.ofInt ((sx (ii + 2))))]) (rest := []) ⟨hx, hb, hml, hown, hts⟩ (c_X9_kinds l g T ax hax ((sx (ii + 1))) ⟨by omega, by omega⟩ ((sx (ii + 2))) ⟨by omega, by omega⟩ hE) (cwV 2 hts gv_L_90 rfl rfl rfl hd_X9_kinds ⟨Nat.le_trans (by decide) hR1, Nat.le_trans (by decide) hR2⟩) (tf_preV hk hW hax (ci := 9) rfl rfl trivial) rfl rfl hl.1 rfl (lv_room (Nat.le_of_ble_eq_true rfl)) dL_law_783 ⟨Nat.le_trans (by omega) hR3, Nat.le_trans (by omega) hR4⟩) hW (by decide) (fun z3 H3 locs3 hW hF3 hp3 => ?_)
  have hs4 := tf_keepF hF3 hax rfl rfl (by decide) hf0
  have hs5 := tf_keepF hF3 hax rfl rfl (by decide) hf1
  have hs6 := tf_keepF hF3 hax rfl rfl (by decide) hf2
  have hs7 := tf_keepF hF3 hax rfl rfl (by decide) hf3
  have hs8 := tf_keepF hF3 hax rfl rfl (by decide) hf4
  have hs9 := tf_keepF hF3 hax rfl rfl (by decide) hf5
  have hs10 := tf_keepF hF3 hax rfl rfl (by decide) hf6
  have hs11 := tf_keepF hF3 hax rfl rfl (by decide) hf7
  have hs12 := tf_keepF hF3 hsq rfl rfl (by decide) hf8
  have hs13 := tf_keepF hF3 hsq rfl rfl (by decide) hf9
  have hs14 := tf_keepF hF3 hsq rfl rfl (by decide) hf10
  have hs15 := tf_keepF hF3 hsq rfl rfl (by decide) hf11
  have hs16 := tf_keepF hF3 hsq rfl rfl (by decide) hf12
  have hs17 := tf_keepF hF3 hsq rfl rfl (by decide) hf13
  have hs18 := tf_keepC hF3 hlp rfl (by decide) hf14
  have hs19 := tf_keepC hF3 hlh rfl (by decide) hf15
  have hs20 := tf_keepC hF3 hyr rfl (by decide) hf16
  have hs21 := tf_keepC hF3 hwh rfl (by decide) hf17
  have hs22 := tf_keepC hF3 hta rfl (by decide) hf18
  have hs23 := tf_keepC hF3 hdh rfl (by decide) hf19
  have hs24 := tf_keepF hF3 ham rfl rfl (by decide) hf20
  have hs25 := tf_keepF hF3 ham rfl rfl (by decide) hf21
  have hs26 := tf_keepF hF3 ham rfl rfl (by decide) hf22
  have hs27 := tf_keepF hF3 ham rfl rfl (by decide) hf23
  have hs28 := tf_keepF hF3 ham rfl rfl (by decide) hf24
  have hs29 := tf_keepF hF3 ham rfl rfl (by decide) hf25
  have hs30 := tf_keepF hF3 ham rfl rfl (by decide) hf26
  have hs31 := tf_keepF hF3 ham rfl rfl (by decide) hf27
  have hs32 := tf_keepF hF3 ham rfl rfl (by decide) hf28
  have hs33 := tf_keepF hF3 ham rfl rfl (by decide) hf29
  have hs34 := tf_keepC hF3 hro rfl (by decide) hf30
  have hs35 := tf_keepC hF3 hiz rfl (by decide) hf31
  have hs36 := tf_keepC hF3 hkp rfl (by decide) hf32
  have hs37 := tf_keepC hF3 htm rfl (by decide) hf33
  have hs38 := tf_keepC hF3 hdw rfl (by decide) hf34
  have hs39 := tf_keepC hF3 hwd rfl (by decide) hf35
  have hI0 := tf_IS1_keep hF3 him (by decide) (by decide) hI0
  have hI1 := tf_IS2_keep hF3 him (by decide) (by decide) hI1
  obtain ⟨hp3_0, hp3_1⟩ := hp3
  refine lv_pop hx hb dL_law_786 rfl ?_
  refine lv_aload_n hx hb dL_law_787 rfl (lv_at hl 1 rfl) ?_
  refine lv_aload_n hx hb dL_law_788 rfl (lv_at hl 3 rfl) ?_
  refine lv_iload_n hx hb dL_law_789 rfl (lv_at hl 0 rfl) ?_
  refine tf_iconst hx hb dL_law_790 ?_
  refine tf_iadd hx hb dL_law_791 ?_
  refine lw_sld (sx := sx) hx hb hX hbl hBs hL hW (by omega) (by omega) dL_law_792 ?_
  have hsx40 := hsx (ii + 1)
  refine lv_aload_n hx hb dL_law_793 rfl (lv_at hl 3 rfl) ?_
  refine lv_iload_n hx hb dL_law_794 rfl (lv_at hl 0 rfl) ?_
  refine tf_iconst hx hb dL_law_795 ?_
  refine tf_iadd hx hb dL_law_796 ?_
  refine lw_sld (sx := sx) hx hb hX hbl hBs hL hW (by omega) (by omega) dL_law_797 ?_
  have hsx41 := hsx (ii + 2)
  refine tf_calli (va_runV (As := [.int (Int32.ofInt ((sx (ii + 1)))), .int (Int32.ofInt ((sx (ii + 2))))]) (rest := []) ⟨hx, hb, hml, hown, hts⟩ (c_X10_kinds l g T am ham ((sx (ii + 1))) ⟨by omega, by omega⟩ ((sx (ii + 2))) ⟨by omega, by omega⟩) (cwV 2 hts gv_L_93 rfl rfl rfl hd_X10_kinds ⟨Nat.le_trans (by decide) hR1, Nat.le_trans (by decide) hR2⟩) (tf_preV hk hW ham (ci := 10) rfl rfl trivial) rfl rfl hl.1 rfl (lv_room (Nat.le_of_ble_eq_true rfl)) dL_law_798 ⟨Nat.le_trans (by omega) hR3, Nat.le_trans (by omega) hR4⟩) hW (by decide) (fun z42 H42 locs42 hW hF42 hp42 => ?_)
  have hs43 := tf_keepF hF42 hax rfl rfl (by decide) hs4
  have hs44 := tf_keepF hF42 hax rfl rfl (by decide) hs5
  have hs45 := tf_keepF hF42 hax rfl rfl (by decide) hs6
  have hs46 := tf_keepF hF42 hax rfl rfl (by decide) hs7
  have hs47 := tf_keepF hF42 hax rfl rfl (by decide) hs8
  have hs48 := tf_keepF hF42 hax rfl rfl (by decide) hs9
  have hs49 := tf_keepF hF42 hax rfl rfl (by decide) hs10
  have hs50 := tf_keepF hF42 hax rfl rfl (by decide) hs11
  have hs51 := tf_keepF hF42 hsq rfl rfl (by decide) hs12
  have hs52 := tf_keepF hF42 hsq rfl rfl (by decide) hs13
  have hs53 := tf_keepF hF42 hsq rfl rfl (by decide) hs14
  have hs54 := tf_keepF hF42 hsq rfl rfl (by decide) hs15
  have hs55 := tf_keepF hF42 hsq rfl rfl (by decide) hs16
  have hs56 := tf_keepF hF42 hsq rfl rfl (by decide) hs17
  have hs57 := tf_keepC hF42 hlp rfl (by decide) hs18
  have hs58 := tf_keepC hF42 hlh rfl (by decide) hs19
  have hs59 := tf_keepC hF42 hyr rfl (by decide) hs20
  have hs60 := tf_keepC hF42 hwh rfl (by decide) hs21
  have hs61 := tf_keepC hF42 hta rfl (by decide) hs22
  have hs62 := tf_keepC hF42 hdh rfl (by decide) hs23
  have hs63 := tf_keepF hF42 ham rfl rfl (by decide) hs24
  have hs64 := tf_keepF hF42 ham rfl rfl (by decide) hs25
  have hs65 := tf_keepF hF42 ham rfl rfl (by decide) hs26
  have hs66 := tf_keepF hF42 ham rfl rfl (by decide) hs27
  have hs67 := tf_keepF hF42 ham rfl rfl (by decide) hs28
  have hs68 := tf_keepF hF42 ham rfl rfl (by decide) hs29
  have hs69 := tf_keepF hF42 ham rfl rfl (by decide) hs30
  have hs70 := tf_keepF hF42 ham rfl rfl (by decide) hs31
  have hs71 := tf_keepF hF42 ham rfl rfl (by decide) hs32
  have hs72 := tf_keepF hF42 ham rfl rfl (by decide) hs33
  have hs73 := tf_keepC hF42 hro rfl (by decide) hs34
  have hs74 := tf_keepC hF42 hiz rfl (by decide) hs35
  have hs75 := tf_keepC hF42 hkp rfl (by decide) hs36
  have hs76 := tf_keepC hF42 htm rfl (by decide) hs37
  have hs77 := tf_keepC hF42 hdw rfl (by decide) hs38
  have hs78 := tf_keepC hF42 hwd rfl (by decide) hs39
  have hI0 := tf_IS1_keep hF42 him (by decide) (by decide) hI0
  have hI1 := tf_IS2_keep hF42 him (by decide) (by decide) hI1
  obtain ⟨hp42_0, hp42_1⟩ := hp42
  refine lv_pop hx hb dL_law_801 rfl ?_
  refine lv_goto (tgt := 1498) hx hb dL_law_802 (by decide) ?_
  refine W.widen (k := 130 + 30 * jj) (n := 31200 + 1200 * jj) (by omega) (by omega) ?_
  exact hnx _ _ _ hW hax ham ⟨sq, im, ta, dh, lp, lh, yr, wh, ro, iz, kp, tm, dw, wd, (tt), (uu), (dd), (lm), (fo), (fp), gl, gh, gy, gw, tp, gd, rr, qq, rk, tq, gm, gW, hsq, him, hta, hdh, hlp, hlh, hyr, hwh, hro, hiz, hkp, htm, hdw, hwd, ⟨by omega, by omega⟩, ⟨by omega, by omega⟩, ⟨by omega, by omega⟩, ⟨by omega, by omega⟩, ⟨by omega, by omega⟩, ⟨by omega, by omega⟩, hs43, hs44, hs45, hs46, hs47, hs48, hs49, hs50, hs51, hs52, hs53, hs54, hs55, hs56, hs57, hs58, hs59, hs60, hs61, hs62, hs63, hs64, hs65, tf_eqv hs66 (by omega), hs67, tf_eqv hs68 (by omega), tf_eqv hs69 (by omega), hs70, hs71, tf_eqv hs72 (by omega), hs73, hs74, hs75, hs76, hs77, hs78, hRL, hDD, hTP, hWW, hLM, hI0, hI1⟩ _ (lv_sub hl [0, 1, 2, 3] rfl)

set_option maxHeartbeats 4000000 in
set_option maxRecDepth 100000 in
theorem lc_805 {p : Program} {l : Launch} {e : Env} {s : State} {m : MethodId} {below : List Frame} {meth : Method} {c : Code} {b L : Nat} {g : tf_G} {sx : Int → Int} {Q : State → Prop} (E : lw_E p s m c b L g sx) (ax am jj : Nat) (ii : Int) (hii : ii = 6 * (jj : Int)) (hij : ii + 6 ≤ (L : Int)) (hnx : lw_nx p l e s m below meth c b g ax am jj ii Q) (T : tf_T) (H : Heap) (locs : List Loc) (hW : tf_n tf_kt g M_law (fun _ => none) s.heap T H locs) (hax : T ax = some (39, 0)) (ham : T am = some (63, 0)) (hI : lw_I g T H ax am) (ls : Array Slot) (hl : lv_has ls 4 [(3, .int (Int32.ofInt ii)), (2, .ref am), (1, .ref ax), (0, .ref b)]) : W p l e room_1 s m #[Value.ref b] below meth c H locs (100 + 30 * jj) (30000 + 1200 * jj) Q (F0 m 805 ls []) := by
  obtain ⟨hx, hb, hml, hown, hts, hbl, hk, hBs, hsx, hX, hL⟩ := id E
  have hR1 := lw_R1
  have hR2 := lw_R2
  have hR3 := lw_R3
  have hR4 := lw_R4
  have hK := hk.1
  have hE : tf_E g T := trivial
  obtain ⟨sq, im, ta, dh, lp, lh, yr, wh, ro, iz, kp, tm, dw, wd, tt, uu, dd, lm, fo, fp, gl, gh, gy, gw, tp, gd, rr, qq, rk, tq, gm, gW, hsq, him, hta, hdh, hlp, hlh, hyr, hwh, hro, hiz, hkp, htm, hdw, hwd, htt, huu, hdd, hlm, hfo, hfp, hf0, hf1, hf2, hf3, hf4, hf5, hf6, hf7, hf8, hf9, hf10, hf11, hf12, hf13, hf14, hf15, hf16, hf17, hf18, hf19, hf20, hf21, hf22, hf23, hf24, hf25, hf26, hf27, hf28, hf29, hf30, hf31, hf32, hf33, hf34, hf35, hRL, hDD, hTP, hWW, hLM, hI0, hI1⟩ := hI
  have hWS : tf_WS gy gw := hRL.2.2
  refine lv_aload_n hx hb dL_law_805 rfl (lv_at hl 2 rfl) ?_
  refine lv_aload_n hx hb dL_law_806 rfl (lv_at hl 3 rfl) ?_
  refine lv_iload_n hx hb dL_law_807 rfl (lv_at hl 0 rfl) ?_
  refine tf_iconst hx hb dL_law_808 ?_
  refine tf_iadd hx hb dL_law_809 ?_
  refine lw_sld (sx := sx) hx hb hX hbl hBs hL hW (by omega) (by omega) dL_law_810 ?_
  have hsx1 := hsx (ii + 1)
  refine tf_calli (va_runV (As := [.int (Int32.ofInt ((sx (ii + 1))))]) (rest := []) ⟨hx, hb, hml, hown, hts⟩ (c_X9_does l g T ax hax ((sx (ii + 1))) ⟨by omega, by omega⟩ hE) (cwV 1 hts gv_L_94 rfl rfl rfl hd_X9_does ⟨Nat.le_trans (by decide) hR1, Nat.le_trans (by decide) hR2⟩) (tf_preV hk hW hax (ci := 9) rfl rfl trivial) rfl rfl hl.1 rfl (lv_room (Nat.le_of_ble_eq_true rfl)) dL_law_811 ⟨Nat.le_trans (by omega) hR3, Nat.le_trans (by omega) hR4⟩) hW (by decide) (fun z2 H2 locs2 hW hF2 hp2 => ?_)
  have hs3 := tf_keepF hF2 hax rfl rfl (by decide) hf0
  have hs4 := tf_keepF hF2 hax rfl rfl (by decide) hf1
  have hs5 := tf_keepF hF2 hax rfl rfl (by decide) hf2
  have hs6 := tf_keepF hF2 hax rfl rfl (by decide) hf3
  have hs7 := tf_keepF hF2 hax rfl rfl (by decide) hf4
  have hs8 := tf_keepF hF2 hax rfl rfl (by decide) hf5
  have hs9 := tf_keepF hF2 hax rfl rfl (by decide) hf6
  have hs10 := tf_keepF hF2 hax rfl rfl (by decide) hf7
  have hs11 := tf_keepF hF2 hsq rfl rfl (by decide) hf8
  have hs12 := tf_keepF hF2 hsq rfl rfl (by decide) hf9
  have hs13 := tf_keepF hF2 hsq rfl rfl (by decide) hf10
  have hs14 := tf_keepF hF2 hsq rfl rfl (by decide) hf11
  have hs15 := tf_keepF hF2 hsq rfl rfl (by decide) hf12
  have hs16 := tf_keepF hF2 hsq rfl rfl (by decide) hf13
  have hs17 := tf_keepC hF2 hlp rfl (by decide) hf14
  have hs18 := tf_keepC hF2 hlh rfl (by decide) hf15
  have hs19 := tf_keepC hF2 hyr rfl (by decide) hf16
  have hs20 := tf_keepC hF2 hwh rfl (by decide) hf17
  have hs21 := tf_keepC hF2 hta rfl (by decide) hf18
  have hs22 := tf_keepC hF2 hdh rfl (by decide) hf19
  have hs23 := tf_keepF hF2 ham rfl rfl (by decide) hf20
  have hs24 := tf_keepF hF2 ham rfl rfl (by decide) hf21
  have hs25 := tf_keepF hF2 ham rfl rfl (by decide) hf22
  have hs26 := tf_keepF hF2 ham rfl rfl (by decide) hf23
  have hs27 := tf_keepF hF2 ham rfl rfl (by decide) hf24
  have hs28 := tf_keepF hF2 ham rfl rfl (by decide) hf25
  have hs29 := tf_keepF hF2 ham rfl rfl (by decide) hf26
  have hs30 := tf_keepF hF2 ham rfl rfl (by decide) hf27
  have hs31 := tf_keepF hF2 ham rfl rfl (by decide) hf28
  have hs32 := tf_keepF hF2 ham rfl rfl (by decide) hf29
  have hs33 := tf_keepC hF2 hro rfl (by decide) hf30
  have hs34 := tf_keepC hF2 hiz rfl (by decide) hf31
  have hs35 := tf_keepC hF2 hkp rfl (by decide) hf32
  have hs36 := tf_keepC hF2 htm rfl (by decide) hf33
  have hs37 := tf_keepC hF2 hdw rfl (by decide) hf34
  have hs38 := tf_keepC hF2 hwd rfl (by decide) hf35
  have hI0 := tf_IS1_keep hF2 him (by decide) (by decide) hI0
  have hI1 := tf_IS2_keep hF2 him (by decide) (by decide) hI1
  obtain ⟨hp2_0, hp2_1⟩ := hp2
  refine lv_pop hx hb dL_law_814 rfl ?_
  refine lv_aload_n hx hb dL_law_815 rfl (lv_at hl 1 rfl) ?_
  refine lv_aload_n hx hb dL_law_816 rfl (lv_at hl 3 rfl) ?_
  refine lv_iload_n hx hb dL_law_817 rfl (lv_at hl 0 rfl) ?_
  refine tf_iconst hx hb dL_law_818 ?_
  refine tf_iadd hx hb dL_law_819 ?_
  refine lw_sld (sx := sx) hx hb hX hbl hBs hL hW (by omega) (by omega) dL_law_820 ?_
  have hsx39 := hsx (ii + 1)
  refine tf_calli (va_runV (As := [.int (Int32.ofInt ((sx (ii + 1))))]) (rest := []) ⟨hx, hb, hml, hown, hts⟩ (c_X10_does l g T am ham ((sx (ii + 1))) ⟨by omega, by omega⟩) (cwV 1 hts gv_L_97 rfl rfl rfl hd_X10_does ⟨Nat.le_trans (by decide) hR1, Nat.le_trans (by decide) hR2⟩) (tf_preV hk hW ham (ci := 10) rfl rfl trivial) rfl rfl hl.1 rfl (lv_room (Nat.le_of_ble_eq_true rfl)) dL_law_821 ⟨Nat.le_trans (by omega) hR3, Nat.le_trans (by omega) hR4⟩) hW (by decide) (fun z40 H40 locs40 hW hF40 hp40 => ?_)
  have hs41 := tf_keepF hF40 hax rfl rfl (by decide) hs3
  have hs42 := tf_keepF hF40 hax rfl rfl (by decide) hs4
  have hs43 := tf_keepF hF40 hax rfl rfl (by decide) hs5
  have hs44 := tf_keepF hF40 hax rfl rfl (by decide) hs6
  have hs45 := tf_keepF hF40 hax rfl rfl (by decide) hs7
  have hs46 := tf_keepF hF40 hax rfl rfl (by decide) hs8
  have hs47 := tf_keepF hF40 hax rfl rfl (by decide) hs9
  have hs48 := tf_keepF hF40 hax rfl rfl (by decide) hs10
  have hs49 := tf_keepF hF40 hsq rfl rfl (by decide) hs11
  have hs50 := tf_keepF hF40 hsq rfl rfl (by decide) hs12
  have hs51 := tf_keepF hF40 hsq rfl rfl (by decide) hs13
  have hs52 := tf_keepF hF40 hsq rfl rfl (by decide) hs14
  have hs53 := tf_keepF hF40 hsq rfl rfl (by decide) hs15
  have hs54 := tf_keepF hF40 hsq rfl rfl (by decide) hs16
  have hs55 := tf_keepC hF40 hlp rfl (by decide) hs17
  have hs56 := tf_keepC hF40 hlh rfl (by decide) hs18
  have hs57 := tf_keepC hF40 hyr rfl (by decide) hs19
  have hs58 := tf_keepC hF40 hwh rfl (by decide) hs20
  have hs59 := tf_keepC hF40 hta rfl (by decide) hs21
  have hs60 := tf_keepC hF40 hdh rfl (by decide) hs22
  have hs61 := tf_keepF hF40 ham rfl rfl (by decide) hs23
  have hs62 := tf_keepF hF40 ham rfl rfl (by decide) hs24
  have hs63 := tf_keepF hF40 ham rfl rfl (by decide) hs25
  have hs64 := tf_keepF hF40 ham rfl rfl (by decide) hs26
  have hs65 := tf_keepF hF40 ham rfl rfl (by decide) hs27
  have hs66 := tf_keepF hF40 ham rfl rfl (by decide) hs28
  have hs67 := tf_keepF hF40 ham rfl rfl (by decide) hs29
  have hs68 := tf_keepF hF40 ham rfl rfl (by decide) hs30
  have hs69 := tf_keepF hF40 ham rfl rfl (by decide) hs31
  have hs70 := tf_keepF hF40 ham rfl rfl (by decide) hs32
  have hs71 := tf_keepC hF40 hro rfl (by decide) hs33
  have hs72 := tf_keepC hF40 hiz rfl (by decide) hs34
  have hs73 := tf_keepC hF40 hkp rfl (by decide) hs35
  have hs74 := tf_keepC hF40 htm rfl (by decide) hs36
  have hs75 := tf_keepC hF40 hdw rfl (by decide) hs37
  have hs76 := tf_keepC hF40 hwd rfl (by decide) hs38
  have hI0 := tf_IS1_keep hF40 him (by decide) (by decide) hI0
  have hI1 := tf_IS2_keep hF40 him (by decide) (by decide) hI1
  obtain ⟨hp40_0, hp40_1⟩ := hp40
  refine lv_pop hx hb dL_law_824 rfl ?_
  refine lv_goto (tgt := 1498) hx hb dL_law_825 (by decide) ?_
  refine W.widen (k := 130 + 30 * jj) (n := 31200 + 1200 * jj) (by omega) (by omega) ?_
  exact hnx _ _ _ hW hax ham ⟨sq, im, ta, dh, lp, lh, yr, wh, ro, iz, kp, tm, dw, wd, (tt), (uu), (dd), (lm), (fo), (fp), gl, gh, gy, gw, tp, gd, rr, qq, rk, tq, gm, gW, hsq, him, hta, hdh, hlp, hlh, hyr, hwh, hro, hiz, hkp, htm, hdw, hwd, ⟨by omega, by omega⟩, ⟨by omega, by omega⟩, ⟨by omega, by omega⟩, ⟨by omega, by omega⟩, ⟨by omega, by omega⟩, ⟨by omega, by omega⟩, hs41, hs42, hs43, hs44, hs45, hs46, hs47, hs48, hs49, hs50, hs51, hs52, hs53, hs54, hs55, hs56, hs57, hs58, hs59, hs60, hs61, hs62, hs63, tf_eqv hs64 (by omega), hs65, tf_eqv hs66 (by omega), tf_eqv hs67 (by omega), hs68, hs69, tf_eqv hs70 (by omega), hs71, hs72, hs73, hs74, hs75, hs76, hRL, hDD, hTP, hWW, hLM, hI0, hI1⟩ _ (lv_sub hl [0, 1, 2, 3] rfl)

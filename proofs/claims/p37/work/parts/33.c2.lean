set_option maxHeartbeats 4000000 in
set_option maxRecDepth 100000 in
theorem lc_828 {p : Program} {l : Launch} {e : Env} {s : State} {m : MethodId} {below : List Frame} {meth : Method} {c : Code} {b L : Nat} {g : tf_G} {sx : Int → Int} {Q : State → Prop} (E : lw_E p s m c b L g sx) (ax am jj : Nat) (ii : Int) (hii : ii = 6 * (jj : Int)) (hij : ii + 6 ≤ (L : Int)) (hnx : lw_nx p l e s m below meth c b g ax am jj ii Q) (T : tf_T) (H : Heap) (locs : List Loc) (hW : tf_n tf_kt g M_law (fun _ => none) s.heap T H locs) (hax : T ax = some (39, 0)) (ham : T am = some (63, 0)) (hI : lw_I g T H ax am) (ls : Array Slot) (hl : lv_has ls 4 [(3, .int (Int32.ofInt ii)), (2, .ref am), (1, .ref ax), (0, .ref b)]) : W p l e room_1 s m #[Value.ref b] below meth c H locs (100 + 30 * jj) (30000 + 1200 * jj) Q (F0 m 828 ls []) := by
  obtain ⟨hx, hb, hml, hown, hts, hbl, hk, hBs, hsx, hX, hL⟩ := id E
  have hR1 := lw_R1
  have hR2 := lw_R2
  have hR3 := lw_R3
  have hR4 := lw_R4
  have hK := hk.1
  have hE : tf_E g T := trivial
  obtain ⟨sq, im, ta, dh, lp, lh, yr, wh, ro, iz, kp, tm, dw, tt, uu, dd, gl, gh, gy, gw, tp, gd, rr, qq, rk, tq, gm, hsq, him, hta, hdh, hlp, hlh, hyr, hwh, hro, hiz, hkp, htm, hdw, htt, huu, hdd, hf0, hf1, hf2, hf3, hf4, hf5, hf6, hf7, hf8, hf9, hf10, hf11, hf12, hf13, hf14, hf15, hf16, hf17, hf18, hf19, hf20, hf21, hf22, hf23, hf24, hf25, hf26, hf27, hf28, hf29, hRL, hDD, hTP, hI0, hI1⟩ := hI
  have hWS : tf_WS gy gw := hRL.2.2
  refine lv_aload_n hx hb dL_law_828 rfl (lv_at hl 2 rfl) ?_
  refine lv_aload_n hx hb dL_law_829 rfl (lv_at hl 3 rfl) ?_
  refine lv_iload_n hx hb dL_law_830 rfl (lv_at hl 0 rfl) ?_
  refine tf_iconst hx hb dL_law_831 ?_
  refine tf_iadd hx hb dL_law_832 ?_
  refine lw_sld (sx := sx) hx hb hX hbl hBs hL hW (by omega) (by omega) dL_law_833 ?_
  have hsx1 := hsx (ii + 1)
  refine tf_calll (va_runV (As := [.int (Int32.ofInt ((sx (ii + 1))))]) (rest := []) ⟨hx, hb, hml, hown, hts⟩ (c_X9_share l g T ax hax ((sx (ii + 1))) ⟨by omega, by omega⟩ hE) (cwV 1 hts gv_L_98 rfl rfl rfl hd_X9_share ⟨Nat.le_trans (by decide) hR1, Nat.le_trans (by decide) hR2⟩) (tf_preV hk hW hax (ci := 9) rfl rfl trivial) rfl rfl hl.1 rfl (lv_room (Nat.le_of_ble_eq_true rfl)) dL_law_834 ⟨Nat.le_trans (by omega) hR3, Nat.le_trans (by omega) hR4⟩) hW (by decide) (fun z2 H2 locs2 hW hF2 hp2 => ?_)
  have hs3 := tf_keepF hF2 hax rfl rfl (by decide) hf0
  have hs4 := tf_keepF hF2 hax rfl rfl (by decide) hf1
  have hs5 := tf_keepF hF2 hax rfl rfl (by decide) hf2
  have hs6 := tf_keepF hF2 hax rfl rfl (by decide) hf3
  have hs7 := tf_keepF hF2 hax rfl rfl (by decide) hf4
  have hs8 := tf_keepF hF2 hax rfl rfl (by decide) hf5
  have hs9 := tf_keepF hF2 hax rfl rfl (by decide) hf6
  have hs10 := tf_keepF hF2 hsq rfl rfl (by decide) hf7
  have hs11 := tf_keepF hF2 hsq rfl rfl (by decide) hf8
  have hs12 := tf_keepF hF2 hsq rfl rfl (by decide) hf9
  have hs13 := tf_keepF hF2 hsq rfl rfl (by decide) hf10
  have hs14 := tf_keepC hF2 hlp rfl (by decide) hf11
  have hs15 := tf_keepC hF2 hlh rfl (by decide) hf12
  have hs16 := tf_keepC hF2 hyr rfl (by decide) hf13
  have hs17 := tf_keepC hF2 hwh rfl (by decide) hf14
  have hs18 := tf_keepC hF2 hta rfl (by decide) hf15
  have hs19 := tf_keepC hF2 hdh rfl (by decide) hf16
  have hs20 := tf_keepF hF2 ham rfl rfl (by decide) hf17
  have hs21 := tf_keepF hF2 ham rfl rfl (by decide) hf18
  have hs22 := tf_keepF hF2 ham rfl rfl (by decide) hf19
  have hs23 := tf_keepF hF2 ham rfl rfl (by decide) hf20
  have hs24 := tf_keepF hF2 ham rfl rfl (by decide) hf21
  have hs25 := tf_keepF hF2 ham rfl rfl (by decide) hf22
  have hs26 := tf_keepF hF2 ham rfl rfl (by decide) hf23
  have hs27 := tf_keepF hF2 ham rfl rfl (by decide) hf24
  have hs28 := tf_keepC hF2 hro rfl (by decide) hf25
  have hs29 := tf_keepC hF2 hiz rfl (by decide) hf26
  have hs30 := tf_keepC hF2 hkp rfl (by decide) hf27
  have hs31 := tf_keepC hF2 htm rfl (by decide) hf28
  have hs32 := tf_keepC hF2 hdw rfl (by decide) hf29
  have hI0 := tf_IS1_keep hF2 him (by decide) (by decide) hI0
  have hI1 := tf_IS2_keep hF2 him (by decide) (by decide) hI1
  obtain ⟨hp2_0, hp2_1⟩ := hp2
  refine lv_pop2_2 hx hb dL_law_837 rfl ?_
  refine lv_aload_n hx hb dL_law_838 rfl (lv_at hl 1 rfl) ?_
  refine lv_aload_n hx hb dL_law_839 rfl (lv_at hl 3 rfl) ?_
  refine lv_iload_n hx hb dL_law_840 rfl (lv_at hl 0 rfl) ?_
  refine tf_iconst hx hb dL_law_841 ?_
  refine tf_iadd hx hb dL_law_842 ?_
  refine lw_sld (sx := sx) hx hb hX hbl hBs hL hW (by omega) (by omega) dL_law_843 ?_
  have hsx33 := hsx (ii + 1)
  refine tf_calll (va_runV (As := [.int (Int32.ofInt ((sx (ii + 1))))]) (rest := []) ⟨hx, hb, hml, hown, hts⟩ (c_X10_share l g T am ham ((sx (ii + 1))) ⟨by omega, by omega⟩) (cwV 1 hts gv_L_102 rfl rfl rfl hd_X10_share ⟨Nat.le_trans (by decide) hR1, Nat.le_trans (by decide) hR2⟩) (tf_preV hk hW ham (ci := 10) rfl rfl trivial) rfl rfl hl.1 rfl (lv_room (Nat.le_of_ble_eq_true rfl)) dL_law_844 ⟨Nat.le_trans (by omega) hR3, Nat.le_trans (by omega) hR4⟩) hW (by decide) (fun z34 H34 locs34 hW hF34 hp34 => ?_)
  have hs35 := tf_keepF hF34 hax rfl rfl (by decide) hs3
  have hs36 := tf_keepF hF34 hax rfl rfl (by decide) hs4
  have hs37 := tf_keepF hF34 hax rfl rfl (by decide) hs5
  have hs38 := tf_keepF hF34 hax rfl rfl (by decide) hs6
  have hs39 := tf_keepF hF34 hax rfl rfl (by decide) hs7
  have hs40 := tf_keepF hF34 hax rfl rfl (by decide) hs8
  have hs41 := tf_keepF hF34 hax rfl rfl (by decide) hs9
  have hs42 := tf_keepF hF34 hsq rfl rfl (by decide) hs10
  have hs43 := tf_keepF hF34 hsq rfl rfl (by decide) hs11
  have hs44 := tf_keepF hF34 hsq rfl rfl (by decide) hs12
  have hs45 := tf_keepF hF34 hsq rfl rfl (by decide) hs13
  have hs46 := tf_keepC hF34 hlp rfl (by decide) hs14
  have hs47 := tf_keepC hF34 hlh rfl (by decide) hs15
  have hs48 := tf_keepC hF34 hyr rfl (by decide) hs16
  have hs49 := tf_keepC hF34 hwh rfl (by decide) hs17
  have hs50 := tf_keepC hF34 hta rfl (by decide) hs18
  have hs51 := tf_keepC hF34 hdh rfl (by decide) hs19
  have hs52 := tf_keepF hF34 ham rfl rfl (by decide) hs20
  have hs53 := tf_keepF hF34 ham rfl rfl (by decide) hs21
  have hs54 := tf_keepF hF34 ham rfl rfl (by decide) hs22
  have hs55 := tf_keepF hF34 ham rfl rfl (by decide) hs23
  have hs56 := tf_keepF hF34 ham rfl rfl (by decide) hs24
  have hs57 := tf_keepF hF34 ham rfl rfl (by decide) hs25
  have hs58 := tf_keepF hF34 ham rfl rfl (by decide) hs26
  have hs59 := tf_keepF hF34 ham rfl rfl (by decide) hs27
  have hs60 := tf_keepC hF34 hro rfl (by decide) hs28
  have hs61 := tf_keepC hF34 hiz rfl (by decide) hs29
  have hs62 := tf_keepC hF34 hkp rfl (by decide) hs30
  have hs63 := tf_keepC hF34 htm rfl (by decide) hs31
  have hs64 := tf_keepC hF34 hdw rfl (by decide) hs32
  have hI0 := tf_IS1_keep hF34 him (by decide) (by decide) hI0
  have hI1 := tf_IS2_keep hF34 him (by decide) (by decide) hI1
  obtain ⟨hp34_0, hp34_1⟩ := hp34
  refine lv_pop2_2 hx hb dL_law_847 rfl ?_
  refine lv_goto (tgt := 1498) hx hb dL_law_848 (by decide) ?_
  refine W.widen (k := 130 + 30 * jj) (n := 31200 + 1200 * jj) (by omega) (by omega) ?_
  exact hnx _ _ _ hW hax ham ⟨sq, im, ta, dh, lp, lh, yr, wh, ro, iz, kp, tm, dw, (tt), (uu), (dd), gl, gh, gy, gw, tp, gd, rr, qq, rk, tq, gm, hsq, him, hta, hdh, hlp, hlh, hyr, hwh, hro, hiz, hkp, htm, hdw, ⟨by omega, by omega⟩, ⟨by omega, by omega⟩, ⟨by omega, by omega⟩, hs35, hs36, hs37, hs38, hs39, hs40, hs41, hs42, hs43, hs44, hs45, hs46, hs47, hs48, hs49, hs50, hs51, hs52, hs53, hs54, tf_eqv hs55 (by omega), hs56, tf_eqv hs57 (by omega), hs58, tf_eqv hs59 (by omega), hs60, hs61, hs62, hs63, hs64, hRL, hDD, hTP, hI0, hI1⟩ _ (lv_sub hl [0, 1, 2, 3] rfl)

set_option maxHeartbeats 4000000 in
set_option maxRecDepth 100000 in
theorem lc_851 {p : Program} {l : Launch} {e : Env} {s : State} {m : MethodId} {below : List Frame} {meth : Method} {c : Code} {b L : Nat} {g : tf_G} {sx : Int → Int} {Q : State → Prop} (E : lw_E p s m c b L g sx) (ax am jj : Nat) (ii : Int) (hii : ii = 6 * (jj : Int)) (hij : ii + 6 ≤ (L : Int)) (hnx : lw_nx p l e s m below meth c b g ax am jj ii Q) (T : tf_T) (H : Heap) (locs : List Loc) (hW : tf_n tf_kt g M_law (fun _ => none) s.heap T H locs) (hax : T ax = some (39, 0)) (ham : T am = some (63, 0)) (hI : lw_I g T H ax am) (ls : Array Slot) (hl : lv_has ls 4 [(3, .int (Int32.ofInt ii)), (2, .ref am), (1, .ref ax), (0, .ref b)]) : W p l e room_1 s m #[Value.ref b] below meth c H locs (100 + 30 * jj) (30000 + 1200 * jj) Q (F0 m 851 ls []) := by
  obtain ⟨hx, hb, hml, hown, hts, hbl, hk, hBs, hsx, hX, hL⟩ := id E
  have hR1 := lw_R1
  have hR2 := lw_R2
  have hR3 := lw_R3
  have hR4 := lw_R4
  have hK := hk.1
  have hE : tf_E g T := trivial
  obtain ⟨sq, im, ta, dh, lp, lh, yr, wh, ro, iz, kp, tm, dw, tt, uu, dd, gl, gh, gy, gw, tp, gd, rr, qq, rk, tq, gm, hsq, him, hta, hdh, hlp, hlh, hyr, hwh, hro, hiz, hkp, htm, hdw, htt, huu, hdd, hf0, hf1, hf2, hf3, hf4, hf5, hf6, hf7, hf8, hf9, hf10, hf11, hf12, hf13, hf14, hf15, hf16, hf17, hf18, hf19, hf20, hf21, hf22, hf23, hf24, hf25, hf26, hf27, hf28, hf29, hRL, hDD, hTP, hI0, hI1⟩ := hI
  have hWS : tf_WS gy gw := hRL.2.2
  refine lv_aload_n hx hb dL_law_851 rfl (lv_at hl 2 rfl) ?_
  refine lv_aload_n hx hb dL_law_852 rfl (lv_at hl 3 rfl) ?_
  refine lv_iload_n hx hb dL_law_853 rfl (lv_at hl 0 rfl) ?_
  refine tf_iconst hx hb dL_law_854 ?_
  refine tf_iadd hx hb dL_law_855 ?_
  refine lw_sld (sx := sx) hx hb hX hbl hBs hL hW (by omega) (by omega) dL_law_856 ?_
  have hsx1 := hsx (ii + 1)
  refine lv_aload_n hx hb dL_law_857 rfl (lv_at hl 3 rfl) ?_
  refine lv_iload_n hx hb dL_law_858 rfl (lv_at hl 0 rfl) ?_
  refine tf_iconst hx hb dL_law_859 ?_
  refine tf_iadd hx hb dL_law_860 ?_
  refine lw_sld (sx := sx) hx hb hX hbl hBs hL hW (by omega) (by omega) dL_law_861 ?_
  have hsx2 := hsx (ii + 2)
  refine lv_aload_n hx hb dL_law_862 rfl (lv_at hl 3 rfl) ?_
  refine lv_iload_n hx hb dL_law_863 rfl (lv_at hl 0 rfl) ?_
  refine tf_iconst hx hb dL_law_864 ?_
  refine tf_iadd hx hb dL_law_865 ?_
  refine lw_sld (sx := sx) hx hb hX hbl hBs hL hW (by omega) (by omega) dL_law_866 ?_
  have hsx3 := hsx (ii + 3)
  refine lv_aload_n hx hb dL_law_867 rfl (lv_at hl 3 rfl) ?_
  refine lv_iload_n hx hb dL_law_868 rfl (lv_at hl 0 rfl) ?_
  refine tf_iconst hx hb dL_law_869 ?_
  refine tf_iadd hx hb dL_law_870 ?_
  refine lw_sld (sx := sx) hx hb hX hbl hBs hL hW (by omega) (by omega) dL_law_871 ?_
  have hsx4 := hsx (ii + 4)
  refine lv_aload_n hx hb dL_law_872 rfl (lv_at hl 3 rfl) ?_
  refine lv_iload_n hx hb dL_law_873 rfl (lv_at hl 0 rfl) ?_
  refine tf_iconst hx hb dL_law_874 ?_
  refine tf_iadd hx hb dL_law_875 ?_
  refine lw_sld (sx := sx) hx hb hX hbl hBs hL hW (by omega) (by omega) dL_law_876 ?_
  have hsx5 := hsx (ii + 5)
  refine tf_calli (va_runV (As := [.int (Int32.ofInt ((sx (ii + 1)))), .int (Int32.ofInt ((sx (ii + 2)))), .int (Int32.ofInt ((sx (ii + 3)))), .int (Int32.ofInt ((sx (ii + 4)))), .int (Int32.ofInt ((sx (ii + 5))))]) (rest := []) ⟨hx, hb, hml, hown, hts⟩ (c_X9_ahead l g T ax hax ((sx (ii + 1))) ⟨by omega, by omega⟩ ((sx (ii + 2))) ⟨by omega, by omega⟩ ((sx (ii + 3))) ⟨by omega, by omega⟩ ((sx (ii + 4))) ⟨by omega, by omega⟩ ((sx (ii + 5))) ⟨by omega, by omega⟩ hE) (cwV 5 hts gv_L_103 rfl rfl rfl hd_X9_ahead ⟨Nat.le_trans (by decide) hR1, Nat.le_trans (by decide) hR2⟩) (tf_preV hk hW hax (ci := 9) rfl rfl trivial) rfl rfl hl.1 rfl (lv_room (Nat.le_of_ble_eq_true rfl)) dL_law_877 ⟨Nat.le_trans (by omega) hR3, Nat.le_trans (by omega) hR4⟩) hW (by decide) (fun z6 H6 locs6 hW hF6 hp6 => ?_)
  have hs7 := tf_keepF hF6 hax rfl rfl (by decide) hf0
  have hs8 := tf_keepF hF6 hax rfl rfl (by decide) hf1
  have hs9 := tf_keepF hF6 hax rfl rfl (by decide) hf2
  have hs10 := tf_keepF hF6 hax rfl rfl (by decide) hf3
  have hs11 := tf_keepF hF6 hax rfl rfl (by decide) hf4
  have hs12 := tf_keepF hF6 hax rfl rfl (by decide) hf5
  have hs13 := tf_keepF hF6 hax rfl rfl (by decide) hf6
  have hs14 := tf_keepF hF6 hsq rfl rfl (by decide) hf7
  have hs15 := tf_keepF hF6 hsq rfl rfl (by decide) hf8
  have hs16 := tf_keepF hF6 hsq rfl rfl (by decide) hf9
  have hs17 := tf_keepF hF6 hsq rfl rfl (by decide) hf10
  have hs18 := tf_keepC hF6 hlp rfl (by decide) hf11
  have hs19 := tf_keepC hF6 hlh rfl (by decide) hf12
  have hs20 := tf_keepC hF6 hyr rfl (by decide) hf13
  have hs21 := tf_keepC hF6 hwh rfl (by decide) hf14
  have hs22 := tf_keepC hF6 hta rfl (by decide) hf15
  have hs23 := tf_keepC hF6 hdh rfl (by decide) hf16
  have hs24 := tf_keepF hF6 ham rfl rfl (by decide) hf17
  have hs25 := tf_keepF hF6 ham rfl rfl (by decide) hf18
  have hs26 := tf_keepF hF6 ham rfl rfl (by decide) hf19
  have hs27 := tf_keepF hF6 ham rfl rfl (by decide) hf20
  have hs28 := tf_keepF hF6 ham rfl rfl (by decide) hf21
  have hs29 := tf_keepF hF6 ham rfl rfl (by decide) hf22
  have hs30 := tf_keepF hF6 ham rfl rfl (by decide) hf23
  have hs31 := tf_keepF hF6 ham rfl rfl (by decide) hf24
  have hs32 := tf_keepC hF6 hro rfl (by decide) hf25
  have hs33 := tf_keepC hF6 hiz rfl (by decide) hf26
  have hs34 := tf_keepC hF6 hkp rfl (by decide) hf27
  have hs35 := tf_keepC hF6 htm rfl (by decide) hf28
  have hs36 := tf_keepC hF6 hdw rfl (by decide) hf29
  have hI0 := tf_IS1_keep hF6 him (by decide) (by decide) hI0
  have hI1 := tf_IS2_keep hF6 him (by decide) (by decide) hI1
  obtain ⟨hp6_0, hp6_1⟩ := hp6
  refine lv_pop hx hb dL_law_880 rfl ?_
  refine lv_aload_n hx hb dL_law_881 rfl (lv_at hl 1 rfl) ?_
  refine lv_aload_n hx hb dL_law_882 rfl (lv_at hl 3 rfl) ?_
  refine lv_iload_n hx hb dL_law_883 rfl (lv_at hl 0 rfl) ?_
  refine tf_iconst hx hb dL_law_884 ?_
  refine tf_iadd hx hb dL_law_885 ?_
  refine lw_sld (sx := sx) hx hb hX hbl hBs hL hW (by omega) (by omega) dL_law_886 ?_
  have hsx37 := hsx (ii + 1)
  refine lv_aload_n hx hb dL_law_887 rfl (lv_at hl 3 rfl) ?_
  refine lv_iload_n hx hb dL_law_888 rfl (lv_at hl 0 rfl) ?_
  refine tf_iconst hx hb dL_law_889 ?_
  refine tf_iadd hx hb dL_law_890 ?_
  refine lw_sld (sx := sx) hx hb hX hbl hBs hL hW (by omega) (by omega) dL_law_891 ?_
  have hsx38 := hsx (ii + 2)
  refine lv_aload_n hx hb dL_law_892 rfl (lv_at hl 3 rfl) ?_
  refine lv_iload_n hx hb dL_law_893 rfl (lv_at hl 0 rfl) ?_
  refine tf_iconst hx hb dL_law_894 ?_
  refine tf_iadd hx hb dL_law_895 ?_
  refine lw_sld (sx := sx) hx hb hX hbl hBs hL hW (by omega) (by omega) dL_law_896 ?_
  have hsx39 := hsx (ii + 3)
  refine lv_aload_n hx hb dL_law_897 rfl (lv_at hl 3 rfl) ?_
  refine lv_iload_n hx hb dL_law_898 rfl (lv_at hl 0 rfl) ?_
  refine tf_iconst hx hb dL_law_899 ?_
  refine tf_iadd hx hb dL_law_900 ?_
  refine lw_sld (sx := sx) hx hb hX hbl hBs hL hW (by omega) (by omega) dL_law_901 ?_
  have hsx40 := hsx (ii + 4)
  refine lv_aload_n hx hb dL_law_902 rfl (lv_at hl 3 rfl) ?_
  refine lv_iload_n hx hb dL_law_903 rfl (lv_at hl 0 rfl) ?_
  refine tf_iconst hx hb dL_law_904 ?_
  refine tf_iadd hx hb dL_law_905 ?_
  refine lw_sld (sx := sx) hx hb hX hbl hBs hL hW (by omega) (by omega) dL_law_906 ?_
  have hsx41 := hsx (ii + 5)
  refine tf_calli (va_runV (As := [.int (Int32.ofInt ((sx (ii + 1)))), .int (Int32.ofInt ((sx (ii + 2)))), .int (Int32.ofInt ((sx (ii + 3)))), .int (Int32.ofInt ((sx (ii + 4)))), .int (Int32.ofInt ((sx (ii + 5))))]) (rest := []) ⟨hx, hb, hml, hown, hts⟩ (c_X10_ahead l g T am ham ((sx (ii + 1))) ⟨by omega, by omega⟩ ((sx (ii + 2))) ⟨by omega, by omega⟩ ((sx (ii + 3))) ⟨by omega, by omega⟩ ((sx (ii + 4))) ⟨by omega, by omega⟩ ((sx (ii + 5))) ⟨by omega, by omega⟩) (cwV 5 hts gv_L_106 rfl rfl rfl hd_X10_ahead ⟨Nat.le_trans (by decide) hR1, Nat.le_trans (by decide) hR2⟩) (tf_preV hk hW ham (ci := 10) rfl rfl trivial) rfl rfl hl.1 rfl (lv_room (Nat.le_of_ble_eq_true rfl)) dL_law_907 ⟨Nat.le_trans (by omega) hR3, Nat.le_trans (by omega) hR4⟩) hW (by decide) (fun z42 H42 locs42 hW hF42 hp42 => ?_)
  have hs43 := tf_keepF hF42 hax rfl rfl (by decide) hs7
  have hs44 := tf_keepF hF42 hax rfl rfl (by decide) hs8
  have hs45 := tf_keepF hF42 hax rfl rfl (by decide) hs9
  have hs46 := tf_keepF hF42 hax rfl rfl (by decide) hs10
  have hs47 := tf_keepF hF42 hax rfl rfl (by decide) hs11
  have hs48 := tf_keepF hF42 hax rfl rfl (by decide) hs12
  have hs49 := tf_keepF hF42 hax rfl rfl (by decide) hs13
  have hs50 := tf_keepF hF42 hsq rfl rfl (by decide) hs14
  have hs51 := tf_keepF hF42 hsq rfl rfl (by decide) hs15
  have hs52 := tf_keepF hF42 hsq rfl rfl (by decide) hs16
  have hs53 := tf_keepF hF42 hsq rfl rfl (by decide) hs17
  have hs54 := tf_keepC hF42 hlp rfl (by decide) hs18
  have hs55 := tf_keepC hF42 hlh rfl (by decide) hs19
  have hs56 := tf_keepC hF42 hyr rfl (by decide) hs20
  have hs57 := tf_keepC hF42 hwh rfl (by decide) hs21
  have hs58 := tf_keepC hF42 hta rfl (by decide) hs22
  have hs59 := tf_keepC hF42 hdh rfl (by decide) hs23
  have hs60 := tf_keepF hF42 ham rfl rfl (by decide) hs24
  have hs61 := tf_keepF hF42 ham rfl rfl (by decide) hs25
  have hs62 := tf_keepF hF42 ham rfl rfl (by decide) hs26
  have hs63 := tf_keepF hF42 ham rfl rfl (by decide) hs27
  have hs64 := tf_keepF hF42 ham rfl rfl (by decide) hs28
  have hs65 := tf_keepF hF42 ham rfl rfl (by decide) hs29
  have hs66 := tf_keepF hF42 ham rfl rfl (by decide) hs30
  have hs67 := tf_keepF hF42 ham rfl rfl (by decide) hs31
  have hs68 := tf_keepC hF42 hro rfl (by decide) hs32
  have hs69 := tf_keepC hF42 hiz rfl (by decide) hs33
  have hs70 := tf_keepC hF42 hkp rfl (by decide) hs34
  have hs71 := tf_keepC hF42 htm rfl (by decide) hs35
  have hs72 := tf_keepC hF42 hdw rfl (by decide) hs36
  have hI0 := tf_IS1_keep hF42 him (by decide) (by decide) hI0
  have hI1 := tf_IS2_keep hF42 him (by decide) (by decide) hI1
  obtain ⟨hp42_0, hp42_1⟩ := hp42
  refine lv_pop hx hb dL_law_910 rfl ?_
  refine lv_goto (tgt := 1498) hx hb dL_law_911 (by decide) ?_
  refine W.widen (k := 130 + 30 * jj) (n := 31200 + 1200 * jj) (by omega) (by omega) ?_
  exact hnx _ _ _ hW hax ham ⟨sq, im, ta, dh, lp, lh, yr, wh, ro, iz, kp, tm, dw, (tt), (uu), (dd), gl, gh, gy, gw, tp, gd, rr, qq, rk, tq, gm, hsq, him, hta, hdh, hlp, hlh, hyr, hwh, hro, hiz, hkp, htm, hdw, ⟨by omega, by omega⟩, ⟨by omega, by omega⟩, ⟨by omega, by omega⟩, hs43, hs44, hs45, hs46, hs47, hs48, hs49, hs50, hs51, hs52, hs53, hs54, hs55, hs56, hs57, hs58, hs59, hs60, hs61, hs62, tf_eqv hs63 (by omega), hs64, tf_eqv hs65 (by omega), hs66, tf_eqv hs67 (by omega), hs68, hs69, hs70, hs71, hs72, hRL, hDD, hTP, hI0, hI1⟩ _ (lv_sub hl [0, 1, 2, 3] rfl)

set_option maxHeartbeats 4000000 in
set_option maxRecDepth 100000 in
theorem lc_914 {p : Program} {l : Launch} {e : Env} {s : State} {m : MethodId} {below : List Frame} {meth : Method} {c : Code} {b L : Nat} {g : tf_G} {sx : Int → Int} {Q : State → Prop} (E : lw_E p s m c b L g sx) (ax am jj : Nat) (ii : Int) (hii : ii = 6 * (jj : Int)) (hij : ii + 6 ≤ (L : Int)) (hnx : lw_nx p l e s m below meth c b g ax am jj ii Q) (T : tf_T) (H : Heap) (locs : List Loc) (hW : tf_n tf_kt g M_law (fun _ => none) s.heap T H locs) (hax : T ax = some (39, 0)) (ham : T am = some (63, 0)) (hI : lw_I g T H ax am) (ls : Array Slot) (hl : lv_has ls 4 [(3, .int (Int32.ofInt ii)), (2, .ref am), (1, .ref ax), (0, .ref b)]) : W p l e room_1 s m #[Value.ref b] below meth c H locs (100 + 30 * jj) (30000 + 1200 * jj) Q (F0 m 914 ls []) := by
  obtain ⟨hx, hb, hml, hown, hts, hbl, hk, hBs, hsx, hX, hL⟩ := id E
  have hR1 := lw_R1
  have hR2 := lw_R2
  have hR3 := lw_R3
  have hR4 := lw_R4
  have hK := hk.1
  have hE : tf_E g T := trivial
  obtain ⟨sq, im, ta, dh, lp, lh, yr, wh, ro, iz, kp, tm, dw, tt, uu, dd, gl, gh, gy, gw, tp, gd, rr, qq, rk, tq, gm, hsq, him, hta, hdh, hlp, hlh, hyr, hwh, hro, hiz, hkp, htm, hdw, htt, huu, hdd, hf0, hf1, hf2, hf3, hf4, hf5, hf6, hf7, hf8, hf9, hf10, hf11, hf12, hf13, hf14, hf15, hf16, hf17, hf18, hf19, hf20, hf21, hf22, hf23, hf24, hf25, hf26, hf27, hf28, hf29, hRL, hDD, hTP, hI0, hI1⟩ := hI
  have hWS : tf_WS gy gw := hRL.2.2
  refine lv_aload_n hx hb dL_law_914 rfl (lv_at hl 2 rfl) ?_
  refine lv_aload_n hx hb dL_law_915 rfl (lv_at hl 3 rfl) ?_
  refine lv_iload_n hx hb dL_law_916 rfl (lv_at hl 0 rfl) ?_
  refine tf_iconst hx hb dL_law_917 ?_
  refine tf_iadd hx hb dL_law_918 ?_
  refine lw_sld (sx := sx) hx hb hX hbl hBs hL hW (by omega) (by omega) dL_law_919 ?_
  have hsx1 := hsx (ii + 1)
  refine lv_aload_n hx hb dL_law_920 rfl (lv_at hl 3 rfl) ?_
  refine lv_iload_n hx hb dL_law_921 rfl (lv_at hl 0 rfl) ?_
  refine tf_iconst hx hb dL_law_922 ?_
  refine tf_iadd hx hb dL_law_923 ?_
  refine lw_sld (sx := sx) hx hb hX hbl hBs hL hW (by omega) (by omega) dL_law_924 ?_
  have hsx2 := hsx (ii + 2)
  refine lv_aload_n hx hb dL_law_925 rfl (lv_at hl 3 rfl) ?_
  refine lv_iload_n hx hb dL_law_926 rfl (lv_at hl 0 rfl) ?_
  refine tf_iconst hx hb dL_law_927 ?_
  refine tf_iadd hx hb dL_law_928 ?_
  refine lw_sld (sx := sx) hx hb hX hbl hBs hL hW (by omega) (by omega) dL_law_929 ?_
  have hsx3 := hsx (ii + 3)
  refine lv_aload_n hx hb dL_law_930 rfl (lv_at hl 3 rfl) ?_
  refine lv_iload_n hx hb dL_law_931 rfl (lv_at hl 0 rfl) ?_
  refine tf_iconst hx hb dL_law_932 ?_
  refine tf_iadd hx hb dL_law_933 ?_
  refine lw_sld (sx := sx) hx hb hX hbl hBs hL hW (by omega) (by omega) dL_law_934 ?_
  have hsx4 := hsx (ii + 4)
  refine tf_calli (va_runV (As := [.int (Int32.ofInt ((sx (ii + 1)))), .int (Int32.ofInt ((sx (ii + 2)))), .int (Int32.ofInt ((sx (ii + 3)))), .int (Int32.ofInt ((sx (ii + 4))))]) (rest := []) ⟨hx, hb, hml, hown, hts⟩ (c_X9_site l g T ax hax ((sx (ii + 1))) ⟨by omega, by omega⟩ ((sx (ii + 2))) ⟨by omega, by omega⟩ ((sx (ii + 3))) ⟨by omega, by omega⟩ ((sx (ii + 4))) ⟨by omega, by omega⟩ hE) (cwV 4 hts gv_L_107 rfl rfl rfl hd_X9_site ⟨Nat.le_trans (by decide) hR1, Nat.le_trans (by decide) hR2⟩) (tf_preV hk hW hax (ci := 9) rfl rfl trivial) rfl rfl hl.1 rfl (lv_room (Nat.le_of_ble_eq_true rfl)) dL_law_935 ⟨Nat.le_trans (by omega) hR3, Nat.le_trans (by omega) hR4⟩) hW (by decide) (fun z5 H5 locs5 hW hF5 hp5 => ?_)
  have hs6 := tf_keepF hF5 hax rfl rfl (by decide) hf0
  have hs7 := tf_keepF hF5 hax rfl rfl (by decide) hf1
  have hs8 := tf_keepF hF5 hax rfl rfl (by decide) hf2
  have hs9 := tf_keepF hF5 hax rfl rfl (by decide) hf3
  have hs10 := tf_keepF hF5 hax rfl rfl (by decide) hf4
  have hs11 := tf_keepF hF5 hax rfl rfl (by decide) hf5
  have hs12 := tf_keepF hF5 hax rfl rfl (by decide) hf6
  have hs13 := tf_keepF hF5 hsq rfl rfl (by decide) hf7
  have hs14 := tf_keepF hF5 hsq rfl rfl (by decide) hf8
  have hs15 := tf_keepF hF5 hsq rfl rfl (by decide) hf9
  have hs16 := tf_keepF hF5 hsq rfl rfl (by decide) hf10
  have hs17 := tf_keepC hF5 hlp rfl (by decide) hf11
  have hs18 := tf_keepC hF5 hlh rfl (by decide) hf12
  have hs19 := tf_keepC hF5 hyr rfl (by decide) hf13
  have hs20 := tf_keepC hF5 hwh rfl (by decide) hf14
  have hs21 := tf_keepC hF5 hta rfl (by decide) hf15
  have hs22 := tf_keepC hF5 hdh rfl (by decide) hf16
  have hs23 := tf_keepF hF5 ham rfl rfl (by decide) hf17
  have hs24 := tf_keepF hF5 ham rfl rfl (by decide) hf18
  have hs25 := tf_keepF hF5 ham rfl rfl (by decide) hf19
  have hs26 := tf_keepF hF5 ham rfl rfl (by decide) hf20
  have hs27 := tf_keepF hF5 ham rfl rfl (by decide) hf21
  have hs28 := tf_keepF hF5 ham rfl rfl (by decide) hf22
  have hs29 := tf_keepF hF5 ham rfl rfl (by decide) hf23
  have hs30 := tf_keepF hF5 ham rfl rfl (by decide) hf24
  have hs31 := tf_keepC hF5 hro rfl (by decide) hf25
  have hs32 := tf_keepC hF5 hiz rfl (by decide) hf26
  have hs33 := tf_keepC hF5 hkp rfl (by decide) hf27
  have hs34 := tf_keepC hF5 htm rfl (by decide) hf28
  have hs35 := tf_keepC hF5 hdw rfl (by decide) hf29
  have hI0 := tf_IS1_keep hF5 him (by decide) (by decide) hI0
  have hI1 := tf_IS2_keep hF5 him (by decide) (by decide) hI1
  obtain ⟨hp5_0, hp5_1⟩ := hp5
  refine lv_pop hx hb dL_law_938 rfl ?_
  refine lv_aload_n hx hb dL_law_939 rfl (lv_at hl 1 rfl) ?_
  refine lv_aload_n hx hb dL_law_940 rfl (lv_at hl 3 rfl) ?_
  refine lv_iload_n hx hb dL_law_941 rfl (lv_at hl 0 rfl) ?_
  refine tf_iconst hx hb dL_law_942 ?_
  refine tf_iadd hx hb dL_law_943 ?_
  refine lw_sld (sx := sx) hx hb hX hbl hBs hL hW (by omega) (by omega) dL_law_944 ?_
  have hsx36 := hsx (ii + 1)
  refine lv_aload_n hx hb dL_law_945 rfl (lv_at hl 3 rfl) ?_
  refine lv_iload_n hx hb dL_law_946 rfl (lv_at hl 0 rfl) ?_
  refine tf_iconst hx hb dL_law_947 ?_
  refine tf_iadd hx hb dL_law_948 ?_
  refine lw_sld (sx := sx) hx hb hX hbl hBs hL hW (by omega) (by omega) dL_law_949 ?_
  have hsx37 := hsx (ii + 2)
  refine lv_aload_n hx hb dL_law_950 rfl (lv_at hl 3 rfl) ?_
  refine lv_iload_n hx hb dL_law_951 rfl (lv_at hl 0 rfl) ?_
  refine tf_iconst hx hb dL_law_952 ?_
  refine tf_iadd hx hb dL_law_953 ?_
  refine lw_sld (sx := sx) hx hb hX hbl hBs hL hW (by omega) (by omega) dL_law_954 ?_
  have hsx38 := hsx (ii + 3)
  refine lv_aload_n hx hb dL_law_955 rfl (lv_at hl 3 rfl) ?_
  refine lv_iload_n hx hb dL_law_956 rfl (lv_at hl 0 rfl) ?_
  refine tf_iconst hx hb dL_law_957 ?_
  refine tf_iadd hx hb dL_law_958 ?_
  refine lw_sld (sx := sx) hx hb hX hbl hBs hL hW (by omega) (by omega) dL_law_959 ?_
  have hsx39 := hsx (ii + 4)
  refine tf_calli (va_runV (As := [.int (Int32.ofInt ((sx (ii + 1)))), .int (Int32.ofInt ((sx (ii + 2)))), .int (Int32.ofInt ((sx (ii + 3)))), .int (Int32.ofInt ((sx (ii + 4))))]) (rest := []) ⟨hx, hb, hml, hown, hts⟩ (c_X10_site l g T am ham ((sx (ii + 1))) ⟨by omega, by omega⟩ ((sx (ii + 2))) ⟨by omega, by omega⟩ ((sx (ii + 3))) ⟨by omega, by omega⟩ ((sx (ii + 4))) ⟨by omega, by omega⟩) (cwV 4 hts gv_L_111 rfl rfl rfl hd_X10_site ⟨Nat.le_trans (by decide) hR1, Nat.le_trans (by decide) hR2⟩) (tf_preV hk hW ham (ci := 10) rfl rfl trivial) rfl rfl hl.1 rfl (lv_room (Nat.le_of_ble_eq_true rfl)) dL_law_960 ⟨Nat.le_trans (by omega) hR3, Nat.le_trans (by omega) hR4⟩) hW (by decide) (fun z40 H40 locs40 hW hF40 hp40 => ?_)
  have hs41 := tf_keepF hF40 hax rfl rfl (by decide) hs6
  have hs42 := tf_keepF hF40 hax rfl rfl (by decide) hs7
  have hs43 := tf_keepF hF40 hax rfl rfl (by decide) hs8
  have hs44 := tf_keepF hF40 hax rfl rfl (by decide) hs9
  have hs45 := tf_keepF hF40 hax rfl rfl (by decide) hs10
  have hs46 := tf_keepF hF40 hax rfl rfl (by decide) hs11
  have hs47 := tf_keepF hF40 hax rfl rfl (by decide) hs12
  have hs48 := tf_keepF hF40 hsq rfl rfl (by decide) hs13
  have hs49 := tf_keepF hF40 hsq rfl rfl (by decide) hs14
  have hs50 := tf_keepF hF40 hsq rfl rfl (by decide) hs15
  have hs51 := tf_keepF hF40 hsq rfl rfl (by decide) hs16
  have hs52 := tf_keepC hF40 hlp rfl (by decide) hs17
  have hs53 := tf_keepC hF40 hlh rfl (by decide) hs18
  have hs54 := tf_keepC hF40 hyr rfl (by decide) hs19
  have hs55 := tf_keepC hF40 hwh rfl (by decide) hs20
  have hs56 := tf_keepC hF40 hta rfl (by decide) hs21
  have hs57 := tf_keepC hF40 hdh rfl (by decide) hs22
  have hs58 := tf_keepF hF40 ham rfl rfl (by decide) hs23
  have hs59 := tf_keepF hF40 ham rfl rfl (by decide) hs24
  have hs60 := tf_keepF hF40 ham rfl rfl (by decide) hs25
  have hs61 := tf_keepF hF40 ham rfl rfl (by decide) hs26
  have hs62 := tf_keepF hF40 ham rfl rfl (by decide) hs27
  have hs63 := tf_keepF hF40 ham rfl rfl (by decide) hs28
  have hs64 := tf_keepF hF40 ham rfl rfl (by decide) hs29
  have hs65 := tf_keepF hF40 ham rfl rfl (by decide) hs30
  have hs66 := tf_keepC hF40 hro rfl (by decide) hs31
  have hs67 := tf_keepC hF40 hiz rfl (by decide) hs32
  have hs68 := tf_keepC hF40 hkp rfl (by decide) hs33
  have hs69 := tf_keepC hF40 htm rfl (by decide) hs34
  have hs70 := tf_keepC hF40 hdw rfl (by decide) hs35
  have hI0 := tf_IS1_keep hF40 him (by decide) (by decide) hI0
  have hI1 := tf_IS2_keep hF40 him (by decide) (by decide) hI1
  obtain ⟨hp40_0, hp40_1⟩ := hp40
  refine lv_pop hx hb dL_law_963 rfl ?_
  refine lv_goto (tgt := 1498) hx hb dL_law_964 (by decide) ?_
  refine W.widen (k := 130 + 30 * jj) (n := 31200 + 1200 * jj) (by omega) (by omega) ?_
  exact hnx _ _ _ hW hax ham ⟨sq, im, ta, dh, lp, lh, yr, wh, ro, iz, kp, tm, dw, (tt), (uu), (dd), gl, gh, gy, gw, tp, gd, rr, qq, rk, tq, gm, hsq, him, hta, hdh, hlp, hlh, hyr, hwh, hro, hiz, hkp, htm, hdw, ⟨by omega, by omega⟩, ⟨by omega, by omega⟩, ⟨by omega, by omega⟩, hs41, hs42, hs43, hs44, hs45, hs46, hs47, hs48, hs49, hs50, hs51, hs52, hs53, hs54, hs55, hs56, hs57, hs58, hs59, hs60, tf_eqv hs61 (by omega), hs62, tf_eqv hs63 (by omega), hs64, tf_eqv hs65 (by omega), hs66, hs67, hs68, hs69, hs70, hRL, hDD, hTP, hI0, hI1⟩ _ (lv_sub hl [0, 1, 2, 3] rfl)

set_option maxHeartbeats 4000000 in
set_option maxRecDepth 100000 in
theorem lc_967 {p : Program} {l : Launch} {e : Env} {s : State} {m : MethodId} {below : List Frame} {meth : Method} {c : Code} {b L : Nat} {g : tf_G} {sx : Int → Int} {Q : State → Prop} (E : lw_E p s m c b L g sx) (ax am jj : Nat) (ii : Int) (hii : ii = 6 * (jj : Int)) (hij : ii + 6 ≤ (L : Int)) (hnx : lw_nx p l e s m below meth c b g ax am jj ii Q) (T : tf_T) (H : Heap) (locs : List Loc) (hW : tf_n tf_kt g M_law (fun _ => none) s.heap T H locs) (hax : T ax = some (39, 0)) (ham : T am = some (63, 0)) (hI : lw_I g T H ax am) (ls : Array Slot) (hl : lv_has ls 4 [(3, .int (Int32.ofInt ii)), (2, .ref am), (1, .ref ax), (0, .ref b)]) : W p l e room_1 s m #[Value.ref b] below meth c H locs (100 + 30 * jj) (30000 + 1200 * jj) Q (F0 m 967 ls []) := by
  obtain ⟨hx, hb, hml, hown, hts, hbl, hk, hBs, hsx, hX, hL⟩ := id E
  have hR1 := lw_R1
  have hR2 := lw_R2
  have hR3 := lw_R3
  have hR4 := lw_R4
  have hK := hk.1
  have hE : tf_E g T := trivial
  obtain ⟨sq, im, ta, dh, lp, lh, yr, wh, ro, iz, kp, tm, dw, tt, uu, dd, gl, gh, gy, gw, tp, gd, rr, qq, rk, tq, gm, hsq, him, hta, hdh, hlp, hlh, hyr, hwh, hro, hiz, hkp, htm, hdw, htt, huu, hdd, hf0, hf1, hf2, hf3, hf4, hf5, hf6, hf7, hf8, hf9, hf10, hf11, hf12, hf13, hf14, hf15, hf16, hf17, hf18, hf19, hf20, hf21, hf22, hf23, hf24, hf25, hf26, hf27, hf28, hf29, hRL, hDD, hTP, hI0, hI1⟩ := hI
  have hWS : tf_WS gy gw := hRL.2.2
  refine lv_aload_n hx hb dL_law_967 rfl (lv_at hl 2 rfl) ?_
  refine lv_aload_n hx hb dL_law_968 rfl (lv_at hl 3 rfl) ?_
  refine lv_iload_n hx hb dL_law_969 rfl (lv_at hl 0 rfl) ?_
  refine tf_iconst hx hb dL_law_970 ?_
  refine tf_iadd hx hb dL_law_971 ?_
  refine lw_sld (sx := sx) hx hb hX hbl hBs hL hW (by omega) (by omega) dL_law_972 ?_
  have hsx1 := hsx (ii + 1)
  refine lv_aload_n hx hb dL_law_973 rfl (lv_at hl 3 rfl) ?_
  refine lv_iload_n hx hb dL_law_974 rfl (lv_at hl 0 rfl) ?_
  refine tf_iconst hx hb dL_law_975 ?_
  refine tf_iadd hx hb dL_law_976 ?_
  refine lw_sld (sx := sx) hx hb hX hbl hBs hL hW (by omega) (by omega) dL_law_977 ?_
  have hsx2 := hsx (ii + 2)
  refine lv_aload_n hx hb dL_law_978 rfl (lv_at hl 3 rfl) ?_
  refine lv_iload_n hx hb dL_law_979 rfl (lv_at hl 0 rfl) ?_
  refine tf_iconst hx hb dL_law_980 ?_
  refine tf_iadd hx hb dL_law_981 ?_
  refine lw_sld (sx := sx) hx hb hX hbl hBs hL hW (by omega) (by omega) dL_law_982 ?_
  have hsx3 := hsx (ii + 3)
  refine lv_aload_n hx hb dL_law_983 rfl (lv_at hl 3 rfl) ?_
  refine lv_iload_n hx hb dL_law_984 rfl (lv_at hl 0 rfl) ?_
  refine tf_iconst hx hb dL_law_985 ?_
  refine tf_iadd hx hb dL_law_986 ?_
  refine lw_sld (sx := sx) hx hb hX hbl hBs hL hW (by omega) (by omega) dL_law_987 ?_
  have hsx4 := hsx (ii + 4)
  refine tf_calli (va_runV (As := [.int (Int32.ofInt ((sx (ii + 1)))), .int (Int32.ofInt ((sx (ii + 2)))), .int (Int32.ofInt ((sx (ii + 3)))), .int (Int32.ofInt ((sx (ii + 4))))]) (rest := []) ⟨hx, hb, hml, hown, hts⟩ (c_X9_curve l g T ax hax ((sx (ii + 1))) ⟨by omega, by omega⟩ ((sx (ii + 2))) ⟨by omega, by omega⟩ ((sx (ii + 3))) ⟨by omega, by omega⟩ ((sx (ii + 4))) ⟨by omega, by omega⟩ hE) (cwV 4 hts gv_L_112 rfl rfl rfl hd_X9_curve ⟨Nat.le_trans (by decide) hR1, Nat.le_trans (by decide) hR2⟩) (tf_preV hk hW hax (ci := 9) rfl rfl trivial) rfl rfl hl.1 rfl (lv_room (Nat.le_of_ble_eq_true rfl)) dL_law_988 ⟨Nat.le_trans (by omega) hR3, Nat.le_trans (by omega) hR4⟩) hW (by decide) (fun z5 H5 locs5 hW hF5 hp5 => ?_)
  have hs6 := tf_keepF hF5 hax rfl rfl (by decide) hf0
  have hs7 := tf_keepF hF5 hax rfl rfl (by decide) hf1
  have hs8 := tf_keepF hF5 hax rfl rfl (by decide) hf2
  have hs9 := tf_keepF hF5 hax rfl rfl (by decide) hf3
  have hs10 := tf_keepF hF5 hax rfl rfl (by decide) hf4
  have hs11 := tf_keepF hF5 hax rfl rfl (by decide) hf5
  have hs12 := tf_keepF hF5 hax rfl rfl (by decide) hf6
  have hs13 := tf_keepF hF5 hsq rfl rfl (by decide) hf7
  have hs14 := tf_keepF hF5 hsq rfl rfl (by decide) hf8
  have hs15 := tf_keepF hF5 hsq rfl rfl (by decide) hf9
  have hs16 := tf_keepF hF5 hsq rfl rfl (by decide) hf10
  have hs17 := tf_keepC hF5 hlp rfl (by decide) hf11
  have hs18 := tf_keepC hF5 hlh rfl (by decide) hf12
  have hs19 := tf_keepC hF5 hyr rfl (by decide) hf13
  have hs20 := tf_keepC hF5 hwh rfl (by decide) hf14
  have hs21 := tf_keepC hF5 hta rfl (by decide) hf15
  have hs22 := tf_keepC hF5 hdh rfl (by decide) hf16
  have hs23 := tf_keepF hF5 ham rfl rfl (by decide) hf17
  have hs24 := tf_keepF hF5 ham rfl rfl (by decide) hf18
  have hs25 := tf_keepF hF5 ham rfl rfl (by decide) hf19
  have hs26 := tf_keepF hF5 ham rfl rfl (by decide) hf20
  have hs27 := tf_keepF hF5 ham rfl rfl (by decide) hf21
  have hs28 := tf_keepF hF5 ham rfl rfl (by decide) hf22
  have hs29 := tf_keepF hF5 ham rfl rfl (by decide) hf23
  have hs30 := tf_keepF hF5 ham rfl rfl (by decide) hf24
  have hs31 := tf_keepC hF5 hro rfl (by decide) hf25
  have hs32 := tf_keepC hF5 hiz rfl (by decide) hf26
  have hs33 := tf_keepC hF5 hkp rfl (by decide) hf27
  have hs34 := tf_keepC hF5 htm rfl (by decide) hf28
  have hs35 := tf_keepC hF5 hdw rfl (by decide) hf29
  have hI0 := tf_IS1_keep hF5 him (by decide) (by decide) hI0
  have hI1 := tf_IS2_keep hF5 him (by decide) (by decide) hI1
  obtain ⟨hp5_0, hp5_1⟩ := hp5
  refine lv_pop hx hb dL_law_991 rfl ?_
  refine lv_aload_n hx hb dL_law_992 rfl (lv_at hl 1 rfl) ?_
  refine lv_aload_n hx hb dL_law_993 rfl (lv_at hl 3 rfl) ?_
  refine lv_iload_n hx hb dL_law_994 rfl (lv_at hl 0 rfl) ?_
  refine tf_iconst hx hb dL_law_995 ?_
  refine tf_iadd hx hb dL_law_996 ?_
  refine lw_sld (sx := sx) hx hb hX hbl hBs hL hW (by omega) (by omega) dL_law_997 ?_
  have hsx36 := hsx (ii + 1)
  refine lv_aload_n hx hb dL_law_998 rfl (lv_at hl 3 rfl) ?_
  refine lv_iload_n hx hb dL_law_999 rfl (lv_at hl 0 rfl) ?_
  refine tf_iconst hx hb dL_law_1000 ?_
  refine tf_iadd hx hb dL_law_1001 ?_
  refine lw_sld (sx := sx) hx hb hX hbl hBs hL hW (by omega) (by omega) dL_law_1002 ?_
  have hsx37 := hsx (ii + 2)
  refine lv_aload_n hx hb dL_law_1003 rfl (lv_at hl 3 rfl) ?_
  refine lv_iload_n hx hb dL_law_1004 rfl (lv_at hl 0 rfl) ?_
  refine tf_iconst hx hb dL_law_1005 ?_
  refine tf_iadd hx hb dL_law_1006 ?_
  refine lw_sld (sx := sx) hx hb hX hbl hBs hL hW (by omega) (by omega) dL_law_1007 ?_
  have hsx38 := hsx (ii + 3)
  refine lv_aload_n hx hb dL_law_1008 rfl (lv_at hl 3 rfl) ?_
  refine lv_iload_n hx hb dL_law_1009 rfl (lv_at hl 0 rfl) ?_
  refine tf_iconst hx hb dL_law_1010 ?_
  refine tf_iadd hx hb dL_law_1011 ?_
  refine lw_sld (sx := sx) hx hb hX hbl hBs hL hW (by omega) (by omega) dL_law_1012 ?_
  have hsx39 := hsx (ii + 4)
  refine tf_calli (va_runV (As := [.int (Int32.ofInt ((sx (ii + 1)))), .int (Int32.ofInt ((sx (ii + 2)))), .int (Int32.ofInt ((sx (ii + 3)))), .int (Int32.ofInt ((sx (ii + 4))))]) (rest := []) ⟨hx, hb, hml, hown, hts⟩ (c_X10_curve l g T am ham ((sx (ii + 1))) ⟨by omega, by omega⟩ ((sx (ii + 2))) ⟨by omega, by omega⟩ ((sx (ii + 3))) ⟨by omega, by omega⟩ ((sx (ii + 4))) ⟨by omega, by omega⟩) (cwV 4 hts gv_L_115 rfl rfl rfl hd_X10_curve ⟨Nat.le_trans (by decide) hR1, Nat.le_trans (by decide) hR2⟩) (tf_preV hk hW ham (ci := 10) rfl rfl trivial) rfl rfl hl.1 rfl (lv_room (Nat.le_of_ble_eq_true rfl)) dL_law_1013 ⟨Nat.le_trans (by omega) hR3, Nat.le_trans (by omega) hR4⟩) hW (by decide) (fun z40 H40 locs40 hW hF40 hp40 => ?_)
  have hs41 := tf_keepF hF40 hax rfl rfl (by decide) hs6
  have hs42 := tf_keepF hF40 hax rfl rfl (by decide) hs7
  have hs43 := tf_keepF hF40 hax rfl rfl (by decide) hs8
  have hs44 := tf_keepF hF40 hax rfl rfl (by decide) hs9
  have hs45 := tf_keepF hF40 hax rfl rfl (by decide) hs10
  have hs46 := tf_keepF hF40 hax rfl rfl (by decide) hs11
  have hs47 := tf_keepF hF40 hax rfl rfl (by decide) hs12
  have hs48 := tf_keepF hF40 hsq rfl rfl (by decide) hs13
  have hs49 := tf_keepF hF40 hsq rfl rfl (by decide) hs14
  have hs50 := tf_keepF hF40 hsq rfl rfl (by decide) hs15
  have hs51 := tf_keepF hF40 hsq rfl rfl (by decide) hs16
  have hs52 := tf_keepC hF40 hlp rfl (by decide) hs17
  have hs53 := tf_keepC hF40 hlh rfl (by decide) hs18
  have hs54 := tf_keepC hF40 hyr rfl (by decide) hs19
  have hs55 := tf_keepC hF40 hwh rfl (by decide) hs20
  have hs56 := tf_keepC hF40 hta rfl (by decide) hs21
  have hs57 := tf_keepC hF40 hdh rfl (by decide) hs22
  have hs58 := tf_keepF hF40 ham rfl rfl (by decide) hs23
  have hs59 := tf_keepF hF40 ham rfl rfl (by decide) hs24
  have hs60 := tf_keepF hF40 ham rfl rfl (by decide) hs25
  have hs61 := tf_keepF hF40 ham rfl rfl (by decide) hs26
  have hs62 := tf_keepF hF40 ham rfl rfl (by decide) hs27
  have hs63 := tf_keepF hF40 ham rfl rfl (by decide) hs28
  have hs64 := tf_keepF hF40 ham rfl rfl (by decide) hs29
  have hs65 := tf_keepF hF40 ham rfl rfl (by decide) hs30
  have hs66 := tf_keepC hF40 hro rfl (by decide) hs31
  have hs67 := tf_keepC hF40 hiz rfl (by decide) hs32
  have hs68 := tf_keepC hF40 hkp rfl (by decide) hs33
  have hs69 := tf_keepC hF40 htm rfl (by decide) hs34
  have hs70 := tf_keepC hF40 hdw rfl (by decide) hs35
  have hI0 := tf_IS1_keep hF40 him (by decide) (by decide) hI0
  have hI1 := tf_IS2_keep hF40 him (by decide) (by decide) hI1
  obtain ⟨hp40_0, hp40_1⟩ := hp40
  refine lv_pop hx hb dL_law_1016 rfl ?_
  refine lv_goto (tgt := 1498) hx hb dL_law_1017 (by decide) ?_
  refine W.widen (k := 130 + 30 * jj) (n := 31200 + 1200 * jj) (by omega) (by omega) ?_
  exact hnx _ _ _ hW hax ham ⟨sq, im, ta, dh, lp, lh, yr, wh, ro, iz, kp, tm, dw, (tt), (uu), (dd), gl, gh, gy, gw, tp, gd, rr, qq, rk, tq, gm, hsq, him, hta, hdh, hlp, hlh, hyr, hwh, hro, hiz, hkp, htm, hdw, ⟨by omega, by omega⟩, ⟨by omega, by omega⟩, ⟨by omega, by omega⟩, hs41, hs42, hs43, hs44, hs45, hs46, hs47, hs48, hs49, hs50, hs51, hs52, hs53, hs54, hs55, hs56, hs57, hs58, hs59, hs60, tf_eqv hs61 (by omega), hs62, tf_eqv hs63 (by omega), hs64, tf_eqv hs65 (by omega), hs66, hs67, hs68, hs69, hs70, hRL, hDD, hTP, hI0, hI1⟩ _ (lv_sub hl [0, 1, 2, 3] rfl)

set_option maxHeartbeats 4000000 in
set_option maxRecDepth 100000 in
theorem lc_1020 {p : Program} {l : Launch} {e : Env} {s : State} {m : MethodId} {below : List Frame} {meth : Method} {c : Code} {b L : Nat} {g : tf_G} {sx : Int → Int} {Q : State → Prop} (E : lw_E p s m c b L g sx) (ax am jj : Nat) (ii : Int) (hii : ii = 6 * (jj : Int)) (hij : ii + 6 ≤ (L : Int)) (hnx : lw_nx p l e s m below meth c b g ax am jj ii Q) (T : tf_T) (H : Heap) (locs : List Loc) (hW : tf_n tf_kt g M_law (fun _ => none) s.heap T H locs) (hax : T ax = some (39, 0)) (ham : T am = some (63, 0)) (hI : lw_I g T H ax am) (ls : Array Slot) (hl : lv_has ls 4 [(3, .int (Int32.ofInt ii)), (2, .ref am), (1, .ref ax), (0, .ref b)]) : W p l e room_1 s m #[Value.ref b] below meth c H locs (100 + 30 * jj) (30000 + 1200 * jj) Q (F0 m 1020 ls []) := by
  obtain ⟨hx, hb, hml, hown, hts, hbl, hk, hBs, hsx, hX, hL⟩ := id E
  have hR1 := lw_R1
  have hR2 := lw_R2
  have hR3 := lw_R3
  have hR4 := lw_R4
  have hK := hk.1
  have hE : tf_E g T := trivial
  obtain ⟨sq, im, ta, dh, lp, lh, yr, wh, ro, iz, kp, tm, dw, tt, uu, dd, gl, gh, gy, gw, tp, gd, rr, qq, rk, tq, gm, hsq, him, hta, hdh, hlp, hlh, hyr, hwh, hro, hiz, hkp, htm, hdw, htt, huu, hdd, hf0, hf1, hf2, hf3, hf4, hf5, hf6, hf7, hf8, hf9, hf10, hf11, hf12, hf13, hf14, hf15, hf16, hf17, hf18, hf19, hf20, hf21, hf22, hf23, hf24, hf25, hf26, hf27, hf28, hf29, hRL, hDD, hTP, hI0, hI1⟩ := hI
  have hWS : tf_WS gy gw := hRL.2.2
  refine lv_aload_n hx hb dL_law_1020 rfl (lv_at hl 2 rfl) ?_
  refine lv_aload_n hx hb dL_law_1021 rfl (lv_at hl 3 rfl) ?_
  refine lv_iload_n hx hb dL_law_1022 rfl (lv_at hl 0 rfl) ?_
  refine tf_iconst hx hb dL_law_1023 ?_
  refine tf_iadd hx hb dL_law_1024 ?_
  refine lw_sld (sx := sx) hx hb hX hbl hBs hL hW (by omega) (by omega) dL_law_1025 ?_
  have hsx1 := hsx (ii + 1)
  refine lv_aload_n hx hb dL_law_1026 rfl (lv_at hl 3 rfl) ?_
  refine lv_iload_n hx hb dL_law_1027 rfl (lv_at hl 0 rfl) ?_
  refine tf_iconst hx hb dL_law_1028 ?_
  refine tf_iadd hx hb dL_law_1029 ?_
  refine lw_sld (sx := sx) hx hb hX hbl hBs hL hW (by omega) (by omega) dL_law_1030 ?_
  have hsx2 := hsx (ii + 2)
  refine tf_calli (va_runV (As := [.int (Int32.ofInt ((sx (ii + 1)))), .int (Int32.ofInt ((sx (ii + 2))))]) (rest := []) ⟨hx, hb, hml, hown, hts⟩ (c_X9_seat l g T ax hax ((sx (ii + 1))) ⟨by omega, by omega⟩ ((sx (ii + 2))) ⟨by omega, by omega⟩ hE) (cwV 2 hts gv_L_116 rfl rfl rfl hd_X9_seat ⟨Nat.le_trans (by decide) hR1, Nat.le_trans (by decide) hR2⟩) (tf_preV hk hW hax (ci := 9) rfl rfl trivial) rfl rfl hl.1 rfl (lv_room (Nat.le_of_ble_eq_true rfl)) dL_law_1031 ⟨Nat.le_trans (by omega) hR3, Nat.le_trans (by omega) hR4⟩) hW (by decide) (fun z3 H3 locs3 hW hF3 hp3 => ?_)
  have hs4 := tf_keepF hF3 hax rfl rfl (by decide) hf0
  have hs5 := tf_keepF hF3 hax rfl rfl (by decide) hf1
  have hs6 := tf_keepF hF3 hax rfl rfl (by decide) hf2
  have hs7 := tf_keepF hF3 hax rfl rfl (by decide) hf3
  have hs8 := tf_keepF hF3 hax rfl rfl (by decide) hf4
  have hs9 := tf_keepF hF3 hax rfl rfl (by decide) hf5
  have hs10 := tf_keepF hF3 hax rfl rfl (by decide) hf6
  have hs11 := tf_keepF hF3 hsq rfl rfl (by decide) hf7
  have hs12 := tf_keepF hF3 hsq rfl rfl (by decide) hf8
  have hs13 := tf_keepF hF3 hsq rfl rfl (by decide) hf9
  have hs14 := tf_keepF hF3 hsq rfl rfl (by decide) hf10
  have hs15 := tf_keepC hF3 hlp rfl (by decide) hf11
  have hs16 := tf_keepC hF3 hlh rfl (by decide) hf12
  have hs17 := tf_keepC hF3 hyr rfl (by decide) hf13
  have hs18 := tf_keepC hF3 hwh rfl (by decide) hf14
  have hs19 := tf_keepC hF3 hta rfl (by decide) hf15
  have hs20 := tf_keepC hF3 hdh rfl (by decide) hf16
  have hs21 := tf_keepF hF3 ham rfl rfl (by decide) hf17
  have hs22 := tf_keepF hF3 ham rfl rfl (by decide) hf18
  have hs23 := tf_keepF hF3 ham rfl rfl (by decide) hf19
  have hs24 := tf_keepF hF3 ham rfl rfl (by decide) hf20
  have hs25 := tf_keepF hF3 ham rfl rfl (by decide) hf21
  have hs26 := tf_keepF hF3 ham rfl rfl (by decide) hf22
  have hs27 := tf_keepF hF3 ham rfl rfl (by decide) hf23
  have hs28 := tf_keepF hF3 ham rfl rfl (by decide) hf24
  have hs29 := tf_keepC hF3 hro rfl (by decide) hf25
  have hs30 := tf_keepC hF3 hiz rfl (by decide) hf26
  have hs31 := tf_keepC hF3 hkp rfl (by decide) hf27
  have hs32 := tf_keepC hF3 htm rfl (by decide) hf28
  have hs33 := tf_keepC hF3 hdw rfl (by decide) hf29
  have hI0 := tf_IS1_keep hF3 him (by decide) (by decide) hI0
  have hI1 := tf_IS2_keep hF3 him (by decide) (by decide) hI1
  obtain ⟨hp3_0, hp3_1⟩ := hp3
  refine lv_pop hx hb dL_law_1034 rfl ?_
  refine lv_aload_n hx hb dL_law_1035 rfl (lv_at hl 1 rfl) ?_
  refine lv_aload_n hx hb dL_law_1036 rfl (lv_at hl 3 rfl) ?_
  refine lv_iload_n hx hb dL_law_1037 rfl (lv_at hl 0 rfl) ?_
  refine tf_iconst hx hb dL_law_1038 ?_
  refine tf_iadd hx hb dL_law_1039 ?_
  refine lw_sld (sx := sx) hx hb hX hbl hBs hL hW (by omega) (by omega) dL_law_1040 ?_
  have hsx34 := hsx (ii + 1)
  refine lv_aload_n hx hb dL_law_1041 rfl (lv_at hl 3 rfl) ?_
  refine lv_iload_n hx hb dL_law_1042 rfl (lv_at hl 0 rfl) ?_
  refine tf_iconst hx hb dL_law_1043 ?_
  refine tf_iadd hx hb dL_law_1044 ?_
  refine lw_sld (sx := sx) hx hb hX hbl hBs hL hW (by omega) (by omega) dL_law_1045 ?_
  have hsx35 := hsx (ii + 2)
  refine tf_calli (va_runV (As := [.int (Int32.ofInt ((sx (ii + 1)))), .int (Int32.ofInt ((sx (ii + 2))))]) (rest := []) ⟨hx, hb, hml, hown, hts⟩ (c_X10_seat l g T am ham ((sx (ii + 1))) ⟨by omega, by omega⟩ ((sx (ii + 2))) ⟨by omega, by omega⟩) (cwV 2 hts gv_L_119 rfl rfl rfl hd_X10_seat ⟨Nat.le_trans (by decide) hR1, Nat.le_trans (by decide) hR2⟩) (tf_preV hk hW ham (ci := 10) rfl rfl trivial) rfl rfl hl.1 rfl (lv_room (Nat.le_of_ble_eq_true rfl)) dL_law_1046 ⟨Nat.le_trans (by omega) hR3, Nat.le_trans (by omega) hR4⟩) hW (by decide) (fun z36 H36 locs36 hW hF36 hp36 => ?_)
  have hs37 := tf_keepF hF36 hax rfl rfl (by decide) hs4
  have hs38 := tf_keepF hF36 hax rfl rfl (by decide) hs5
  have hs39 := tf_keepF hF36 hax rfl rfl (by decide) hs6
  have hs40 := tf_keepF hF36 hax rfl rfl (by decide) hs7
  have hs41 := tf_keepF hF36 hax rfl rfl (by decide) hs8
  have hs42 := tf_keepF hF36 hax rfl rfl (by decide) hs9
  have hs43 := tf_keepF hF36 hax rfl rfl (by decide) hs10
  have hs44 := tf_keepF hF36 hsq rfl rfl (by decide) hs11
  have hs45 := tf_keepF hF36 hsq rfl rfl (by decide) hs12
  have hs46 := tf_keepF hF36 hsq rfl rfl (by decide) hs13
  have hs47 := tf_keepF hF36 hsq rfl rfl (by decide) hs14
  have hs48 := tf_keepC hF36 hlp rfl (by decide) hs15
  have hs49 := tf_keepC hF36 hlh rfl (by decide) hs16
  have hs50 := tf_keepC hF36 hyr rfl (by decide) hs17
  have hs51 := tf_keepC hF36 hwh rfl (by decide) hs18
  have hs52 := tf_keepC hF36 hta rfl (by decide) hs19
  have hs53 := tf_keepC hF36 hdh rfl (by decide) hs20
  have hs54 := tf_keepF hF36 ham rfl rfl (by decide) hs21
  have hs55 := tf_keepF hF36 ham rfl rfl (by decide) hs22
  have hs56 := tf_keepF hF36 ham rfl rfl (by decide) hs23
  have hs57 := tf_keepF hF36 ham rfl rfl (by decide) hs24
  have hs58 := tf_keepF hF36 ham rfl rfl (by decide) hs25
  have hs59 := tf_keepF hF36 ham rfl rfl (by decide) hs26
  have hs60 := tf_keepF hF36 ham rfl rfl (by decide) hs27
  have hs61 := tf_keepF hF36 ham rfl rfl (by decide) hs28
  have hs62 := tf_keepC hF36 hro rfl (by decide) hs29
  have hs63 := tf_keepC hF36 hiz rfl (by decide) hs30
  have hs64 := tf_keepC hF36 hkp rfl (by decide) hs31
  have hs65 := tf_keepC hF36 htm rfl (by decide) hs32
  have hs66 := tf_keepC hF36 hdw rfl (by decide) hs33
  have hI0 := tf_IS1_keep hF36 him (by decide) (by decide) hI0
  have hI1 := tf_IS2_keep hF36 him (by decide) (by decide) hI1
  obtain ⟨hp36_0, hp36_1⟩ := hp36
  refine lv_pop hx hb dL_law_1049 rfl ?_
  refine lv_goto (tgt := 1498) hx hb dL_law_1050 (by decide) ?_
  refine W.widen (k := 130 + 30 * jj) (n := 31200 + 1200 * jj) (by omega) (by omega) ?_
  exact hnx _ _ _ hW hax ham ⟨sq, im, ta, dh, lp, lh, yr, wh, ro, iz, kp, tm, dw, (tt), (uu), (dd), gl, gh, gy, gw, tp, gd, rr, qq, rk, tq, gm, hsq, him, hta, hdh, hlp, hlh, hyr, hwh, hro, hiz, hkp, htm, hdw, ⟨by omega, by omega⟩, ⟨by omega, by omega⟩, ⟨by omega, by omega⟩, hs37, hs38, hs39, hs40, hs41, hs42, hs43, hs44, hs45, hs46, hs47, hs48, hs49, hs50, hs51, hs52, hs53, hs54, hs55, hs56, tf_eqv hs57 (by omega), hs58, tf_eqv hs59 (by omega), hs60, tf_eqv hs61 (by omega), hs62, hs63, hs64, hs65, hs66, hRL, hDD, hTP, hI0, hI1⟩ _ (lv_sub hl [0, 1, 2, 3] rfl)

set_option maxHeartbeats 4000000 in
set_option maxRecDepth 100000 in
theorem lc_1053 {p : Program} {l : Launch} {e : Env} {s : State} {m : MethodId} {below : List Frame} {meth : Method} {c : Code} {b L : Nat} {g : tf_G} {sx : Int → Int} {Q : State → Prop} (E : lw_E p s m c b L g sx) (ax am jj : Nat) (ii : Int) (hii : ii = 6 * (jj : Int)) (hij : ii + 6 ≤ (L : Int)) (hnx : lw_nx p l e s m below meth c b g ax am jj ii Q) (T : tf_T) (H : Heap) (locs : List Loc) (hW : tf_n tf_kt g M_law (fun _ => none) s.heap T H locs) (hax : T ax = some (39, 0)) (ham : T am = some (63, 0)) (hI : lw_I g T H ax am) (ls : Array Slot) (hl : lv_has ls 4 [(3, .int (Int32.ofInt ii)), (2, .ref am), (1, .ref ax), (0, .ref b)]) : W p l e room_1 s m #[Value.ref b] below meth c H locs (100 + 30 * jj) (30000 + 1200 * jj) Q (F0 m 1053 ls []) := by
  obtain ⟨hx, hb, hml, hown, hts, hbl, hk, hBs, hsx, hX, hL⟩ := id E
  have hR1 := lw_R1
  have hR2 := lw_R2
  have hR3 := lw_R3
  have hR4 := lw_R4
  have hK := hk.1
  have hE : tf_E g T := trivial
  obtain ⟨sq, im, ta, dh, lp, lh, yr, wh, ro, iz, kp, tm, dw, tt, uu, dd, gl, gh, gy, gw, tp, gd, rr, qq, rk, tq, gm, hsq, him, hta, hdh, hlp, hlh, hyr, hwh, hro, hiz, hkp, htm, hdw, htt, huu, hdd, hf0, hf1, hf2, hf3, hf4, hf5, hf6, hf7, hf8, hf9, hf10, hf11, hf12, hf13, hf14, hf15, hf16, hf17, hf18, hf19, hf20, hf21, hf22, hf23, hf24, hf25, hf26, hf27, hf28, hf29, hRL, hDD, hTP, hI0, hI1⟩ := hI
  have hWS : tf_WS gy gw := hRL.2.2
  refine lv_aload_n hx hb dL_law_1053 rfl (lv_at hl 2 rfl) ?_
  refine lv_aload_n hx hb dL_law_1054 rfl (lv_at hl 3 rfl) ?_
  refine lv_iload_n hx hb dL_law_1055 rfl (lv_at hl 0 rfl) ?_
  refine tf_iconst hx hb dL_law_1056 ?_
  refine tf_iadd hx hb dL_law_1057 ?_
  refine lw_sld (sx := sx) hx hb hX hbl hBs hL hW (by omega) (by omega) dL_law_1058 ?_
  have hsx1 := hsx (ii + 1)
  refine lv_aload_n hx hb dL_law_1059 rfl (lv_at hl 3 rfl) ?_
  refine lv_iload_n hx hb dL_law_1060 rfl (lv_at hl 0 rfl) ?_
  refine tf_iconst hx hb dL_law_1061 ?_
  refine tf_iadd hx hb dL_law_1062 ?_
  refine lw_sld (sx := sx) hx hb hX hbl hBs hL hW (by omega) (by omega) dL_law_1063 ?_
  have hsx2 := hsx (ii + 2)
  refine lv_aload_n hx hb dL_law_1064 rfl (lv_at hl 3 rfl) ?_
  refine lv_iload_n hx hb dL_law_1065 rfl (lv_at hl 0 rfl) ?_
  refine tf_iconst hx hb dL_law_1066 ?_
  refine tf_iadd hx hb dL_law_1067 ?_
  refine lw_sld (sx := sx) hx hb hX hbl hBs hL hW (by omega) (by omega) dL_law_1068 ?_
  have hsx3 := hsx (ii + 3)
  refine lv_aload_n hx hb dL_law_1069 rfl (lv_at hl 3 rfl) ?_
  refine lv_iload_n hx hb dL_law_1070 rfl (lv_at hl 0 rfl) ?_
  refine tf_iconst hx hb dL_law_1071 ?_
  refine tf_iadd hx hb dL_law_1072 ?_
  refine lw_sld (sx := sx) hx hb hX hbl hBs hL hW (by omega) (by omega) dL_law_1073 ?_
  have hsx4 := hsx (ii + 4)
  refine tf_calli (va_runV (As := [.int (Int32.ofInt ((sx (ii + 1)))), .int (Int32.ofInt ((sx (ii + 2)))), .int (Int32.ofInt ((sx (ii + 3)))), .int (Int32.ofInt ((sx (ii + 4))))]) (rest := []) ⟨hx, hb, hml, hown, hts⟩ (c_X9_work l g T ax hax ((sx (ii + 1))) ⟨by omega, by omega⟩ ((sx (ii + 2))) ⟨by omega, by omega⟩ ((sx (ii + 3))) ⟨by omega, by omega⟩ ((sx (ii + 4))) ⟨by omega, by omega⟩) (cwV 4 hts gv_L_120 rfl rfl rfl hd_X9_work ⟨Nat.le_trans (by decide) hR1, Nat.le_trans (by decide) hR2⟩) (tf_preV hk hW hax (ci := 9) rfl rfl trivial) rfl rfl hl.1 rfl (lv_room (Nat.le_of_ble_eq_true rfl)) dL_law_1074 ⟨Nat.le_trans (by omega) hR3, Nat.le_trans (by omega) hR4⟩) hW (by decide) (fun z5 H5 locs5 hW hF5 hp5 => ?_)
  have hs6 := tf_keepF hF5 hax rfl rfl (by decide) hf0
  have hs7 := tf_keepF hF5 hax rfl rfl (by decide) hf1
  have hs8 := tf_keepF hF5 hax rfl rfl (by decide) hf2
  have hs9 := tf_keepF hF5 hax rfl rfl (by decide) hf3
  have hs10 := tf_keepF hF5 hax rfl rfl (by decide) hf4
  have hs11 := tf_keepF hF5 hax rfl rfl (by decide) hf5
  have hs12 := tf_keepF hF5 hax rfl rfl (by decide) hf6
  have hs13 := tf_keepF hF5 hsq rfl rfl (by decide) hf7
  have hs14 := tf_keepF hF5 hsq rfl rfl (by decide) hf8
  have hs15 := tf_keepF hF5 hsq rfl rfl (by decide) hf9
  have hs16 := tf_keepF hF5 hsq rfl rfl (by decide) hf10
  have hs17 := tf_keepC hF5 hlp rfl (by decide) hf11
  have hs18 := tf_keepC hF5 hlh rfl (by decide) hf12
  have hs19 := tf_keepC hF5 hyr rfl (by decide) hf13
  have hs20 := tf_keepC hF5 hwh rfl (by decide) hf14
  have hs21 := tf_keepC hF5 hta rfl (by decide) hf15
  have hs22 := tf_keepC hF5 hdh rfl (by decide) hf16
  have hs23 := tf_keepF hF5 ham rfl rfl (by decide) hf17
  have hs24 := tf_keepF hF5 ham rfl rfl (by decide) hf18
  have hs25 := tf_keepF hF5 ham rfl rfl (by decide) hf19
  have hs26 := tf_keepF hF5 ham rfl rfl (by decide) hf20
  have hs27 := tf_keepF hF5 ham rfl rfl (by decide) hf21
  have hs28 := tf_keepF hF5 ham rfl rfl (by decide) hf22
  have hs29 := tf_keepF hF5 ham rfl rfl (by decide) hf23
  have hs30 := tf_keepF hF5 ham rfl rfl (by decide) hf24
  have hs31 := tf_keepC hF5 hro rfl (by decide) hf25
  have hs32 := tf_keepC hF5 hiz rfl (by decide) hf26
  have hs33 := tf_keepC hF5 hkp rfl (by decide) hf27
  have hs34 := tf_keepC hF5 htm rfl (by decide) hf28
  have hs35 := tf_keepC hF5 hdw rfl (by decide) hf29
  have hI0 := tf_IS1_keep hF5 him (by decide) (by decide) hI0
  have hI1 := tf_IS2_keep hF5 him (by decide) (by decide) hI1
  obtain ⟨hp5_0, hp5_1⟩ := hp5
  refine lv_pop hx hb dL_law_1077 rfl ?_
  refine lv_aload_n hx hb dL_law_1078 rfl (lv_at hl 1 rfl) ?_
  refine lv_aload_n hx hb dL_law_1079 rfl (lv_at hl 3 rfl) ?_
  refine lv_iload_n hx hb dL_law_1080 rfl (lv_at hl 0 rfl) ?_
  refine tf_iconst hx hb dL_law_1081 ?_
  refine tf_iadd hx hb dL_law_1082 ?_
  refine lw_sld (sx := sx) hx hb hX hbl hBs hL hW (by omega) (by omega) dL_law_1083 ?_
  have hsx36 := hsx (ii + 1)
  refine lv_aload_n hx hb dL_law_1084 rfl (lv_at hl 3 rfl) ?_
  refine lv_iload_n hx hb dL_law_1085 rfl (lv_at hl 0 rfl) ?_
  refine tf_iconst hx hb dL_law_1086 ?_
  refine tf_iadd hx hb dL_law_1087 ?_
  refine lw_sld (sx := sx) hx hb hX hbl hBs hL hW (by omega) (by omega) dL_law_1088 ?_
  have hsx37 := hsx (ii + 2)
  refine lv_aload_n hx hb dL_law_1089 rfl (lv_at hl 3 rfl) ?_
  refine lv_iload_n hx hb dL_law_1090 rfl (lv_at hl 0 rfl) ?_
  refine tf_iconst hx hb dL_law_1091 ?_
  refine tf_iadd hx hb dL_law_1092 ?_
  refine lw_sld (sx := sx) hx hb hX hbl hBs hL hW (by omega) (by omega) dL_law_1093 ?_
  have hsx38 := hsx (ii + 3)
  refine lv_aload_n hx hb dL_law_1094 rfl (lv_at hl 3 rfl) ?_
  refine lv_iload_n hx hb dL_law_1095 rfl (lv_at hl 0 rfl) ?_
  refine tf_iconst hx hb dL_law_1096 ?_
  refine tf_iadd hx hb dL_law_1097 ?_
  refine lw_sld (sx := sx) hx hb hX hbl hBs hL hW (by omega) (by omega) dL_law_1098 ?_
  have hsx39 := hsx (ii + 4)
  refine tf_calli (va_runV (As := [.int (Int32.ofInt ((sx (ii + 1)))), .int (Int32.ofInt ((sx (ii + 2)))), .int (Int32.ofInt ((sx (ii + 3)))), .int (Int32.ofInt ((sx (ii + 4))))]) (rest := []) ⟨hx, hb, hml, hown, hts⟩ (c_X10_work l g T am ham ((sx (ii + 1))) ⟨by omega, by omega⟩ ((sx (ii + 2))) ⟨by omega, by omega⟩ ((sx (ii + 3))) ⟨by omega, by omega⟩ ((sx (ii + 4))) ⟨by omega, by omega⟩ ro hro rr) (cwV 4 hts gv_L_123 rfl rfl rfl hd_X10_work ⟨Nat.le_trans (by decide) hR1, Nat.le_trans (by decide) hR2⟩) (tf_preV hk hW ham (ci := 10) rfl rfl ⟨hs23, hs31⟩) rfl rfl hl.1 rfl (lv_room (Nat.le_of_ble_eq_true rfl)) dL_law_1099 ⟨Nat.le_trans (by omega) hR3, Nat.le_trans (by omega) hR4⟩) hW (by decide) (fun z40 H40 locs40 hW hF40 hp40 => ?_)
  have hs41 := tf_keepF hF40 hax rfl rfl (by decide) hs6
  have hs42 := tf_keepF hF40 hax rfl rfl (by decide) hs7
  have hs43 := tf_keepF hF40 hax rfl rfl (by decide) hs8
  have hs44 := tf_keepF hF40 hax rfl rfl (by decide) hs9
  have hs45 := tf_keepF hF40 hax rfl rfl (by decide) hs10
  have hs46 := tf_keepF hF40 hax rfl rfl (by decide) hs11
  have hs47 := tf_keepF hF40 hax rfl rfl (by decide) hs12
  have hs48 := tf_keepF hF40 hsq rfl rfl (by decide) hs13
  have hs49 := tf_keepF hF40 hsq rfl rfl (by decide) hs14
  have hs50 := tf_keepF hF40 hsq rfl rfl (by decide) hs15
  have hs51 := tf_keepF hF40 hsq rfl rfl (by decide) hs16
  have hs52 := tf_keepC hF40 hlp rfl (by decide) hs17
  have hs53 := tf_keepC hF40 hlh rfl (by decide) hs18
  have hs54 := tf_keepC hF40 hyr rfl (by decide) hs19
  have hs55 := tf_keepC hF40 hwh rfl (by decide) hs20
  have hs56 := tf_keepC hF40 hta rfl (by decide) hs21
  have hs57 := tf_keepC hF40 hdh rfl (by decide) hs22
  have hs58 := tf_keepF hF40 ham rfl rfl (by decide) hs23
  have hs59 := tf_keepF hF40 ham rfl rfl (by decide) hs24
  have hs60 := tf_keepF hF40 ham rfl rfl (by decide) hs25
  have hs61 := tf_keepF hF40 ham rfl rfl (by decide) hs26
  have hs62 := tf_keepF hF40 ham rfl rfl (by decide) hs27
  have hs63 := tf_keepF hF40 ham rfl rfl (by decide) hs28
  have hs64 := tf_keepF hF40 ham rfl rfl (by decide) hs29
  have hs65 := tf_keepF hF40 ham rfl rfl (by decide) hs30
  have hs66 := tf_keepC hF40 hiz rfl (by decide) hs32
  have hs67 := tf_keepC hF40 hkp rfl (by decide) hs33
  have hs68 := tf_keepC hF40 htm rfl (by decide) hs34
  have hs69 := tf_keepC hF40 hdw rfl (by decide) hs35
  have hI0 := tf_IS1_keep hF40 him (by decide) (by decide) hI0
  have hI1 := tf_IS2_keep hF40 him (by decide) (by decide) hI1
  obtain ⟨hp40_0, hp40_1, hp40_2⟩ := hp40
  obtain ⟨r1_40, hX40_0, hR40_0⟩ := hp40_2
  have hRL := tf_RL_kp hRL hR40_0
  refine lv_pop hx hb dL_law_1102 rfl ?_
  refine lv_goto (tgt := 1498) hx hb dL_law_1103 (by decide) ?_
  refine W.widen (k := 130 + 30 * jj) (n := 31200 + 1200 * jj) (by omega) (by omega) ?_
  exact hnx _ _ _ hW hax ham ⟨sq, im, ta, dh, lp, lh, yr, wh, ro, iz, kp, tm, dw, (tt), (uu), (dd), gl, gh, gy, gw, tp, gd, r1_40, qq, rk, tq, gm, hsq, him, hta, hdh, hlp, hlh, hyr, hwh, hro, hiz, hkp, htm, hdw, ⟨by omega, by omega⟩, ⟨by omega, by omega⟩, ⟨by omega, by omega⟩, hs41, hs42, hs43, hs44, hs45, hs46, hs47, hs48, hs49, hs50, hs51, hs52, hs53, hs54, hs55, hs56, hs57, hs58, hs59, hs60, tf_eqv hs61 (by omega), hs62, tf_eqv hs63 (by omega), hs64, tf_eqv hs65 (by omega), hX40_0, hs66, hs67, hs68, hs69, hRL, hDD, hTP, hI0, hI1⟩ _ (lv_sub hl [0, 1, 2, 3] rfl)

set_option maxHeartbeats 4000000 in
set_option maxRecDepth 100000 in
theorem lc_1106 {p : Program} {l : Launch} {e : Env} {s : State} {m : MethodId} {below : List Frame} {meth : Method} {c : Code} {b L : Nat} {g : tf_G} {sx : Int → Int} {Q : State → Prop} (E : lw_E p s m c b L g sx) (ax am jj : Nat) (ii : Int) (hii : ii = 6 * (jj : Int)) (hij : ii + 6 ≤ (L : Int)) (hnx : lw_nx p l e s m below meth c b g ax am jj ii Q) (T : tf_T) (H : Heap) (locs : List Loc) (hW : tf_n tf_kt g M_law (fun _ => none) s.heap T H locs) (hax : T ax = some (39, 0)) (ham : T am = some (63, 0)) (hI : lw_I g T H ax am) (ls : Array Slot) (hl : lv_has ls 4 [(3, .int (Int32.ofInt ii)), (2, .ref am), (1, .ref ax), (0, .ref b)]) : W p l e room_1 s m #[Value.ref b] below meth c H locs (100 + 30 * jj) (30000 + 1200 * jj) Q (F0 m 1106 ls []) := by
  obtain ⟨hx, hb, hml, hown, hts, hbl, hk, hBs, hsx, hX, hL⟩ := id E
  have hR1 := lw_R1
  have hR2 := lw_R2
  have hR3 := lw_R3
  have hR4 := lw_R4
  have hK := hk.1
  have hE : tf_E g T := trivial
  obtain ⟨sq, im, ta, dh, lp, lh, yr, wh, ro, iz, kp, tm, dw, tt, uu, dd, gl, gh, gy, gw, tp, gd, rr, qq, rk, tq, gm, hsq, him, hta, hdh, hlp, hlh, hyr, hwh, hro, hiz, hkp, htm, hdw, htt, huu, hdd, hf0, hf1, hf2, hf3, hf4, hf5, hf6, hf7, hf8, hf9, hf10, hf11, hf12, hf13, hf14, hf15, hf16, hf17, hf18, hf19, hf20, hf21, hf22, hf23, hf24, hf25, hf26, hf27, hf28, hf29, hRL, hDD, hTP, hI0, hI1⟩ := hI
  have hWS : tf_WS gy gw := hRL.2.2
  refine lv_aload_n hx hb dL_law_1106 rfl (lv_at hl 2 rfl) ?_
  refine lv_aload_n hx hb dL_law_1107 rfl (lv_at hl 3 rfl) ?_
  refine lv_iload_n hx hb dL_law_1108 rfl (lv_at hl 0 rfl) ?_
  refine tf_iconst hx hb dL_law_1109 ?_
  refine tf_iadd hx hb dL_law_1110 ?_
  refine lw_sld (sx := sx) hx hb hX hbl hBs hL hW (by omega) (by omega) dL_law_1111 ?_
  have hsx1 := hsx (ii + 1)
  refine tf_calli (va_runV (As := [.int (Int32.ofInt ((sx (ii + 1))))]) (rest := []) ⟨hx, hb, hml, hown, hts⟩ (c_X9_drop l g T ax hax ((sx (ii + 1))) ⟨by omega, by omega⟩) (cwV 1 hts gv_L_124 rfl rfl rfl hd_X9_drop ⟨Nat.le_trans (by decide) hR1, Nat.le_trans (by decide) hR2⟩) (tf_preV hk hW hax (ci := 9) rfl rfl trivial) rfl rfl hl.1 rfl (lv_room (Nat.le_of_ble_eq_true rfl)) dL_law_1112 ⟨Nat.le_trans (by omega) hR3, Nat.le_trans (by omega) hR4⟩) hW (by decide) (fun z2 H2 locs2 hW hF2 hp2 => ?_)
  have hs3 := tf_keepF hF2 hax rfl rfl (by decide) hf0
  have hs4 := tf_keepF hF2 hax rfl rfl (by decide) hf1
  have hs5 := tf_keepF hF2 hax rfl rfl (by decide) hf2
  have hs6 := tf_keepF hF2 hax rfl rfl (by decide) hf3
  have hs7 := tf_keepF hF2 hax rfl rfl (by decide) hf4
  have hs8 := tf_keepF hF2 hax rfl rfl (by decide) hf5
  have hs9 := tf_keepF hF2 hax rfl rfl (by decide) hf6
  have hs10 := tf_keepF hF2 hsq rfl rfl (by decide) hf7
  have hs11 := tf_keepF hF2 hsq rfl rfl (by decide) hf8
  have hs12 := tf_keepF hF2 hsq rfl rfl (by decide) hf9
  have hs13 := tf_keepF hF2 hsq rfl rfl (by decide) hf10
  have hs14 := tf_keepC hF2 hlp rfl (by decide) hf11
  have hs15 := tf_keepC hF2 hlh rfl (by decide) hf12
  have hs16 := tf_keepC hF2 hyr rfl (by decide) hf13
  have hs17 := tf_keepC hF2 hwh rfl (by decide) hf14
  have hs18 := tf_keepC hF2 hta rfl (by decide) hf15
  have hs19 := tf_keepC hF2 hdh rfl (by decide) hf16
  have hs20 := tf_keepF hF2 ham rfl rfl (by decide) hf17
  have hs21 := tf_keepF hF2 ham rfl rfl (by decide) hf18
  have hs22 := tf_keepF hF2 ham rfl rfl (by decide) hf19
  have hs23 := tf_keepF hF2 ham rfl rfl (by decide) hf20
  have hs24 := tf_keepF hF2 ham rfl rfl (by decide) hf21
  have hs25 := tf_keepF hF2 ham rfl rfl (by decide) hf22
  have hs26 := tf_keepF hF2 ham rfl rfl (by decide) hf23
  have hs27 := tf_keepF hF2 ham rfl rfl (by decide) hf24
  have hs28 := tf_keepC hF2 hro rfl (by decide) hf25
  have hs29 := tf_keepC hF2 hiz rfl (by decide) hf26
  have hs30 := tf_keepC hF2 hkp rfl (by decide) hf27
  have hs31 := tf_keepC hF2 htm rfl (by decide) hf28
  have hs32 := tf_keepC hF2 hdw rfl (by decide) hf29
  have hI0 := tf_IS1_keep hF2 him (by decide) (by decide) hI0
  have hI1 := tf_IS2_keep hF2 him (by decide) (by decide) hI1
  obtain ⟨hp2_0, hp2_1⟩ := hp2
  refine lv_pop hx hb dL_law_1115 rfl ?_
  refine lv_aload_n hx hb dL_law_1116 rfl (lv_at hl 1 rfl) ?_
  refine lv_aload_n hx hb dL_law_1117 rfl (lv_at hl 3 rfl) ?_
  refine lv_iload_n hx hb dL_law_1118 rfl (lv_at hl 0 rfl) ?_
  refine tf_iconst hx hb dL_law_1119 ?_
  refine tf_iadd hx hb dL_law_1120 ?_
  refine lw_sld (sx := sx) hx hb hX hbl hBs hL hW (by omega) (by omega) dL_law_1121 ?_
  have hsx33 := hsx (ii + 1)
  refine tf_calli (va_runV (As := [.int (Int32.ofInt ((sx (ii + 1))))]) (rest := []) ⟨hx, hb, hml, hown, hts⟩ (c_X10_drop l g T am ham ((sx (ii + 1))) ⟨by omega, by omega⟩ ro hro rr) (cwV 1 hts gv_L_127 rfl rfl rfl hd_X10_drop ⟨Nat.le_trans (by decide) hR1, Nat.le_trans (by decide) hR2⟩) (tf_preV hk hW ham (ci := 10) rfl rfl ⟨hs20, hs28⟩) rfl rfl hl.1 rfl (lv_room (Nat.le_of_ble_eq_true rfl)) dL_law_1122 ⟨Nat.le_trans (by omega) hR3, Nat.le_trans (by omega) hR4⟩) hW (by decide) (fun z34 H34 locs34 hW hF34 hp34 => ?_)
  have hs35 := tf_keepF hF34 hax rfl rfl (by decide) hs3
  have hs36 := tf_keepF hF34 hax rfl rfl (by decide) hs4
  have hs37 := tf_keepF hF34 hax rfl rfl (by decide) hs5
  have hs38 := tf_keepF hF34 hax rfl rfl (by decide) hs6
  have hs39 := tf_keepF hF34 hax rfl rfl (by decide) hs7
  have hs40 := tf_keepF hF34 hax rfl rfl (by decide) hs8
  have hs41 := tf_keepF hF34 hax rfl rfl (by decide) hs9
  have hs42 := tf_keepF hF34 hsq rfl rfl (by decide) hs10
  have hs43 := tf_keepF hF34 hsq rfl rfl (by decide) hs11
  have hs44 := tf_keepF hF34 hsq rfl rfl (by decide) hs12
  have hs45 := tf_keepF hF34 hsq rfl rfl (by decide) hs13
  have hs46 := tf_keepC hF34 hlp rfl (by decide) hs14
  have hs47 := tf_keepC hF34 hlh rfl (by decide) hs15
  have hs48 := tf_keepC hF34 hyr rfl (by decide) hs16
  have hs49 := tf_keepC hF34 hwh rfl (by decide) hs17
  have hs50 := tf_keepC hF34 hta rfl (by decide) hs18
  have hs51 := tf_keepC hF34 hdh rfl (by decide) hs19
  have hs52 := tf_keepF hF34 ham rfl rfl (by decide) hs20
  have hs53 := tf_keepF hF34 ham rfl rfl (by decide) hs21
  have hs54 := tf_keepF hF34 ham rfl rfl (by decide) hs22
  have hs55 := tf_keepF hF34 ham rfl rfl (by decide) hs23
  have hs56 := tf_keepF hF34 ham rfl rfl (by decide) hs24
  have hs57 := tf_keepF hF34 ham rfl rfl (by decide) hs25
  have hs58 := tf_keepF hF34 ham rfl rfl (by decide) hs26
  have hs59 := tf_keepF hF34 ham rfl rfl (by decide) hs27
  have hs60 := tf_keepC hF34 hiz rfl (by decide) hs29
  have hs61 := tf_keepC hF34 hkp rfl (by decide) hs30
  have hs62 := tf_keepC hF34 htm rfl (by decide) hs31
  have hs63 := tf_keepC hF34 hdw rfl (by decide) hs32
  have hI0 := tf_IS1_keep hF34 him (by decide) (by decide) hI0
  have hI1 := tf_IS2_keep hF34 him (by decide) (by decide) hI1
  obtain ⟨hp34_0, hp34_1, hp34_2⟩ := hp34
  obtain ⟨r1_34, hX34_0, hR34_0⟩ := hp34_2
  have hRL := tf_RL_kp hRL hR34_0
  refine lv_pop hx hb dL_law_1125 rfl ?_
  refine lv_goto (tgt := 1498) hx hb dL_law_1126 (by decide) ?_
  refine W.widen (k := 130 + 30 * jj) (n := 31200 + 1200 * jj) (by omega) (by omega) ?_
  exact hnx _ _ _ hW hax ham ⟨sq, im, ta, dh, lp, lh, yr, wh, ro, iz, kp, tm, dw, (tt), (uu), (dd), gl, gh, gy, gw, tp, gd, r1_34, qq, rk, tq, gm, hsq, him, hta, hdh, hlp, hlh, hyr, hwh, hro, hiz, hkp, htm, hdw, ⟨by omega, by omega⟩, ⟨by omega, by omega⟩, ⟨by omega, by omega⟩, hs35, hs36, hs37, hs38, hs39, hs40, hs41, hs42, hs43, hs44, hs45, hs46, hs47, hs48, hs49, hs50, hs51, hs52, hs53, hs54, tf_eqv hs55 (by omega), hs56, tf_eqv hs57 (by omega), hs58, tf_eqv hs59 (by omega), hX34_0, hs60, hs61, hs62, hs63, hRL, hDD, hTP, hI0, hI1⟩ _ (lv_sub hl [0, 1, 2, 3] rfl)

set_option maxHeartbeats 4000000 in
set_option maxRecDepth 100000 in
theorem lc_1129 {p : Program} {l : Launch} {e : Env} {s : State} {m : MethodId} {below : List Frame} {meth : Method} {c : Code} {b L : Nat} {g : tf_G} {sx : Int → Int} {Q : State → Prop} (E : lw_E p s m c b L g sx) (ax am jj : Nat) (ii : Int) (hii : ii = 6 * (jj : Int)) (hij : ii + 6 ≤ (L : Int)) (hnx : lw_nx p l e s m below meth c b g ax am jj ii Q) (T : tf_T) (H : Heap) (locs : List Loc) (hW : tf_n tf_kt g M_law (fun _ => none) s.heap T H locs) (hax : T ax = some (39, 0)) (ham : T am = some (63, 0)) (hI : lw_I g T H ax am) (ls : Array Slot) (hl : lv_has ls 4 [(3, .int (Int32.ofInt ii)), (2, .ref am), (1, .ref ax), (0, .ref b)]) : W p l e room_1 s m #[Value.ref b] below meth c H locs (100 + 30 * jj) (30000 + 1200 * jj) Q (F0 m 1129 ls []) := by
  obtain ⟨hx, hb, hml, hown, hts, hbl, hk, hBs, hsx, hX, hL⟩ := id E
  have hR1 := lw_R1
  have hR2 := lw_R2
  have hR3 := lw_R3
  have hR4 := lw_R4
  have hK := hk.1
  have hE : tf_E g T := trivial
  obtain ⟨sq, im, ta, dh, lp, lh, yr, wh, ro, iz, kp, tm, dw, tt, uu, dd, gl, gh, gy, gw, tp, gd, rr, qq, rk, tq, gm, hsq, him, hta, hdh, hlp, hlh, hyr, hwh, hro, hiz, hkp, htm, hdw, htt, huu, hdd, hf0, hf1, hf2, hf3, hf4, hf5, hf6, hf7, hf8, hf9, hf10, hf11, hf12, hf13, hf14, hf15, hf16, hf17, hf18, hf19, hf20, hf21, hf22, hf23, hf24, hf25, hf26, hf27, hf28, hf29, hRL, hDD, hTP, hI0, hI1⟩ := hI
  have hWS : tf_WS gy gw := hRL.2.2
  refine lv_aload_n hx hb dL_law_1129 rfl (lv_at hl 2 rfl) ?_
  refine lv_aload_n hx hb dL_law_1130 rfl (lv_at hl 3 rfl) ?_
  refine lv_iload_n hx hb dL_law_1131 rfl (lv_at hl 0 rfl) ?_
  refine tf_iconst hx hb dL_law_1132 ?_
  refine tf_iadd hx hb dL_law_1133 ?_
  refine lw_sld (sx := sx) hx hb hX hbl hBs hL hW (by omega) (by omega) dL_law_1134 ?_
  have hsx1 := hsx (ii + 1)
  refine lv_aload_n hx hb dL_law_1135 rfl (lv_at hl 3 rfl) ?_
  refine lv_iload_n hx hb dL_law_1136 rfl (lv_at hl 0 rfl) ?_
  refine tf_iconst hx hb dL_law_1137 ?_
  refine tf_iadd hx hb dL_law_1138 ?_
  refine lw_sld (sx := sx) hx hb hX hbl hBs hL hW (by omega) (by omega) dL_law_1139 ?_
  have hsx2 := hsx (ii + 2)
  refine tf_calli (va_runV (As := [.int (Int32.ofInt ((sx (ii + 1)))), .int (Int32.ofInt ((sx (ii + 2))))]) (rest := []) ⟨hx, hb, hml, hown, hts⟩ (c_X9_done l g T ax hax ((sx (ii + 1))) ⟨by omega, by omega⟩ ((sx (ii + 2))) ⟨by omega, by omega⟩ hE) (cwV 2 hts gv_L_128 rfl rfl rfl hd_X9_done ⟨Nat.le_trans (by decide) hR1, Nat.le_trans (by decide) hR2⟩) (tf_preV hk hW hax (ci := 9) rfl rfl trivial) rfl rfl hl.1 rfl (lv_room (Nat.le_of_ble_eq_true rfl)) dL_law_1140 ⟨Nat.le_trans (by omega) hR3, Nat.le_trans (by omega) hR4⟩) hW (by decide) (fun z3 H3 locs3 hW hF3 hp3 => ?_)
  have hs4 := tf_keepF hF3 hax rfl rfl (by decide) hf0
  have hs5 := tf_keepF hF3 hax rfl rfl (by decide) hf1
  have hs6 := tf_keepF hF3 hax rfl rfl (by decide) hf2
  have hs7 := tf_keepF hF3 hax rfl rfl (by decide) hf3
  have hs8 := tf_keepF hF3 hax rfl rfl (by decide) hf4
  have hs9 := tf_keepF hF3 hax rfl rfl (by decide) hf5
  have hs10 := tf_keepF hF3 hax rfl rfl (by decide) hf6
  have hs11 := tf_keepF hF3 hsq rfl rfl (by decide) hf7
  have hs12 := tf_keepF hF3 hsq rfl rfl (by decide) hf8
  have hs13 := tf_keepF hF3 hsq rfl rfl (by decide) hf9
  have hs14 := tf_keepF hF3 hsq rfl rfl (by decide) hf10
  have hs15 := tf_keepC hF3 hlp rfl (by decide) hf11
  have hs16 := tf_keepC hF3 hlh rfl (by decide) hf12
  have hs17 := tf_keepC hF3 hyr rfl (by decide) hf13
  have hs18 := tf_keepC hF3 hwh rfl (by decide) hf14
  have hs19 := tf_keepC hF3 hta rfl (by decide) hf15
  have hs20 := tf_keepC hF3 hdh rfl (by decide) hf16
  have hs21 := tf_keepF hF3 ham rfl rfl (by decide) hf17
  have hs22 := tf_keepF hF3 ham rfl rfl (by decide) hf18
  have hs23 := tf_keepF hF3 ham rfl rfl (by decide) hf19
  have hs24 := tf_keepF hF3 ham rfl rfl (by decide) hf20
  have hs25 := tf_keepF hF3 ham rfl rfl (by decide) hf21
  have hs26 := tf_keepF hF3 ham rfl rfl (by decide) hf22
  have hs27 := tf_keepF hF3 ham rfl rfl (by decide) hf23
  have hs28 := tf_keepF hF3 ham rfl rfl (by decide) hf24
  have hs29 := tf_keepC hF3 hro rfl (by decide) hf25
  have hs30 := tf_keepC hF3 hiz rfl (by decide) hf26
  have hs31 := tf_keepC hF3 hkp rfl (by decide) hf27
  have hs32 := tf_keepC hF3 htm rfl (by decide) hf28
  have hs33 := tf_keepC hF3 hdw rfl (by decide) hf29
  have hI0 := tf_IS1_keep hF3 him (by decide) (by decide) hI0
  have hI1 := tf_IS2_keep hF3 him (by decide) (by decide) hI1
  obtain ⟨hp3_0, hp3_1⟩ := hp3
  refine lv_pop hx hb dL_law_1143 rfl ?_
  refine lv_aload_n hx hb dL_law_1144 rfl (lv_at hl 1 rfl) ?_
  refine lv_aload_n hx hb dL_law_1145 rfl (lv_at hl 3 rfl) ?_
  refine lv_iload_n hx hb dL_law_1146 rfl (lv_at hl 0 rfl) ?_
  refine tf_iconst hx hb dL_law_1147 ?_
  refine tf_iadd hx hb dL_law_1148 ?_
  refine lw_sld (sx := sx) hx hb hX hbl hBs hL hW (by omega) (by omega) dL_law_1149 ?_
  have hsx34 := hsx (ii + 1)
  refine lv_aload_n hx hb dL_law_1150 rfl (lv_at hl 3 rfl) ?_
  refine lv_iload_n hx hb dL_law_1151 rfl (lv_at hl 0 rfl) ?_
  refine tf_iconst hx hb dL_law_1152 ?_
  refine tf_iadd hx hb dL_law_1153 ?_
  refine lw_sld (sx := sx) hx hb hX hbl hBs hL hW (by omega) (by omega) dL_law_1154 ?_
  have hsx35 := hsx (ii + 2)
  refine tf_calli (va_runV (As := [.int (Int32.ofInt ((sx (ii + 1)))), .int (Int32.ofInt ((sx (ii + 2))))]) (rest := []) ⟨hx, hb, hml, hown, hts⟩ (c_X10_done l g T am ham ((sx (ii + 1))) ⟨by omega, by omega⟩ ((sx (ii + 2))) ⟨by omega, by omega⟩) (cwV 2 hts gv_L_131 rfl rfl rfl hd_X10_done ⟨Nat.le_trans (by decide) hR1, Nat.le_trans (by decide) hR2⟩) (tf_preV hk hW ham (ci := 10) rfl rfl trivial) rfl rfl hl.1 rfl (lv_room (Nat.le_of_ble_eq_true rfl)) dL_law_1155 ⟨Nat.le_trans (by omega) hR3, Nat.le_trans (by omega) hR4⟩) hW (by decide) (fun z36 H36 locs36 hW hF36 hp36 => ?_)
  have hs37 := tf_keepF hF36 hax rfl rfl (by decide) hs4
  have hs38 := tf_keepF hF36 hax rfl rfl (by decide) hs5
  have hs39 := tf_keepF hF36 hax rfl rfl (by decide) hs6
  have hs40 := tf_keepF hF36 hax rfl rfl (by decide) hs7
  have hs41 := tf_keepF hF36 hax rfl rfl (by decide) hs8
  have hs42 := tf_keepF hF36 hax rfl rfl (by decide) hs9
  have hs43 := tf_keepF hF36 hax rfl rfl (by decide) hs10
  have hs44 := tf_keepF hF36 hsq rfl rfl (by decide) hs11
  have hs45 := tf_keepF hF36 hsq rfl rfl (by decide) hs12
  have hs46 := tf_keepF hF36 hsq rfl rfl (by decide) hs13
  have hs47 := tf_keepF hF36 hsq rfl rfl (by decide) hs14
  have hs48 := tf_keepC hF36 hlp rfl (by decide) hs15
  have hs49 := tf_keepC hF36 hlh rfl (by decide) hs16
  have hs50 := tf_keepC hF36 hyr rfl (by decide) hs17
  have hs51 := tf_keepC hF36 hwh rfl (by decide) hs18
  have hs52 := tf_keepC hF36 hta rfl (by decide) hs19
  have hs53 := tf_keepC hF36 hdh rfl (by decide) hs20
  have hs54 := tf_keepF hF36 ham rfl rfl (by decide) hs21
  have hs55 := tf_keepF hF36 ham rfl rfl (by decide) hs22
  have hs56 := tf_keepF hF36 ham rfl rfl (by decide) hs23
  have hs57 := tf_keepF hF36 ham rfl rfl (by decide) hs24
  have hs58 := tf_keepF hF36 ham rfl rfl (by decide) hs25
  have hs59 := tf_keepF hF36 ham rfl rfl (by decide) hs26
  have hs60 := tf_keepF hF36 ham rfl rfl (by decide) hs27
  have hs61 := tf_keepF hF36 ham rfl rfl (by decide) hs28
  have hs62 := tf_keepC hF36 hro rfl (by decide) hs29
  have hs63 := tf_keepC hF36 hiz rfl (by decide) hs30
  have hs64 := tf_keepC hF36 hkp rfl (by decide) hs31
  have hs65 := tf_keepC hF36 htm rfl (by decide) hs32
  have hs66 := tf_keepC hF36 hdw rfl (by decide) hs33
  have hI0 := tf_IS1_keep hF36 him (by decide) (by decide) hI0
  have hI1 := tf_IS2_keep hF36 him (by decide) (by decide) hI1
  obtain ⟨hp36_0, hp36_1⟩ := hp36
  refine lv_pop hx hb dL_law_1158 rfl ?_
  refine lv_goto (tgt := 1498) hx hb dL_law_1159 (by decide) ?_
  refine W.widen (k := 130 + 30 * jj) (n := 31200 + 1200 * jj) (by omega) (by omega) ?_
  exact hnx _ _ _ hW hax ham ⟨sq, im, ta, dh, lp, lh, yr, wh, ro, iz, kp, tm, dw, (tt), (uu), (dd), gl, gh, gy, gw, tp, gd, rr, qq, rk, tq, gm, hsq, him, hta, hdh, hlp, hlh, hyr, hwh, hro, hiz, hkp, htm, hdw, ⟨by omega, by omega⟩, ⟨by omega, by omega⟩, ⟨by omega, by omega⟩, hs37, hs38, hs39, hs40, hs41, hs42, hs43, hs44, hs45, hs46, hs47, hs48, hs49, hs50, hs51, hs52, hs53, hs54, hs55, hs56, tf_eqv hs57 (by omega), hs58, tf_eqv hs59 (by omega), hs60, tf_eqv hs61 (by omega), hs62, hs63, hs64, hs65, hs66, hRL, hDD, hTP, hI0, hI1⟩ _ (lv_sub hl [0, 1, 2, 3] rfl)

set_option maxHeartbeats 4000000 in
set_option maxRecDepth 100000 in
theorem lc_1162 {p : Program} {l : Launch} {e : Env} {s : State} {m : MethodId} {below : List Frame} {meth : Method} {c : Code} {b L : Nat} {g : tf_G} {sx : Int → Int} {Q : State → Prop} (E : lw_E p s m c b L g sx) (ax am jj : Nat) (ii : Int) (hii : ii = 6 * (jj : Int)) (hij : ii + 6 ≤ (L : Int)) (hnx : lw_nx p l e s m below meth c b g ax am jj ii Q) (T : tf_T) (H : Heap) (locs : List Loc) (hW : tf_n tf_kt g M_law (fun _ => none) s.heap T H locs) (hax : T ax = some (39, 0)) (ham : T am = some (63, 0)) (hI : lw_I g T H ax am) (ls : Array Slot) (hl : lv_has ls 4 [(3, .int (Int32.ofInt ii)), (2, .ref am), (1, .ref ax), (0, .ref b)]) : W p l e room_1 s m #[Value.ref b] below meth c H locs (100 + 30 * jj) (30000 + 1200 * jj) Q (F0 m 1162 ls []) := by
  obtain ⟨hx, hb, hml, hown, hts, hbl, hk, hBs, hsx, hX, hL⟩ := id E
  have hR1 := lw_R1
  have hR2 := lw_R2
  have hR3 := lw_R3
  have hR4 := lw_R4
  have hK := hk.1
  have hE : tf_E g T := trivial
  obtain ⟨sq, im, ta, dh, lp, lh, yr, wh, ro, iz, kp, tm, dw, tt, uu, dd, gl, gh, gy, gw, tp, gd, rr, qq, rk, tq, gm, hsq, him, hta, hdh, hlp, hlh, hyr, hwh, hro, hiz, hkp, htm, hdw, htt, huu, hdd, hf0, hf1, hf2, hf3, hf4, hf5, hf6, hf7, hf8, hf9, hf10, hf11, hf12, hf13, hf14, hf15, hf16, hf17, hf18, hf19, hf20, hf21, hf22, hf23, hf24, hf25, hf26, hf27, hf28, hf29, hRL, hDD, hTP, hI0, hI1⟩ := hI
  have hWS : tf_WS gy gw := hRL.2.2
  refine lv_aload_n hx hb dL_law_1162 rfl (lv_at hl 2 rfl) ?_
  refine lv_aload_n hx hb dL_law_1163 rfl (lv_at hl 3 rfl) ?_
  refine lv_iload_n hx hb dL_law_1164 rfl (lv_at hl 0 rfl) ?_
  refine tf_iconst hx hb dL_law_1165 ?_
  refine tf_iadd hx hb dL_law_1166 ?_
  refine lw_sld (sx := sx) hx hb hX hbl hBs hL hW (by omega) (by omega) dL_law_1167 ?_
  have hsx1 := hsx (ii + 1)
  refine tf_calli (va_runV (As := [.int (Int32.ofInt ((sx (ii + 1))))]) (rest := []) ⟨hx, hb, hml, hown, hts⟩ (c_X9_least l g T ax hax ((sx (ii + 1))) ⟨by omega, by omega⟩ hE) (cwV 1 hts gv_L_132 rfl rfl rfl hd_X9_least ⟨Nat.le_trans (by decide) hR1, Nat.le_trans (by decide) hR2⟩) (tf_preV hk hW hax (ci := 9) rfl rfl trivial) rfl rfl hl.1 rfl (lv_room (Nat.le_of_ble_eq_true rfl)) dL_law_1168 ⟨Nat.le_trans (by omega) hR3, Nat.le_trans (by omega) hR4⟩) hW (by decide) (fun z2 H2 locs2 hW hF2 hp2 => ?_)
  have hs3 := tf_keepF hF2 hax rfl rfl (by decide) hf0
  have hs4 := tf_keepF hF2 hax rfl rfl (by decide) hf1
  have hs5 := tf_keepF hF2 hax rfl rfl (by decide) hf2
  have hs6 := tf_keepF hF2 hax rfl rfl (by decide) hf3
  have hs7 := tf_keepF hF2 hax rfl rfl (by decide) hf4
  have hs8 := tf_keepF hF2 hax rfl rfl (by decide) hf5
  have hs9 := tf_keepF hF2 hax rfl rfl (by decide) hf6
  have hs10 := tf_keepF hF2 hsq rfl rfl (by decide) hf7
  have hs11 := tf_keepF hF2 hsq rfl rfl (by decide) hf8
  have hs12 := tf_keepF hF2 hsq rfl rfl (by decide) hf9
  have hs13 := tf_keepF hF2 hsq rfl rfl (by decide) hf10
  have hs14 := tf_keepC hF2 hlp rfl (by decide) hf11
  have hs15 := tf_keepC hF2 hlh rfl (by decide) hf12
  have hs16 := tf_keepC hF2 hyr rfl (by decide) hf13
  have hs17 := tf_keepC hF2 hwh rfl (by decide) hf14
  have hs18 := tf_keepC hF2 hta rfl (by decide) hf15
  have hs19 := tf_keepC hF2 hdh rfl (by decide) hf16
  have hs20 := tf_keepF hF2 ham rfl rfl (by decide) hf17
  have hs21 := tf_keepF hF2 ham rfl rfl (by decide) hf18
  have hs22 := tf_keepF hF2 ham rfl rfl (by decide) hf19
  have hs23 := tf_keepF hF2 ham rfl rfl (by decide) hf20
  have hs24 := tf_keepF hF2 ham rfl rfl (by decide) hf21
  have hs25 := tf_keepF hF2 ham rfl rfl (by decide) hf22
  have hs26 := tf_keepF hF2 ham rfl rfl (by decide) hf23
  have hs27 := tf_keepF hF2 ham rfl rfl (by decide) hf24
  have hs28 := tf_keepC hF2 hro rfl (by decide) hf25
  have hs29 := tf_keepC hF2 hiz rfl (by decide) hf26
  have hs30 := tf_keepC hF2 hkp rfl (by decide) hf27
  have hs31 := tf_keepC hF2 htm rfl (by decide) hf28
  have hs32 := tf_keepC hF2 hdw rfl (by decide) hf29
  have hI0 := tf_IS1_keep hF2 him (by decide) (by decide) hI0
  have hI1 := tf_IS2_keep hF2 him (by decide) (by decide) hI1
  obtain ⟨hp2_0, hp2_1⟩ := hp2
  refine lv_pop hx hb dL_law_1171 rfl ?_
  refine lv_aload_n hx hb dL_law_1172 rfl (lv_at hl 1 rfl) ?_
  refine lv_aload_n hx hb dL_law_1173 rfl (lv_at hl 3 rfl) ?_
  refine lv_iload_n hx hb dL_law_1174 rfl (lv_at hl 0 rfl) ?_
  refine tf_iconst hx hb dL_law_1175 ?_
  refine tf_iadd hx hb dL_law_1176 ?_
  refine lw_sld (sx := sx) hx hb hX hbl hBs hL hW (by omega) (by omega) dL_law_1177 ?_
  have hsx33 := hsx (ii + 1)
  refine tf_calli (va_runV (As := [.int (Int32.ofInt ((sx (ii + 1))))]) (rest := []) ⟨hx, hb, hml, hown, hts⟩ (c_X10_least l g T am ham ((sx (ii + 1))) ⟨by omega, by omega⟩) (cwV 1 hts gv_L_135 rfl rfl rfl hd_X10_least ⟨Nat.le_trans (by decide) hR1, Nat.le_trans (by decide) hR2⟩) (tf_preV hk hW ham (ci := 10) rfl rfl trivial) rfl rfl hl.1 rfl (lv_room (Nat.le_of_ble_eq_true rfl)) dL_law_1178 ⟨Nat.le_trans (by omega) hR3, Nat.le_trans (by omega) hR4⟩) hW (by decide) (fun z34 H34 locs34 hW hF34 hp34 => ?_)
  have hs35 := tf_keepF hF34 hax rfl rfl (by decide) hs3
  have hs36 := tf_keepF hF34 hax rfl rfl (by decide) hs4
  have hs37 := tf_keepF hF34 hax rfl rfl (by decide) hs5
  have hs38 := tf_keepF hF34 hax rfl rfl (by decide) hs6
  have hs39 := tf_keepF hF34 hax rfl rfl (by decide) hs7
  have hs40 := tf_keepF hF34 hax rfl rfl (by decide) hs8
  have hs41 := tf_keepF hF34 hax rfl rfl (by decide) hs9
  have hs42 := tf_keepF hF34 hsq rfl rfl (by decide) hs10
  have hs43 := tf_keepF hF34 hsq rfl rfl (by decide) hs11
  have hs44 := tf_keepF hF34 hsq rfl rfl (by decide) hs12
  have hs45 := tf_keepF hF34 hsq rfl rfl (by decide) hs13
  have hs46 := tf_keepC hF34 hlp rfl (by decide) hs14
  have hs47 := tf_keepC hF34 hlh rfl (by decide) hs15
  have hs48 := tf_keepC hF34 hyr rfl (by decide) hs16
  have hs49 := tf_keepC hF34 hwh rfl (by decide) hs17
  have hs50 := tf_keepC hF34 hta rfl (by decide) hs18
  have hs51 := tf_keepC hF34 hdh rfl (by decide) hs19
  have hs52 := tf_keepF hF34 ham rfl rfl (by decide) hs20
  have hs53 := tf_keepF hF34 ham rfl rfl (by decide) hs21
  have hs54 := tf_keepF hF34 ham rfl rfl (by decide) hs22
  have hs55 := tf_keepF hF34 ham rfl rfl (by decide) hs23
  have hs56 := tf_keepF hF34 ham rfl rfl (by decide) hs24
  have hs57 := tf_keepF hF34 ham rfl rfl (by decide) hs25
  have hs58 := tf_keepF hF34 ham rfl rfl (by decide) hs26
  have hs59 := tf_keepF hF34 ham rfl rfl (by decide) hs27
  have hs60 := tf_keepC hF34 hro rfl (by decide) hs28
  have hs61 := tf_keepC hF34 hiz rfl (by decide) hs29
  have hs62 := tf_keepC hF34 hkp rfl (by decide) hs30
  have hs63 := tf_keepC hF34 htm rfl (by decide) hs31
  have hs64 := tf_keepC hF34 hdw rfl (by decide) hs32
  have hI0 := tf_IS1_keep hF34 him (by decide) (by decide) hI0
  have hI1 := tf_IS2_keep hF34 him (by decide) (by decide) hI1
  obtain ⟨hp34_0, hp34_1⟩ := hp34
  refine lv_pop hx hb dL_law_1181 rfl ?_
  refine lv_goto (tgt := 1498) hx hb dL_law_1182 (by decide) ?_
  refine W.widen (k := 130 + 30 * jj) (n := 31200 + 1200 * jj) (by omega) (by omega) ?_
  exact hnx _ _ _ hW hax ham ⟨sq, im, ta, dh, lp, lh, yr, wh, ro, iz, kp, tm, dw, (tt), (uu), (dd), gl, gh, gy, gw, tp, gd, rr, qq, rk, tq, gm, hsq, him, hta, hdh, hlp, hlh, hyr, hwh, hro, hiz, hkp, htm, hdw, ⟨by omega, by omega⟩, ⟨by omega, by omega⟩, ⟨by omega, by omega⟩, hs35, hs36, hs37, hs38, hs39, hs40, hs41, hs42, hs43, hs44, hs45, hs46, hs47, hs48, hs49, hs50, hs51, hs52, hs53, hs54, tf_eqv hs55 (by omega), hs56, tf_eqv hs57 (by omega), hs58, tf_eqv hs59 (by omega), hs60, hs61, hs62, hs63, hs64, hRL, hDD, hTP, hI0, hI1⟩ _ (lv_sub hl [0, 1, 2, 3] rfl)

set_option maxHeartbeats 4000000 in
set_option maxRecDepth 100000 in
theorem lc_1185 {p : Program} {l : Launch} {e : Env} {s : State} {m : MethodId} {below : List Frame} {meth : Method} {c : Code} {b L : Nat} {g : tf_G} {sx : Int → Int} {Q : State → Prop} (E : lw_E p s m c b L g sx) (ax am jj : Nat) (ii : Int) (hii : ii = 6 * (jj : Int)) (hij : ii + 6 ≤ (L : Int)) (hnx : lw_nx p l e s m below meth c b g ax am jj ii Q) (T : tf_T) (H : Heap) (locs : List Loc) (hW : tf_n tf_kt g M_law (fun _ => none) s.heap T H locs) (hax : T ax = some (39, 0)) (ham : T am = some (63, 0)) (hI : lw_I g T H ax am) (ls : Array Slot) (hl : lv_has ls 4 [(3, .int (Int32.ofInt ii)), (2, .ref am), (1, .ref ax), (0, .ref b)]) : W p l e room_1 s m #[Value.ref b] below meth c H locs (100 + 30 * jj) (30000 + 1200 * jj) Q (F0 m 1185 ls []) := by
  obtain ⟨hx, hb, hml, hown, hts, hbl, hk, hBs, hsx, hX, hL⟩ := id E
  have hR1 := lw_R1
  have hR2 := lw_R2
  have hR3 := lw_R3
  have hR4 := lw_R4
  have hK := hk.1
  have hE : tf_E g T := trivial
  obtain ⟨sq, im, ta, dh, lp, lh, yr, wh, ro, iz, kp, tm, dw, tt, uu, dd, gl, gh, gy, gw, tp, gd, rr, qq, rk, tq, gm, hsq, him, hta, hdh, hlp, hlh, hyr, hwh, hro, hiz, hkp, htm, hdw, htt, huu, hdd, hf0, hf1, hf2, hf3, hf4, hf5, hf6, hf7, hf8, hf9, hf10, hf11, hf12, hf13, hf14, hf15, hf16, hf17, hf18, hf19, hf20, hf21, hf22, hf23, hf24, hf25, hf26, hf27, hf28, hf29, hRL, hDD, hTP, hI0, hI1⟩ := hI
  have hWS : tf_WS gy gw := hRL.2.2
  refine lv_aload_n hx hb dL_law_1185 rfl (lv_at hl 2 rfl) ?_
  refine lv_aload_n hx hb dL_law_1186 rfl (lv_at hl 3 rfl) ?_
  refine lv_iload_n hx hb dL_law_1187 rfl (lv_at hl 0 rfl) ?_
  refine tf_iconst hx hb dL_law_1188 ?_
  refine tf_iadd hx hb dL_law_1189 ?_
  refine lw_sld (sx := sx) hx hb hX hbl hBs hL hW (by omega) (by omega) dL_law_1190 ?_
  have hsx1 := hsx (ii + 1)
  refine tf_calli (va_runV (As := [.int (Int32.ofInt ((sx (ii + 1))))]) (rest := []) ⟨hx, hb, hml, hown, hts⟩ (c_X9_build l g T ax hax ((sx (ii + 1))) ⟨by omega, by omega⟩ hE) (cwV 1 hts gv_L_136 rfl rfl rfl hd_X9_build ⟨Nat.le_trans (by decide) hR1, Nat.le_trans (by decide) hR2⟩) (tf_preV hk hW hax (ci := 9) rfl rfl trivial) rfl rfl hl.1 rfl (lv_room (Nat.le_of_ble_eq_true rfl)) dL_law_1191 ⟨Nat.le_trans (by omega) hR3, Nat.le_trans (by omega) hR4⟩) hW (by decide) (fun z2 H2 locs2 hW hF2 hp2 => ?_)
  have hs3 := tf_keepF hF2 hax rfl rfl (by decide) hf0
  have hs4 := tf_keepF hF2 hax rfl rfl (by decide) hf1
  have hs5 := tf_keepF hF2 hax rfl rfl (by decide) hf2
  have hs6 := tf_keepF hF2 hax rfl rfl (by decide) hf3
  have hs7 := tf_keepF hF2 hax rfl rfl (by decide) hf4
  have hs8 := tf_keepF hF2 hax rfl rfl (by decide) hf5
  have hs9 := tf_keepF hF2 hax rfl rfl (by decide) hf6
  have hs10 := tf_keepF hF2 hsq rfl rfl (by decide) hf7
  have hs11 := tf_keepF hF2 hsq rfl rfl (by decide) hf8
  have hs12 := tf_keepF hF2 hsq rfl rfl (by decide) hf9
  have hs13 := tf_keepF hF2 hsq rfl rfl (by decide) hf10
  have hs14 := tf_keepC hF2 hlp rfl (by decide) hf11
  have hs15 := tf_keepC hF2 hlh rfl (by decide) hf12
  have hs16 := tf_keepC hF2 hyr rfl (by decide) hf13
  have hs17 := tf_keepC hF2 hwh rfl (by decide) hf14
  have hs18 := tf_keepC hF2 hta rfl (by decide) hf15
  have hs19 := tf_keepC hF2 hdh rfl (by decide) hf16
  have hs20 := tf_keepF hF2 ham rfl rfl (by decide) hf17
  have hs21 := tf_keepF hF2 ham rfl rfl (by decide) hf18
  have hs22 := tf_keepF hF2 ham rfl rfl (by decide) hf19
  have hs23 := tf_keepF hF2 ham rfl rfl (by decide) hf20
  have hs24 := tf_keepF hF2 ham rfl rfl (by decide) hf21
  have hs25 := tf_keepF hF2 ham rfl rfl (by decide) hf22
  have hs26 := tf_keepF hF2 ham rfl rfl (by decide) hf23
  have hs27 := tf_keepF hF2 ham rfl rfl (by decide) hf24
  have hs28 := tf_keepC hF2 hro rfl (by decide) hf25
  have hs29 := tf_keepC hF2 hiz rfl (by decide) hf26
  have hs30 := tf_keepC hF2 hkp rfl (by decide) hf27
  have hs31 := tf_keepC hF2 htm rfl (by decide) hf28
  have hs32 := tf_keepC hF2 hdw rfl (by decide) hf29
  have hI0 := tf_IS1_keep hF2 him (by decide) (by decide) hI0
  have hI1 := tf_IS2_keep hF2 him (by decide) (by decide) hI1
  obtain ⟨hp2_0, hp2_1⟩ := hp2
  refine lv_pop hx hb dL_law_1194 rfl ?_
  refine lv_aload_n hx hb dL_law_1195 rfl (lv_at hl 1 rfl) ?_
  refine lv_aload_n hx hb dL_law_1196 rfl (lv_at hl 3 rfl) ?_
  refine lv_iload_n hx hb dL_law_1197 rfl (lv_at hl 0 rfl) ?_
  refine tf_iconst hx hb dL_law_1198 ?_
  refine tf_iadd hx hb dL_law_1199 ?_
  refine lw_sld (sx := sx) hx hb hX hbl hBs hL hW (by omega) (by omega) dL_law_1200 ?_
  have hsx33 := hsx (ii + 1)
  refine tf_calli (va_runV (As := [.int (Int32.ofInt ((sx (ii + 1))))]) (rest := []) ⟨hx, hb, hml, hown, hts⟩ (c_X10_build l g T am ham ((sx (ii + 1))) ⟨by omega, by omega⟩ ro hro rr) (cwV 1 hts gv_L_139 rfl rfl rfl hd_X10_build ⟨Nat.le_trans (by decide) hR1, Nat.le_trans (by decide) hR2⟩) (tf_preV hk hW ham (ci := 10) rfl rfl ⟨hs20, hs28⟩) rfl rfl hl.1 rfl (lv_room (Nat.le_of_ble_eq_true rfl)) dL_law_1201 ⟨Nat.le_trans (by omega) hR3, Nat.le_trans (by omega) hR4⟩) hW (by decide) (fun z34 H34 locs34 hW hF34 hp34 => ?_)
  have hs35 := tf_keepF hF34 hax rfl rfl (by decide) hs3
  have hs36 := tf_keepF hF34 hax rfl rfl (by decide) hs4
  have hs37 := tf_keepF hF34 hax rfl rfl (by decide) hs5
  have hs38 := tf_keepF hF34 hax rfl rfl (by decide) hs6
  have hs39 := tf_keepF hF34 hax rfl rfl (by decide) hs7
  have hs40 := tf_keepF hF34 hax rfl rfl (by decide) hs8
  have hs41 := tf_keepF hF34 hax rfl rfl (by decide) hs9
  have hs42 := tf_keepF hF34 hsq rfl rfl (by decide) hs10
  have hs43 := tf_keepF hF34 hsq rfl rfl (by decide) hs11
  have hs44 := tf_keepF hF34 hsq rfl rfl (by decide) hs12
  have hs45 := tf_keepF hF34 hsq rfl rfl (by decide) hs13
  have hs46 := tf_keepC hF34 hlp rfl (by decide) hs14
  have hs47 := tf_keepC hF34 hlh rfl (by decide) hs15
  have hs48 := tf_keepC hF34 hyr rfl (by decide) hs16
  have hs49 := tf_keepC hF34 hwh rfl (by decide) hs17
  have hs50 := tf_keepC hF34 hta rfl (by decide) hs18
  have hs51 := tf_keepC hF34 hdh rfl (by decide) hs19
  have hs52 := tf_keepF hF34 ham rfl rfl (by decide) hs20
  have hs53 := tf_keepF hF34 ham rfl rfl (by decide) hs21
  have hs54 := tf_keepF hF34 ham rfl rfl (by decide) hs22
  have hs55 := tf_keepF hF34 ham rfl rfl (by decide) hs23
  have hs56 := tf_keepF hF34 ham rfl rfl (by decide) hs24
  have hs57 := tf_keepF hF34 ham rfl rfl (by decide) hs25
  have hs58 := tf_keepF hF34 ham rfl rfl (by decide) hs26
  have hs59 := tf_keepF hF34 ham rfl rfl (by decide) hs27
  have hs60 := tf_keepC hF34 hiz rfl (by decide) hs29
  have hs61 := tf_keepC hF34 hkp rfl (by decide) hs30
  have hs62 := tf_keepC hF34 htm rfl (by decide) hs31
  have hs63 := tf_keepC hF34 hdw rfl (by decide) hs32
  have hI0 := tf_IS1_keep hF34 him (by decide) (by decide) hI0
  have hI1 := tf_IS2_keep hF34 him (by decide) (by decide) hI1
  obtain ⟨hp34_0, hp34_1, hp34_2⟩ := hp34
  obtain ⟨r1_34, hX34_0, hR34_0⟩ := hp34_2
  have hRL := tf_RL_kp hRL hR34_0
  refine lv_pop hx hb dL_law_1204 rfl ?_
  refine lv_goto (tgt := 1498) hx hb dL_law_1205 (by decide) ?_
  refine W.widen (k := 130 + 30 * jj) (n := 31200 + 1200 * jj) (by omega) (by omega) ?_
  exact hnx _ _ _ hW hax ham ⟨sq, im, ta, dh, lp, lh, yr, wh, ro, iz, kp, tm, dw, (tt), (uu), (dd), gl, gh, gy, gw, tp, gd, r1_34, qq, rk, tq, gm, hsq, him, hta, hdh, hlp, hlh, hyr, hwh, hro, hiz, hkp, htm, hdw, ⟨by omega, by omega⟩, ⟨by omega, by omega⟩, ⟨by omega, by omega⟩, hs35, hs36, hs37, hs38, hs39, hs40, hs41, hs42, hs43, hs44, hs45, hs46, hs47, hs48, hs49, hs50, hs51, hs52, hs53, hs54, tf_eqv hs55 (by omega), hs56, tf_eqv hs57 (by omega), hs58, tf_eqv hs59 (by omega), hX34_0, hs60, hs61, hs62, hs63, hRL, hDD, hTP, hI0, hI1⟩ _ (lv_sub hl [0, 1, 2, 3] rfl)

set_option maxHeartbeats 4000000 in
set_option maxRecDepth 100000 in
theorem lc_828 {p : Program} {l : Launch} {e : Env} {s : State} {m : MethodId} {below : List Frame} {meth : Method} {c : Code} {b L : Nat} {g : tf_G} {sx : Int → Int} {Q : State → Prop} (E : lw_E p s m c b L g sx) (ax am im kp jj : Nat) (ii : Int) (hii : ii = 6 * (jj : Int)) (hij : ii + 6 ≤ (L : Int)) (hnx : lw_nx p l e s m below meth c b g ax am im kp jj ii Q) (T : tf_T) (H : Heap) (locs : List Loc) (hW : tf_n tf_kt g M_law (fun _ => none) s.heap T H locs) (hax : T ax = some (26, 0)) (ham : T am = some (50, 0)) (tt uu : Int) (htt : 0 ≤ tt ∧ tt ≤ 400) (huu : tf_r uu) (hf0 : tf_s H ax (g.1.2 9 7) = some (.int (Int32.ofInt tt))) (hf1 : tf_s H ax (g.1.2 9 8) = some (.int (Int32.ofInt uu))) (hf2 : tf_s H am (g.1.2 10 8) = some (.int (Int32.ofInt tt))) (hf3 : tf_s H am (g.1.2 10 6) = some (.int (Int32.ofInt uu))) (him : T im = some (14, 2)) (hkp : T kp = some (30, 2)) (rn rk : Int → Int) (hr0 : rn 0 = rk 0) (hr1 : rn 1 = rk 1) (hf4 : tf_s H ax (g.1.2 9 1) = some (.ref im)) (hf5 : tf_s H am (g.1.2 10 5) = some (.ref kp)) (hf6 : tf_nl H im = rn) (hf7 : tf_rw H kp = rk) (ls : Array Slot) (hl : lv_has ls 4 [(3, .int (Int32.ofInt ii)), (2, .ref am), (1, .ref ax), (0, .ref b)]) : W p l e room_1 s m #[Value.ref b] below meth c H locs (100 + 30 * jj) (30000 + 1200 * jj) Q (F0 m 828 ls []) := by
  obtain ⟨hx, hb, hml, hown, hts, hbl, hk, hBs, hsx, hX, hL⟩ := id E
  have hR1 := lw_R1
  have hR2 := lw_R2
  have hR3 := lw_R3
  have hR4 := lw_R4
  have hK := hk.1
  have hE : tf_E g T := trivial
  refine lv_aload_n hx hb dL_law_828 rfl (lv_at hl 2 rfl) ?_
  refine lv_aload_n hx hb dL_law_829 rfl (lv_at hl 3 rfl) ?_
  refine lv_iload_n hx hb dL_law_830 rfl (lv_at hl 0 rfl) ?_
  refine tf_iconst hx hb dL_law_831 ?_
  refine tf_iadd hx hb dL_law_832 ?_
  refine lw_sld (sx := sx) hx hb hX hbl hBs hL hW (by omega) (by omega) dL_law_833 ?_
  have hsx1 := hsx (ii + 1)
  refine tf_calll (va_runV (As := [.int (Int32.ofInt ((sx (ii + 1))))]) (rest := []) ⟨hx, hb, hml, hown, hts⟩ (c_X9_share l g T ax hax ((sx (ii + 1))) ⟨by omega, by omega⟩ hE) (cwV 1 hts gv_L_98 rfl rfl rfl hd_X9_share ⟨Nat.le_trans (by decide) hR1, Nat.le_trans (by decide) hR2⟩) (tf_preV hk hW hax (ci := 9) rfl rfl trivial) rfl rfl hl.1 rfl (lv_room (Nat.le_of_ble_eq_true rfl)) dL_law_834 ⟨Nat.le_trans (by omega) hR3, Nat.le_trans (by omega) hR4⟩) hW (by decide) (fun z2 H2 locs2 hW hF2 hp2 => ?_)
  have hs3 := tf_keepF hF2 hax rfl rfl (by decide) hf0
  have hs4 := tf_keepF hF2 hax rfl rfl (by decide) hf1
  have hs5 := tf_keepF hF2 ham rfl rfl (by decide) hf2
  have hs6 := tf_keepF hF2 ham rfl rfl (by decide) hf3
  have hs7 := tf_keepF hF2 hax rfl rfl (by decide) hf4
  have hs8 := tf_keepF hF2 ham rfl rfl (by decide) hf5
  have hs9 := tf_keepN hF2 him rfl (by decide) hf6
  have hs10 := tf_keepC hF2 hkp rfl (by decide) hf7
  obtain ⟨hp2_0, hp2_1⟩ := hp2
  refine lv_pop2_2 hx hb dL_law_837 rfl ?_
  refine lv_aload_n hx hb dL_law_838 rfl (lv_at hl 1 rfl) ?_
  refine lv_aload_n hx hb dL_law_839 rfl (lv_at hl 3 rfl) ?_
  refine lv_iload_n hx hb dL_law_840 rfl (lv_at hl 0 rfl) ?_
  refine tf_iconst hx hb dL_law_841 ?_
  refine tf_iadd hx hb dL_law_842 ?_
  refine lw_sld (sx := sx) hx hb hX hbl hBs hL hW (by omega) (by omega) dL_law_843 ?_
  have hsx11 := hsx (ii + 1)
  refine tf_calll (va_runV (As := [.int (Int32.ofInt ((sx (ii + 1))))]) (rest := []) ⟨hx, hb, hml, hown, hts⟩ (c_X10_share l g T am ham ((sx (ii + 1))) ⟨by omega, by omega⟩) (cwV 1 hts gv_L_102 rfl rfl rfl hd_X10_share ⟨Nat.le_trans (by decide) hR1, Nat.le_trans (by decide) hR2⟩) (tf_preV hk hW ham (ci := 10) rfl rfl trivial) rfl rfl hl.1 rfl (lv_room (Nat.le_of_ble_eq_true rfl)) dL_law_844 ⟨Nat.le_trans (by omega) hR3, Nat.le_trans (by omega) hR4⟩) hW (by decide) (fun z12 H12 locs12 hW hF12 hp12 => ?_)
  have hs13 := tf_keepF hF12 hax rfl rfl (by decide) hs3
  have hs14 := tf_keepF hF12 hax rfl rfl (by decide) hs4
  have hs15 := tf_keepF hF12 ham rfl rfl (by decide) hs5
  have hs16 := tf_keepF hF12 ham rfl rfl (by decide) hs6
  have hs17 := tf_keepF hF12 hax rfl rfl (by decide) hs7
  have hs18 := tf_keepF hF12 ham rfl rfl (by decide) hs8
  have hs19 := tf_keepN hF12 him rfl (by decide) hs9
  have hs20 := tf_keepC hF12 hkp rfl (by decide) hs10
  obtain ⟨hp12_0, hp12_1⟩ := hp12
  refine lv_pop2_2 hx hb dL_law_847 rfl ?_
  refine lv_goto (tgt := 1498) hx hb dL_law_848 (by decide) ?_
  refine W.widen (k := 130 + 30 * jj) (n := 31200 + 1200 * jj) (by omega) (by omega) ?_
  exact hnx _ _ _ hW hax ham (tt) (uu) ⟨by omega, by omega⟩ ⟨by omega, by omega⟩ hs13 hs14 (tf_eqv hs15 (by omega)) (tf_eqv hs16 (by omega)) him hkp rn rk (by omega) (by omega) hs17 hs18 hs19 hs20 _ (lv_sub hl [0, 1, 2, 3] rfl)

set_option maxHeartbeats 4000000 in
set_option maxRecDepth 100000 in
theorem lc_851 {p : Program} {l : Launch} {e : Env} {s : State} {m : MethodId} {below : List Frame} {meth : Method} {c : Code} {b L : Nat} {g : tf_G} {sx : Int → Int} {Q : State → Prop} (E : lw_E p s m c b L g sx) (ax am im kp jj : Nat) (ii : Int) (hii : ii = 6 * (jj : Int)) (hij : ii + 6 ≤ (L : Int)) (hnx : lw_nx p l e s m below meth c b g ax am im kp jj ii Q) (T : tf_T) (H : Heap) (locs : List Loc) (hW : tf_n tf_kt g M_law (fun _ => none) s.heap T H locs) (hax : T ax = some (26, 0)) (ham : T am = some (50, 0)) (tt uu : Int) (htt : 0 ≤ tt ∧ tt ≤ 400) (huu : tf_r uu) (hf0 : tf_s H ax (g.1.2 9 7) = some (.int (Int32.ofInt tt))) (hf1 : tf_s H ax (g.1.2 9 8) = some (.int (Int32.ofInt uu))) (hf2 : tf_s H am (g.1.2 10 8) = some (.int (Int32.ofInt tt))) (hf3 : tf_s H am (g.1.2 10 6) = some (.int (Int32.ofInt uu))) (him : T im = some (14, 2)) (hkp : T kp = some (30, 2)) (rn rk : Int → Int) (hr0 : rn 0 = rk 0) (hr1 : rn 1 = rk 1) (hf4 : tf_s H ax (g.1.2 9 1) = some (.ref im)) (hf5 : tf_s H am (g.1.2 10 5) = some (.ref kp)) (hf6 : tf_nl H im = rn) (hf7 : tf_rw H kp = rk) (ls : Array Slot) (hl : lv_has ls 4 [(3, .int (Int32.ofInt ii)), (2, .ref am), (1, .ref ax), (0, .ref b)]) : W p l e room_1 s m #[Value.ref b] below meth c H locs (100 + 30 * jj) (30000 + 1200 * jj) Q (F0 m 851 ls []) := by
  obtain ⟨hx, hb, hml, hown, hts, hbl, hk, hBs, hsx, hX, hL⟩ := id E
  have hR1 := lw_R1
  have hR2 := lw_R2
  have hR3 := lw_R3
  have hR4 := lw_R4
  have hK := hk.1
  have hE : tf_E g T := trivial
  refine lv_aload_n hx hb dL_law_851 rfl (lv_at hl 2 rfl) ?_
  refine lv_aload_n hx hb dL_law_852 rfl (lv_at hl 3 rfl) ?_
  refine lv_iload_n hx hb dL_law_853 rfl (lv_at hl 0 rfl) ?_
  refine tf_iconst hx hb dL_law_854 ?_
  refine tf_iadd hx hb dL_law_855 ?_
  refine lw_sld (sx := sx) hx hb hX hbl hBs hL hW (by omega) (by omega) dL_law_856 ?_
  have hsx1 := hsx (ii + 1)
  refine lv_aload_n hx hb dL_law_857 rfl (lv_at hl 3 rfl) ?_
  refine lv_iload_n hx hb dL_law_858 rfl (lv_at hl 0 rfl) ?_
  refine tf_iconst hx hb dL_law_859 ?_
  refine tf_iadd hx hb dL_law_860 ?_
  refine lw_sld (sx := sx) hx hb hX hbl hBs hL hW (by omega) (by omega) dL_law_861 ?_
  have hsx2 := hsx (ii + 2)
  refine lv_aload_n hx hb dL_law_862 rfl (lv_at hl 3 rfl) ?_
  refine lv_iload_n hx hb dL_law_863 rfl (lv_at hl 0 rfl) ?_
  refine tf_iconst hx hb dL_law_864 ?_
  refine tf_iadd hx hb dL_law_865 ?_
  refine lw_sld (sx := sx) hx hb hX hbl hBs hL hW (by omega) (by omega) dL_law_866 ?_
  have hsx3 := hsx (ii + 3)
  refine lv_aload_n hx hb dL_law_867 rfl (lv_at hl 3 rfl) ?_
  refine lv_iload_n hx hb dL_law_868 rfl (lv_at hl 0 rfl) ?_
  refine tf_iconst hx hb dL_law_869 ?_
  refine tf_iadd hx hb dL_law_870 ?_
  refine lw_sld (sx := sx) hx hb hX hbl hBs hL hW (by omega) (by omega) dL_law_871 ?_
  have hsx4 := hsx (ii + 4)
  refine lv_aload_n hx hb dL_law_872 rfl (lv_at hl 3 rfl) ?_
  refine lv_iload_n hx hb dL_law_873 rfl (lv_at hl 0 rfl) ?_
  refine tf_iconst hx hb dL_law_874 ?_
  refine tf_iadd hx hb dL_law_875 ?_
  refine lw_sld (sx := sx) hx hb hX hbl hBs hL hW (by omega) (by omega) dL_law_876 ?_
  have hsx5 := hsx (ii + 5)
  refine tf_calli (va_runV (As := [.int (Int32.ofInt ((sx (ii + 1)))), .int (Int32.ofInt ((sx (ii + 2)))), .int (Int32.ofInt ((sx (ii + 3)))), .int (Int32.ofInt ((sx (ii + 4)))), .int (Int32.ofInt ((sx (ii + 5))))]) (rest := []) ⟨hx, hb, hml, hown, hts⟩ (c_X9_ahead l g T ax hax ((sx (ii + 1))) ⟨by omega, by omega⟩ ((sx (ii + 2))) ⟨by omega, by omega⟩ ((sx (ii + 3))) ⟨by omega, by omega⟩ ((sx (ii + 4))) ⟨by omega, by omega⟩ ((sx (ii + 5))) ⟨by omega, by omega⟩ hE) (cwV 5 hts gv_L_103 rfl rfl rfl hd_X9_ahead ⟨Nat.le_trans (by decide) hR1, Nat.le_trans (by decide) hR2⟩) (tf_preV hk hW hax (ci := 9) rfl rfl trivial) rfl rfl hl.1 rfl (lv_room (Nat.le_of_ble_eq_true rfl)) dL_law_877 ⟨Nat.le_trans (by omega) hR3, Nat.le_trans (by omega) hR4⟩) hW (by decide) (fun z6 H6 locs6 hW hF6 hp6 => ?_)
  have hs7 := tf_keepF hF6 hax rfl rfl (by decide) hf0
  have hs8 := tf_keepF hF6 hax rfl rfl (by decide) hf1
  have hs9 := tf_keepF hF6 ham rfl rfl (by decide) hf2
  have hs10 := tf_keepF hF6 ham rfl rfl (by decide) hf3
  have hs11 := tf_keepF hF6 hax rfl rfl (by decide) hf4
  have hs12 := tf_keepF hF6 ham rfl rfl (by decide) hf5
  have hs13 := tf_keepN hF6 him rfl (by decide) hf6
  have hs14 := tf_keepC hF6 hkp rfl (by decide) hf7
  obtain ⟨hp6_0, hp6_1⟩ := hp6
  refine lv_pop hx hb dL_law_880 rfl ?_
  refine lv_aload_n hx hb dL_law_881 rfl (lv_at hl 1 rfl) ?_
  refine lv_aload_n hx hb dL_law_882 rfl (lv_at hl 3 rfl) ?_
  refine lv_iload_n hx hb dL_law_883 rfl (lv_at hl 0 rfl) ?_
  refine tf_iconst hx hb dL_law_884 ?_
  refine tf_iadd hx hb dL_law_885 ?_
  refine lw_sld (sx := sx) hx hb hX hbl hBs hL hW (by omega) (by omega) dL_law_886 ?_
  have hsx15 := hsx (ii + 1)
  refine lv_aload_n hx hb dL_law_887 rfl (lv_at hl 3 rfl) ?_
  refine lv_iload_n hx hb dL_law_888 rfl (lv_at hl 0 rfl) ?_
  refine tf_iconst hx hb dL_law_889 ?_
  refine tf_iadd hx hb dL_law_890 ?_
  refine lw_sld (sx := sx) hx hb hX hbl hBs hL hW (by omega) (by omega) dL_law_891 ?_
  have hsx16 := hsx (ii + 2)
  refine lv_aload_n hx hb dL_law_892 rfl (lv_at hl 3 rfl) ?_
  refine lv_iload_n hx hb dL_law_893 rfl (lv_at hl 0 rfl) ?_
  refine tf_iconst hx hb dL_law_894 ?_
  refine tf_iadd hx hb dL_law_895 ?_
  refine lw_sld (sx := sx) hx hb hX hbl hBs hL hW (by omega) (by omega) dL_law_896 ?_
  have hsx17 := hsx (ii + 3)
  refine lv_aload_n hx hb dL_law_897 rfl (lv_at hl 3 rfl) ?_
  refine lv_iload_n hx hb dL_law_898 rfl (lv_at hl 0 rfl) ?_
  refine tf_iconst hx hb dL_law_899 ?_
  refine tf_iadd hx hb dL_law_900 ?_
  refine lw_sld (sx := sx) hx hb hX hbl hBs hL hW (by omega) (by omega) dL_law_901 ?_
  have hsx18 := hsx (ii + 4)
  refine lv_aload_n hx hb dL_law_902 rfl (lv_at hl 3 rfl) ?_
  refine lv_iload_n hx hb dL_law_903 rfl (lv_at hl 0 rfl) ?_
  refine tf_iconst hx hb dL_law_904 ?_
  refine tf_iadd hx hb dL_law_905 ?_
  refine lw_sld (sx := sx) hx hb hX hbl hBs hL hW (by omega) (by omega) dL_law_906 ?_
  have hsx19 := hsx (ii + 5)
  refine tf_calli (va_runV (As := [.int (Int32.ofInt ((sx (ii + 1)))), .int (Int32.ofInt ((sx (ii + 2)))), .int (Int32.ofInt ((sx (ii + 3)))), .int (Int32.ofInt ((sx (ii + 4)))), .int (Int32.ofInt ((sx (ii + 5))))]) (rest := []) ⟨hx, hb, hml, hown, hts⟩ (c_X10_ahead l g T am ham ((sx (ii + 1))) ⟨by omega, by omega⟩ ((sx (ii + 2))) ⟨by omega, by omega⟩ ((sx (ii + 3))) ⟨by omega, by omega⟩ ((sx (ii + 4))) ⟨by omega, by omega⟩ ((sx (ii + 5))) ⟨by omega, by omega⟩) (cwV 5 hts gv_L_106 rfl rfl rfl hd_X10_ahead ⟨Nat.le_trans (by decide) hR1, Nat.le_trans (by decide) hR2⟩) (tf_preV hk hW ham (ci := 10) rfl rfl trivial) rfl rfl hl.1 rfl (lv_room (Nat.le_of_ble_eq_true rfl)) dL_law_907 ⟨Nat.le_trans (by omega) hR3, Nat.le_trans (by omega) hR4⟩) hW (by decide) (fun z20 H20 locs20 hW hF20 hp20 => ?_)
  have hs21 := tf_keepF hF20 hax rfl rfl (by decide) hs7
  have hs22 := tf_keepF hF20 hax rfl rfl (by decide) hs8
  have hs23 := tf_keepF hF20 ham rfl rfl (by decide) hs9
  have hs24 := tf_keepF hF20 ham rfl rfl (by decide) hs10
  have hs25 := tf_keepF hF20 hax rfl rfl (by decide) hs11
  have hs26 := tf_keepF hF20 ham rfl rfl (by decide) hs12
  have hs27 := tf_keepN hF20 him rfl (by decide) hs13
  have hs28 := tf_keepC hF20 hkp rfl (by decide) hs14
  obtain ⟨hp20_0, hp20_1⟩ := hp20
  refine lv_pop hx hb dL_law_910 rfl ?_
  refine lv_goto (tgt := 1498) hx hb dL_law_911 (by decide) ?_
  refine W.widen (k := 130 + 30 * jj) (n := 31200 + 1200 * jj) (by omega) (by omega) ?_
  exact hnx _ _ _ hW hax ham (tt) (uu) ⟨by omega, by omega⟩ ⟨by omega, by omega⟩ hs21 hs22 (tf_eqv hs23 (by omega)) (tf_eqv hs24 (by omega)) him hkp rn rk (by omega) (by omega) hs25 hs26 hs27 hs28 _ (lv_sub hl [0, 1, 2, 3] rfl)

set_option maxHeartbeats 4000000 in
set_option maxRecDepth 100000 in
theorem lc_914 {p : Program} {l : Launch} {e : Env} {s : State} {m : MethodId} {below : List Frame} {meth : Method} {c : Code} {b L : Nat} {g : tf_G} {sx : Int → Int} {Q : State → Prop} (E : lw_E p s m c b L g sx) (ax am im kp jj : Nat) (ii : Int) (hii : ii = 6 * (jj : Int)) (hij : ii + 6 ≤ (L : Int)) (hnx : lw_nx p l e s m below meth c b g ax am im kp jj ii Q) (T : tf_T) (H : Heap) (locs : List Loc) (hW : tf_n tf_kt g M_law (fun _ => none) s.heap T H locs) (hax : T ax = some (26, 0)) (ham : T am = some (50, 0)) (tt uu : Int) (htt : 0 ≤ tt ∧ tt ≤ 400) (huu : tf_r uu) (hf0 : tf_s H ax (g.1.2 9 7) = some (.int (Int32.ofInt tt))) (hf1 : tf_s H ax (g.1.2 9 8) = some (.int (Int32.ofInt uu))) (hf2 : tf_s H am (g.1.2 10 8) = some (.int (Int32.ofInt tt))) (hf3 : tf_s H am (g.1.2 10 6) = some (.int (Int32.ofInt uu))) (him : T im = some (14, 2)) (hkp : T kp = some (30, 2)) (rn rk : Int → Int) (hr0 : rn 0 = rk 0) (hr1 : rn 1 = rk 1) (hf4 : tf_s H ax (g.1.2 9 1) = some (.ref im)) (hf5 : tf_s H am (g.1.2 10 5) = some (.ref kp)) (hf6 : tf_nl H im = rn) (hf7 : tf_rw H kp = rk) (ls : Array Slot) (hl : lv_has ls 4 [(3, .int (Int32.ofInt ii)), (2, .ref am), (1, .ref ax), (0, .ref b)]) : W p l e room_1 s m #[Value.ref b] below meth c H locs (100 + 30 * jj) (30000 + 1200 * jj) Q (F0 m 914 ls []) := by
  obtain ⟨hx, hb, hml, hown, hts, hbl, hk, hBs, hsx, hX, hL⟩ := id E
  have hR1 := lw_R1
  have hR2 := lw_R2
  have hR3 := lw_R3
  have hR4 := lw_R4
  have hK := hk.1
  have hE : tf_E g T := trivial
  refine lv_aload_n hx hb dL_law_914 rfl (lv_at hl 2 rfl) ?_
  refine lv_aload_n hx hb dL_law_915 rfl (lv_at hl 3 rfl) ?_
  refine lv_iload_n hx hb dL_law_916 rfl (lv_at hl 0 rfl) ?_
  refine tf_iconst hx hb dL_law_917 ?_
  refine tf_iadd hx hb dL_law_918 ?_
  refine lw_sld (sx := sx) hx hb hX hbl hBs hL hW (by omega) (by omega) dL_law_919 ?_
  have hsx1 := hsx (ii + 1)
  refine lv_aload_n hx hb dL_law_920 rfl (lv_at hl 3 rfl) ?_
  refine lv_iload_n hx hb dL_law_921 rfl (lv_at hl 0 rfl) ?_
  refine tf_iconst hx hb dL_law_922 ?_
  refine tf_iadd hx hb dL_law_923 ?_
  refine lw_sld (sx := sx) hx hb hX hbl hBs hL hW (by omega) (by omega) dL_law_924 ?_
  have hsx2 := hsx (ii + 2)
  refine lv_aload_n hx hb dL_law_925 rfl (lv_at hl 3 rfl) ?_
  refine lv_iload_n hx hb dL_law_926 rfl (lv_at hl 0 rfl) ?_
  refine tf_iconst hx hb dL_law_927 ?_
  refine tf_iadd hx hb dL_law_928 ?_
  refine lw_sld (sx := sx) hx hb hX hbl hBs hL hW (by omega) (by omega) dL_law_929 ?_
  have hsx3 := hsx (ii + 3)
  refine lv_aload_n hx hb dL_law_930 rfl (lv_at hl 3 rfl) ?_
  refine lv_iload_n hx hb dL_law_931 rfl (lv_at hl 0 rfl) ?_
  refine tf_iconst hx hb dL_law_932 ?_
  refine tf_iadd hx hb dL_law_933 ?_
  refine lw_sld (sx := sx) hx hb hX hbl hBs hL hW (by omega) (by omega) dL_law_934 ?_
  have hsx4 := hsx (ii + 4)
  refine tf_calli (va_runV (As := [.int (Int32.ofInt ((sx (ii + 1)))), .int (Int32.ofInt ((sx (ii + 2)))), .int (Int32.ofInt ((sx (ii + 3)))), .int (Int32.ofInt ((sx (ii + 4))))]) (rest := []) ⟨hx, hb, hml, hown, hts⟩ (c_X9_site l g T ax hax ((sx (ii + 1))) ⟨by omega, by omega⟩ ((sx (ii + 2))) ⟨by omega, by omega⟩ ((sx (ii + 3))) ⟨by omega, by omega⟩ ((sx (ii + 4))) ⟨by omega, by omega⟩ hE) (cwV 4 hts gv_L_107 rfl rfl rfl hd_X9_site ⟨Nat.le_trans (by decide) hR1, Nat.le_trans (by decide) hR2⟩) (tf_preV hk hW hax (ci := 9) rfl rfl trivial) rfl rfl hl.1 rfl (lv_room (Nat.le_of_ble_eq_true rfl)) dL_law_935 ⟨Nat.le_trans (by omega) hR3, Nat.le_trans (by omega) hR4⟩) hW (by decide) (fun z5 H5 locs5 hW hF5 hp5 => ?_)
  have hs6 := tf_keepF hF5 hax rfl rfl (by decide) hf0
  have hs7 := tf_keepF hF5 hax rfl rfl (by decide) hf1
  have hs8 := tf_keepF hF5 ham rfl rfl (by decide) hf2
  have hs9 := tf_keepF hF5 ham rfl rfl (by decide) hf3
  have hs10 := tf_keepF hF5 hax rfl rfl (by decide) hf4
  have hs11 := tf_keepF hF5 ham rfl rfl (by decide) hf5
  have hs12 := tf_keepN hF5 him rfl (by decide) hf6
  have hs13 := tf_keepC hF5 hkp rfl (by decide) hf7
  obtain ⟨hp5_0, hp5_1⟩ := hp5
  refine lv_pop hx hb dL_law_938 rfl ?_
  refine lv_aload_n hx hb dL_law_939 rfl (lv_at hl 1 rfl) ?_
  refine lv_aload_n hx hb dL_law_940 rfl (lv_at hl 3 rfl) ?_
  refine lv_iload_n hx hb dL_law_941 rfl (lv_at hl 0 rfl) ?_
  refine tf_iconst hx hb dL_law_942 ?_
  refine tf_iadd hx hb dL_law_943 ?_
  refine lw_sld (sx := sx) hx hb hX hbl hBs hL hW (by omega) (by omega) dL_law_944 ?_
  have hsx14 := hsx (ii + 1)
  refine lv_aload_n hx hb dL_law_945 rfl (lv_at hl 3 rfl) ?_
  refine lv_iload_n hx hb dL_law_946 rfl (lv_at hl 0 rfl) ?_
  refine tf_iconst hx hb dL_law_947 ?_
  refine tf_iadd hx hb dL_law_948 ?_
  refine lw_sld (sx := sx) hx hb hX hbl hBs hL hW (by omega) (by omega) dL_law_949 ?_
  have hsx15 := hsx (ii + 2)
  refine lv_aload_n hx hb dL_law_950 rfl (lv_at hl 3 rfl) ?_
  refine lv_iload_n hx hb dL_law_951 rfl (lv_at hl 0 rfl) ?_
  refine tf_iconst hx hb dL_law_952 ?_
  refine tf_iadd hx hb dL_law_953 ?_
  refine lw_sld (sx := sx) hx hb hX hbl hBs hL hW (by omega) (by omega) dL_law_954 ?_
  have hsx16 := hsx (ii + 3)
  refine lv_aload_n hx hb dL_law_955 rfl (lv_at hl 3 rfl) ?_
  refine lv_iload_n hx hb dL_law_956 rfl (lv_at hl 0 rfl) ?_
  refine tf_iconst hx hb dL_law_957 ?_
  refine tf_iadd hx hb dL_law_958 ?_
  refine lw_sld (sx := sx) hx hb hX hbl hBs hL hW (by omega) (by omega) dL_law_959 ?_
  have hsx17 := hsx (ii + 4)
  refine tf_calli (va_runV (As := [.int (Int32.ofInt ((sx (ii + 1)))), .int (Int32.ofInt ((sx (ii + 2)))), .int (Int32.ofInt ((sx (ii + 3)))), .int (Int32.ofInt ((sx (ii + 4))))]) (rest := []) ⟨hx, hb, hml, hown, hts⟩ (c_X10_site l g T am ham ((sx (ii + 1))) ⟨by omega, by omega⟩ ((sx (ii + 2))) ⟨by omega, by omega⟩ ((sx (ii + 3))) ⟨by omega, by omega⟩ ((sx (ii + 4))) ⟨by omega, by omega⟩) (cwV 4 hts gv_L_111 rfl rfl rfl hd_X10_site ⟨Nat.le_trans (by decide) hR1, Nat.le_trans (by decide) hR2⟩) (tf_preV hk hW ham (ci := 10) rfl rfl trivial) rfl rfl hl.1 rfl (lv_room (Nat.le_of_ble_eq_true rfl)) dL_law_960 ⟨Nat.le_trans (by omega) hR3, Nat.le_trans (by omega) hR4⟩) hW (by decide) (fun z18 H18 locs18 hW hF18 hp18 => ?_)
  have hs19 := tf_keepF hF18 hax rfl rfl (by decide) hs6
  have hs20 := tf_keepF hF18 hax rfl rfl (by decide) hs7
  have hs21 := tf_keepF hF18 ham rfl rfl (by decide) hs8
  have hs22 := tf_keepF hF18 ham rfl rfl (by decide) hs9
  have hs23 := tf_keepF hF18 hax rfl rfl (by decide) hs10
  have hs24 := tf_keepF hF18 ham rfl rfl (by decide) hs11
  have hs25 := tf_keepN hF18 him rfl (by decide) hs12
  have hs26 := tf_keepC hF18 hkp rfl (by decide) hs13
  obtain ⟨hp18_0, hp18_1⟩ := hp18
  refine lv_pop hx hb dL_law_963 rfl ?_
  refine lv_goto (tgt := 1498) hx hb dL_law_964 (by decide) ?_
  refine W.widen (k := 130 + 30 * jj) (n := 31200 + 1200 * jj) (by omega) (by omega) ?_
  exact hnx _ _ _ hW hax ham (tt) (uu) ⟨by omega, by omega⟩ ⟨by omega, by omega⟩ hs19 hs20 (tf_eqv hs21 (by omega)) (tf_eqv hs22 (by omega)) him hkp rn rk (by omega) (by omega) hs23 hs24 hs25 hs26 _ (lv_sub hl [0, 1, 2, 3] rfl)

set_option maxHeartbeats 4000000 in
set_option maxRecDepth 100000 in
theorem lc_967 {p : Program} {l : Launch} {e : Env} {s : State} {m : MethodId} {below : List Frame} {meth : Method} {c : Code} {b L : Nat} {g : tf_G} {sx : Int → Int} {Q : State → Prop} (E : lw_E p s m c b L g sx) (ax am im kp jj : Nat) (ii : Int) (hii : ii = 6 * (jj : Int)) (hij : ii + 6 ≤ (L : Int)) (hnx : lw_nx p l e s m below meth c b g ax am im kp jj ii Q) (T : tf_T) (H : Heap) (locs : List Loc) (hW : tf_n tf_kt g M_law (fun _ => none) s.heap T H locs) (hax : T ax = some (26, 0)) (ham : T am = some (50, 0)) (tt uu : Int) (htt : 0 ≤ tt ∧ tt ≤ 400) (huu : tf_r uu) (hf0 : tf_s H ax (g.1.2 9 7) = some (.int (Int32.ofInt tt))) (hf1 : tf_s H ax (g.1.2 9 8) = some (.int (Int32.ofInt uu))) (hf2 : tf_s H am (g.1.2 10 8) = some (.int (Int32.ofInt tt))) (hf3 : tf_s H am (g.1.2 10 6) = some (.int (Int32.ofInt uu))) (him : T im = some (14, 2)) (hkp : T kp = some (30, 2)) (rn rk : Int → Int) (hr0 : rn 0 = rk 0) (hr1 : rn 1 = rk 1) (hf4 : tf_s H ax (g.1.2 9 1) = some (.ref im)) (hf5 : tf_s H am (g.1.2 10 5) = some (.ref kp)) (hf6 : tf_nl H im = rn) (hf7 : tf_rw H kp = rk) (ls : Array Slot) (hl : lv_has ls 4 [(3, .int (Int32.ofInt ii)), (2, .ref am), (1, .ref ax), (0, .ref b)]) : W p l e room_1 s m #[Value.ref b] below meth c H locs (100 + 30 * jj) (30000 + 1200 * jj) Q (F0 m 967 ls []) := by
  obtain ⟨hx, hb, hml, hown, hts, hbl, hk, hBs, hsx, hX, hL⟩ := id E
  have hR1 := lw_R1
  have hR2 := lw_R2
  have hR3 := lw_R3
  have hR4 := lw_R4
  have hK := hk.1
  have hE : tf_E g T := trivial
  refine lv_aload_n hx hb dL_law_967 rfl (lv_at hl 2 rfl) ?_
  refine lv_aload_n hx hb dL_law_968 rfl (lv_at hl 3 rfl) ?_
  refine lv_iload_n hx hb dL_law_969 rfl (lv_at hl 0 rfl) ?_
  refine tf_iconst hx hb dL_law_970 ?_
  refine tf_iadd hx hb dL_law_971 ?_
  refine lw_sld (sx := sx) hx hb hX hbl hBs hL hW (by omega) (by omega) dL_law_972 ?_
  have hsx1 := hsx (ii + 1)
  refine lv_aload_n hx hb dL_law_973 rfl (lv_at hl 3 rfl) ?_
  refine lv_iload_n hx hb dL_law_974 rfl (lv_at hl 0 rfl) ?_
  refine tf_iconst hx hb dL_law_975 ?_
  refine tf_iadd hx hb dL_law_976 ?_
  refine lw_sld (sx := sx) hx hb hX hbl hBs hL hW (by omega) (by omega) dL_law_977 ?_
  have hsx2 := hsx (ii + 2)
  refine lv_aload_n hx hb dL_law_978 rfl (lv_at hl 3 rfl) ?_
  refine lv_iload_n hx hb dL_law_979 rfl (lv_at hl 0 rfl) ?_
  refine tf_iconst hx hb dL_law_980 ?_
  refine tf_iadd hx hb dL_law_981 ?_
  refine lw_sld (sx := sx) hx hb hX hbl hBs hL hW (by omega) (by omega) dL_law_982 ?_
  have hsx3 := hsx (ii + 3)
  refine lv_aload_n hx hb dL_law_983 rfl (lv_at hl 3 rfl) ?_
  refine lv_iload_n hx hb dL_law_984 rfl (lv_at hl 0 rfl) ?_
  refine tf_iconst hx hb dL_law_985 ?_
  refine tf_iadd hx hb dL_law_986 ?_
  refine lw_sld (sx := sx) hx hb hX hbl hBs hL hW (by omega) (by omega) dL_law_987 ?_
  have hsx4 := hsx (ii + 4)
  refine tf_calli (va_runV (As := [.int (Int32.ofInt ((sx (ii + 1)))), .int (Int32.ofInt ((sx (ii + 2)))), .int (Int32.ofInt ((sx (ii + 3)))), .int (Int32.ofInt ((sx (ii + 4))))]) (rest := []) ⟨hx, hb, hml, hown, hts⟩ (c_X9_curve l g T ax hax ((sx (ii + 1))) ⟨by omega, by omega⟩ ((sx (ii + 2))) ⟨by omega, by omega⟩ ((sx (ii + 3))) ⟨by omega, by omega⟩ ((sx (ii + 4))) ⟨by omega, by omega⟩ hE) (cwV 4 hts gv_L_112 rfl rfl rfl hd_X9_curve ⟨Nat.le_trans (by decide) hR1, Nat.le_trans (by decide) hR2⟩) (tf_preV hk hW hax (ci := 9) rfl rfl trivial) rfl rfl hl.1 rfl (lv_room (Nat.le_of_ble_eq_true rfl)) dL_law_988 ⟨Nat.le_trans (by omega) hR3, Nat.le_trans (by omega) hR4⟩) hW (by decide) (fun z5 H5 locs5 hW hF5 hp5 => ?_)
  have hs6 := tf_keepF hF5 hax rfl rfl (by decide) hf0
  have hs7 := tf_keepF hF5 hax rfl rfl (by decide) hf1
  have hs8 := tf_keepF hF5 ham rfl rfl (by decide) hf2
  have hs9 := tf_keepF hF5 ham rfl rfl (by decide) hf3
  have hs10 := tf_keepF hF5 hax rfl rfl (by decide) hf4
  have hs11 := tf_keepF hF5 ham rfl rfl (by decide) hf5
  have hs12 := tf_keepN hF5 him rfl (by decide) hf6
  have hs13 := tf_keepC hF5 hkp rfl (by decide) hf7
  obtain ⟨hp5_0, hp5_1⟩ := hp5
  refine lv_pop hx hb dL_law_991 rfl ?_
  refine lv_aload_n hx hb dL_law_992 rfl (lv_at hl 1 rfl) ?_
  refine lv_aload_n hx hb dL_law_993 rfl (lv_at hl 3 rfl) ?_
  refine lv_iload_n hx hb dL_law_994 rfl (lv_at hl 0 rfl) ?_
  refine tf_iconst hx hb dL_law_995 ?_
  refine tf_iadd hx hb dL_law_996 ?_
  refine lw_sld (sx := sx) hx hb hX hbl hBs hL hW (by omega) (by omega) dL_law_997 ?_
  have hsx14 := hsx (ii + 1)
  refine lv_aload_n hx hb dL_law_998 rfl (lv_at hl 3 rfl) ?_
  refine lv_iload_n hx hb dL_law_999 rfl (lv_at hl 0 rfl) ?_
  refine tf_iconst hx hb dL_law_1000 ?_
  refine tf_iadd hx hb dL_law_1001 ?_
  refine lw_sld (sx := sx) hx hb hX hbl hBs hL hW (by omega) (by omega) dL_law_1002 ?_
  have hsx15 := hsx (ii + 2)
  refine lv_aload_n hx hb dL_law_1003 rfl (lv_at hl 3 rfl) ?_
  refine lv_iload_n hx hb dL_law_1004 rfl (lv_at hl 0 rfl) ?_
  refine tf_iconst hx hb dL_law_1005 ?_
  refine tf_iadd hx hb dL_law_1006 ?_
  refine lw_sld (sx := sx) hx hb hX hbl hBs hL hW (by omega) (by omega) dL_law_1007 ?_
  have hsx16 := hsx (ii + 3)
  refine lv_aload_n hx hb dL_law_1008 rfl (lv_at hl 3 rfl) ?_
  refine lv_iload_n hx hb dL_law_1009 rfl (lv_at hl 0 rfl) ?_
  refine tf_iconst hx hb dL_law_1010 ?_
  refine tf_iadd hx hb dL_law_1011 ?_
  refine lw_sld (sx := sx) hx hb hX hbl hBs hL hW (by omega) (by omega) dL_law_1012 ?_
  have hsx17 := hsx (ii + 4)
  refine tf_calli (va_runV (As := [.int (Int32.ofInt ((sx (ii + 1)))), .int (Int32.ofInt ((sx (ii + 2)))), .int (Int32.ofInt ((sx (ii + 3)))), .int (Int32.ofInt ((sx (ii + 4))))]) (rest := []) ⟨hx, hb, hml, hown, hts⟩ (c_X10_curve l g T am ham ((sx (ii + 1))) ⟨by omega, by omega⟩ ((sx (ii + 2))) ⟨by omega, by omega⟩ ((sx (ii + 3))) ⟨by omega, by omega⟩ ((sx (ii + 4))) ⟨by omega, by omega⟩) (cwV 4 hts gv_L_115 rfl rfl rfl hd_X10_curve ⟨Nat.le_trans (by decide) hR1, Nat.le_trans (by decide) hR2⟩) (tf_preV hk hW ham (ci := 10) rfl rfl trivial) rfl rfl hl.1 rfl (lv_room (Nat.le_of_ble_eq_true rfl)) dL_law_1013 ⟨Nat.le_trans (by omega) hR3, Nat.le_trans (by omega) hR4⟩) hW (by decide) (fun z18 H18 locs18 hW hF18 hp18 => ?_)
  have hs19 := tf_keepF hF18 hax rfl rfl (by decide) hs6
  have hs20 := tf_keepF hF18 hax rfl rfl (by decide) hs7
  have hs21 := tf_keepF hF18 ham rfl rfl (by decide) hs8
  have hs22 := tf_keepF hF18 ham rfl rfl (by decide) hs9
  have hs23 := tf_keepF hF18 hax rfl rfl (by decide) hs10
  have hs24 := tf_keepF hF18 ham rfl rfl (by decide) hs11
  have hs25 := tf_keepN hF18 him rfl (by decide) hs12
  have hs26 := tf_keepC hF18 hkp rfl (by decide) hs13
  obtain ⟨hp18_0, hp18_1⟩ := hp18
  refine lv_pop hx hb dL_law_1016 rfl ?_
  refine lv_goto (tgt := 1498) hx hb dL_law_1017 (by decide) ?_
  refine W.widen (k := 130 + 30 * jj) (n := 31200 + 1200 * jj) (by omega) (by omega) ?_
  exact hnx _ _ _ hW hax ham (tt) (uu) ⟨by omega, by omega⟩ ⟨by omega, by omega⟩ hs19 hs20 (tf_eqv hs21 (by omega)) (tf_eqv hs22 (by omega)) him hkp rn rk (by omega) (by omega) hs23 hs24 hs25 hs26 _ (lv_sub hl [0, 1, 2, 3] rfl)

set_option maxHeartbeats 4000000 in
set_option maxRecDepth 100000 in
theorem lc_1020 {p : Program} {l : Launch} {e : Env} {s : State} {m : MethodId} {below : List Frame} {meth : Method} {c : Code} {b L : Nat} {g : tf_G} {sx : Int → Int} {Q : State → Prop} (E : lw_E p s m c b L g sx) (ax am im kp jj : Nat) (ii : Int) (hii : ii = 6 * (jj : Int)) (hij : ii + 6 ≤ (L : Int)) (hnx : lw_nx p l e s m below meth c b g ax am im kp jj ii Q) (T : tf_T) (H : Heap) (locs : List Loc) (hW : tf_n tf_kt g M_law (fun _ => none) s.heap T H locs) (hax : T ax = some (26, 0)) (ham : T am = some (50, 0)) (tt uu : Int) (htt : 0 ≤ tt ∧ tt ≤ 400) (huu : tf_r uu) (hf0 : tf_s H ax (g.1.2 9 7) = some (.int (Int32.ofInt tt))) (hf1 : tf_s H ax (g.1.2 9 8) = some (.int (Int32.ofInt uu))) (hf2 : tf_s H am (g.1.2 10 8) = some (.int (Int32.ofInt tt))) (hf3 : tf_s H am (g.1.2 10 6) = some (.int (Int32.ofInt uu))) (him : T im = some (14, 2)) (hkp : T kp = some (30, 2)) (rn rk : Int → Int) (hr0 : rn 0 = rk 0) (hr1 : rn 1 = rk 1) (hf4 : tf_s H ax (g.1.2 9 1) = some (.ref im)) (hf5 : tf_s H am (g.1.2 10 5) = some (.ref kp)) (hf6 : tf_nl H im = rn) (hf7 : tf_rw H kp = rk) (ls : Array Slot) (hl : lv_has ls 4 [(3, .int (Int32.ofInt ii)), (2, .ref am), (1, .ref ax), (0, .ref b)]) : W p l e room_1 s m #[Value.ref b] below meth c H locs (100 + 30 * jj) (30000 + 1200 * jj) Q (F0 m 1020 ls []) := by
  obtain ⟨hx, hb, hml, hown, hts, hbl, hk, hBs, hsx, hX, hL⟩ := id E
  have hR1 := lw_R1
  have hR2 := lw_R2
  have hR3 := lw_R3
  have hR4 := lw_R4
  have hK := hk.1
  have hE : tf_E g T := trivial
  refine lv_aload_n hx hb dL_law_1020 rfl (lv_at hl 2 rfl) ?_
  refine lv_aload_n hx hb dL_law_1021 rfl (lv_at hl 3 rfl) ?_
  refine lv_iload_n hx hb dL_law_1022 rfl (lv_at hl 0 rfl) ?_
  refine tf_iconst hx hb dL_law_1023 ?_
  refine tf_iadd hx hb dL_law_1024 ?_
  refine lw_sld (sx := sx) hx hb hX hbl hBs hL hW (by omega) (by omega) dL_law_1025 ?_
  have hsx1 := hsx (ii + 1)
  refine lv_aload_n hx hb dL_law_1026 rfl (lv_at hl 3 rfl) ?_
  refine lv_iload_n hx hb dL_law_1027 rfl (lv_at hl 0 rfl) ?_
  refine tf_iconst hx hb dL_law_1028 ?_
  refine tf_iadd hx hb dL_law_1029 ?_
  refine lw_sld (sx := sx) hx hb hX hbl hBs hL hW (by omega) (by omega) dL_law_1030 ?_
  have hsx2 := hsx (ii + 2)
  refine tf_calli (va_runV (As := [.int (Int32.ofInt ((sx (ii + 1)))), .int (Int32.ofInt ((sx (ii + 2))))]) (rest := []) ⟨hx, hb, hml, hown, hts⟩ (c_X9_seat l g T ax hax ((sx (ii + 1))) ⟨by omega, by omega⟩ ((sx (ii + 2))) ⟨by omega, by omega⟩ hE) (cwV 2 hts gv_L_116 rfl rfl rfl hd_X9_seat ⟨Nat.le_trans (by decide) hR1, Nat.le_trans (by decide) hR2⟩) (tf_preV hk hW hax (ci := 9) rfl rfl trivial) rfl rfl hl.1 rfl (lv_room (Nat.le_of_ble_eq_true rfl)) dL_law_1031 ⟨Nat.le_trans (by omega) hR3, Nat.le_trans (by omega) hR4⟩) hW (by decide) (fun z3 H3 locs3 hW hF3 hp3 => ?_)
  have hs4 := tf_keepF hF3 hax rfl rfl (by decide) hf0
  have hs5 := tf_keepF hF3 hax rfl rfl (by decide) hf1
  have hs6 := tf_keepF hF3 ham rfl rfl (by decide) hf2
  have hs7 := tf_keepF hF3 ham rfl rfl (by decide) hf3
  have hs8 := tf_keepF hF3 hax rfl rfl (by decide) hf4
  have hs9 := tf_keepF hF3 ham rfl rfl (by decide) hf5
  have hs10 := tf_keepN hF3 him rfl (by decide) hf6
  have hs11 := tf_keepC hF3 hkp rfl (by decide) hf7
  obtain ⟨hp3_0, hp3_1⟩ := hp3
  refine lv_pop hx hb dL_law_1034 rfl ?_
  refine lv_aload_n hx hb dL_law_1035 rfl (lv_at hl 1 rfl) ?_
  refine lv_aload_n hx hb dL_law_1036 rfl (lv_at hl 3 rfl) ?_
  refine lv_iload_n hx hb dL_law_1037 rfl (lv_at hl 0 rfl) ?_
  refine tf_iconst hx hb dL_law_1038 ?_
  refine tf_iadd hx hb dL_law_1039 ?_
  refine lw_sld (sx := sx) hx hb hX hbl hBs hL hW (by omega) (by omega) dL_law_1040 ?_
  have hsx12 := hsx (ii + 1)
  refine lv_aload_n hx hb dL_law_1041 rfl (lv_at hl 3 rfl) ?_
  refine lv_iload_n hx hb dL_law_1042 rfl (lv_at hl 0 rfl) ?_
  refine tf_iconst hx hb dL_law_1043 ?_
  refine tf_iadd hx hb dL_law_1044 ?_
  refine lw_sld (sx := sx) hx hb hX hbl hBs hL hW (by omega) (by omega) dL_law_1045 ?_
  have hsx13 := hsx (ii + 2)
  refine tf_calli (va_runV (As := [.int (Int32.ofInt ((sx (ii + 1)))), .int (Int32.ofInt ((sx (ii + 2))))]) (rest := []) ⟨hx, hb, hml, hown, hts⟩ (c_X10_seat l g T am ham ((sx (ii + 1))) ⟨by omega, by omega⟩ ((sx (ii + 2))) ⟨by omega, by omega⟩) (cwV 2 hts gv_L_119 rfl rfl rfl hd_X10_seat ⟨Nat.le_trans (by decide) hR1, Nat.le_trans (by decide) hR2⟩) (tf_preV hk hW ham (ci := 10) rfl rfl trivial) rfl rfl hl.1 rfl (lv_room (Nat.le_of_ble_eq_true rfl)) dL_law_1046 ⟨Nat.le_trans (by omega) hR3, Nat.le_trans (by omega) hR4⟩) hW (by decide) (fun z14 H14 locs14 hW hF14 hp14 => ?_)
  have hs15 := tf_keepF hF14 hax rfl rfl (by decide) hs4
  have hs16 := tf_keepF hF14 hax rfl rfl (by decide) hs5
  have hs17 := tf_keepF hF14 ham rfl rfl (by decide) hs6
  have hs18 := tf_keepF hF14 ham rfl rfl (by decide) hs7
  have hs19 := tf_keepF hF14 hax rfl rfl (by decide) hs8
  have hs20 := tf_keepF hF14 ham rfl rfl (by decide) hs9
  have hs21 := tf_keepN hF14 him rfl (by decide) hs10
  have hs22 := tf_keepC hF14 hkp rfl (by decide) hs11
  obtain ⟨hp14_0, hp14_1⟩ := hp14
  refine lv_pop hx hb dL_law_1049 rfl ?_
  refine lv_goto (tgt := 1498) hx hb dL_law_1050 (by decide) ?_
  refine W.widen (k := 130 + 30 * jj) (n := 31200 + 1200 * jj) (by omega) (by omega) ?_
  exact hnx _ _ _ hW hax ham (tt) (uu) ⟨by omega, by omega⟩ ⟨by omega, by omega⟩ hs15 hs16 (tf_eqv hs17 (by omega)) (tf_eqv hs18 (by omega)) him hkp rn rk (by omega) (by omega) hs19 hs20 hs21 hs22 _ (lv_sub hl [0, 1, 2, 3] rfl)

set_option maxHeartbeats 4000000 in
set_option maxRecDepth 100000 in
theorem lc_1053 {p : Program} {l : Launch} {e : Env} {s : State} {m : MethodId} {below : List Frame} {meth : Method} {c : Code} {b L : Nat} {g : tf_G} {sx : Int → Int} {Q : State → Prop} (E : lw_E p s m c b L g sx) (ax am im kp jj : Nat) (ii : Int) (hii : ii = 6 * (jj : Int)) (hij : ii + 6 ≤ (L : Int)) (hnx : lw_nx p l e s m below meth c b g ax am im kp jj ii Q) (T : tf_T) (H : Heap) (locs : List Loc) (hW : tf_n tf_kt g M_law (fun _ => none) s.heap T H locs) (hax : T ax = some (26, 0)) (ham : T am = some (50, 0)) (tt uu : Int) (htt : 0 ≤ tt ∧ tt ≤ 400) (huu : tf_r uu) (hf0 : tf_s H ax (g.1.2 9 7) = some (.int (Int32.ofInt tt))) (hf1 : tf_s H ax (g.1.2 9 8) = some (.int (Int32.ofInt uu))) (hf2 : tf_s H am (g.1.2 10 8) = some (.int (Int32.ofInt tt))) (hf3 : tf_s H am (g.1.2 10 6) = some (.int (Int32.ofInt uu))) (him : T im = some (14, 2)) (hkp : T kp = some (30, 2)) (rn rk : Int → Int) (hr0 : rn 0 = rk 0) (hr1 : rn 1 = rk 1) (hf4 : tf_s H ax (g.1.2 9 1) = some (.ref im)) (hf5 : tf_s H am (g.1.2 10 5) = some (.ref kp)) (hf6 : tf_nl H im = rn) (hf7 : tf_rw H kp = rk) (ls : Array Slot) (hl : lv_has ls 4 [(3, .int (Int32.ofInt ii)), (2, .ref am), (1, .ref ax), (0, .ref b)]) : W p l e room_1 s m #[Value.ref b] below meth c H locs (100 + 30 * jj) (30000 + 1200 * jj) Q (F0 m 1053 ls []) := by
  obtain ⟨hx, hb, hml, hown, hts, hbl, hk, hBs, hsx, hX, hL⟩ := id E
  have hR1 := lw_R1
  have hR2 := lw_R2
  have hR3 := lw_R3
  have hR4 := lw_R4
  have hK := hk.1
  have hE : tf_E g T := trivial
  refine lv_aload_n hx hb dL_law_1053 rfl (lv_at hl 2 rfl) ?_
  refine lv_aload_n hx hb dL_law_1054 rfl (lv_at hl 3 rfl) ?_
  refine lv_iload_n hx hb dL_law_1055 rfl (lv_at hl 0 rfl) ?_
  refine tf_iconst hx hb dL_law_1056 ?_
  refine tf_iadd hx hb dL_law_1057 ?_
  refine lw_sld (sx := sx) hx hb hX hbl hBs hL hW (by omega) (by omega) dL_law_1058 ?_
  have hsx1 := hsx (ii + 1)
  refine lv_aload_n hx hb dL_law_1059 rfl (lv_at hl 3 rfl) ?_
  refine lv_iload_n hx hb dL_law_1060 rfl (lv_at hl 0 rfl) ?_
  refine tf_iconst hx hb dL_law_1061 ?_
  refine tf_iadd hx hb dL_law_1062 ?_
  refine lw_sld (sx := sx) hx hb hX hbl hBs hL hW (by omega) (by omega) dL_law_1063 ?_
  have hsx2 := hsx (ii + 2)
  refine lv_aload_n hx hb dL_law_1064 rfl (lv_at hl 3 rfl) ?_
  refine lv_iload_n hx hb dL_law_1065 rfl (lv_at hl 0 rfl) ?_
  refine tf_iconst hx hb dL_law_1066 ?_
  refine tf_iadd hx hb dL_law_1067 ?_
  refine lw_sld (sx := sx) hx hb hX hbl hBs hL hW (by omega) (by omega) dL_law_1068 ?_
  have hsx3 := hsx (ii + 3)
  refine lv_aload_n hx hb dL_law_1069 rfl (lv_at hl 3 rfl) ?_
  refine lv_iload_n hx hb dL_law_1070 rfl (lv_at hl 0 rfl) ?_
  refine tf_iconst hx hb dL_law_1071 ?_
  refine tf_iadd hx hb dL_law_1072 ?_
  refine lw_sld (sx := sx) hx hb hX hbl hBs hL hW (by omega) (by omega) dL_law_1073 ?_
  have hsx4 := hsx (ii + 4)
  refine tf_calli (va_runV (As := [.int (Int32.ofInt ((sx (ii + 1)))), .int (Int32.ofInt ((sx (ii + 2)))), .int (Int32.ofInt ((sx (ii + 3)))), .int (Int32.ofInt ((sx (ii + 4))))]) (rest := []) ⟨hx, hb, hml, hown, hts⟩ (c_X9_work l g T ax hax ((sx (ii + 1))) ⟨by omega, by omega⟩ ((sx (ii + 2))) ⟨by omega, by omega⟩ ((sx (ii + 3))) ⟨by omega, by omega⟩ ((sx (ii + 4))) ⟨by omega, by omega⟩) (cwV 4 hts gv_L_120 rfl rfl rfl hd_X9_work ⟨Nat.le_trans (by decide) hR1, Nat.le_trans (by decide) hR2⟩) (tf_preV hk hW hax (ci := 9) rfl rfl trivial) rfl rfl hl.1 rfl (lv_room (Nat.le_of_ble_eq_true rfl)) dL_law_1074 ⟨Nat.le_trans (by omega) hR3, Nat.le_trans (by omega) hR4⟩) hW (by decide) (fun z5 H5 locs5 hW hF5 hp5 => ?_)
  have hs6 := tf_keepF hF5 hax rfl rfl (by decide) hf0
  have hs7 := tf_keepF hF5 hax rfl rfl (by decide) hf1
  have hs8 := tf_keepF hF5 ham rfl rfl (by decide) hf2
  have hs9 := tf_keepF hF5 ham rfl rfl (by decide) hf3
  have hs10 := tf_keepF hF5 hax rfl rfl (by decide) hf4
  have hs11 := tf_keepF hF5 ham rfl rfl (by decide) hf5
  have hs12 := tf_keepN hF5 him rfl (by decide) hf6
  have hs13 := tf_keepC hF5 hkp rfl (by decide) hf7
  obtain ⟨hp5_0, hp5_1⟩ := hp5
  refine lv_pop hx hb dL_law_1077 rfl ?_
  refine lv_aload_n hx hb dL_law_1078 rfl (lv_at hl 1 rfl) ?_
  refine lv_aload_n hx hb dL_law_1079 rfl (lv_at hl 3 rfl) ?_
  refine lv_iload_n hx hb dL_law_1080 rfl (lv_at hl 0 rfl) ?_
  refine tf_iconst hx hb dL_law_1081 ?_
  refine tf_iadd hx hb dL_law_1082 ?_
  refine lw_sld (sx := sx) hx hb hX hbl hBs hL hW (by omega) (by omega) dL_law_1083 ?_
  have hsx14 := hsx (ii + 1)
  refine lv_aload_n hx hb dL_law_1084 rfl (lv_at hl 3 rfl) ?_
  refine lv_iload_n hx hb dL_law_1085 rfl (lv_at hl 0 rfl) ?_
  refine tf_iconst hx hb dL_law_1086 ?_
  refine tf_iadd hx hb dL_law_1087 ?_
  refine lw_sld (sx := sx) hx hb hX hbl hBs hL hW (by omega) (by omega) dL_law_1088 ?_
  have hsx15 := hsx (ii + 2)
  refine lv_aload_n hx hb dL_law_1089 rfl (lv_at hl 3 rfl) ?_
  refine lv_iload_n hx hb dL_law_1090 rfl (lv_at hl 0 rfl) ?_
  refine tf_iconst hx hb dL_law_1091 ?_
  refine tf_iadd hx hb dL_law_1092 ?_
  refine lw_sld (sx := sx) hx hb hX hbl hBs hL hW (by omega) (by omega) dL_law_1093 ?_
  have hsx16 := hsx (ii + 3)
  refine lv_aload_n hx hb dL_law_1094 rfl (lv_at hl 3 rfl) ?_
  refine lv_iload_n hx hb dL_law_1095 rfl (lv_at hl 0 rfl) ?_
  refine tf_iconst hx hb dL_law_1096 ?_
  refine tf_iadd hx hb dL_law_1097 ?_
  refine lw_sld (sx := sx) hx hb hX hbl hBs hL hW (by omega) (by omega) dL_law_1098 ?_
  have hsx17 := hsx (ii + 4)
  refine tf_calli (va_runV (As := [.int (Int32.ofInt ((sx (ii + 1)))), .int (Int32.ofInt ((sx (ii + 2)))), .int (Int32.ofInt ((sx (ii + 3)))), .int (Int32.ofInt ((sx (ii + 4))))]) (rest := []) ⟨hx, hb, hml, hown, hts⟩ (c_X10_work l g T am ham ((sx (ii + 1))) ⟨by omega, by omega⟩ ((sx (ii + 2))) ⟨by omega, by omega⟩ ((sx (ii + 3))) ⟨by omega, by omega⟩ ((sx (ii + 4))) ⟨by omega, by omega⟩) (cwV 4 hts gv_L_123 rfl rfl rfl hd_X10_work ⟨Nat.le_trans (by decide) hR1, Nat.le_trans (by decide) hR2⟩) (tf_preV hk hW ham (ci := 10) rfl rfl trivial) rfl rfl hl.1 rfl (lv_room (Nat.le_of_ble_eq_true rfl)) dL_law_1099 ⟨Nat.le_trans (by omega) hR3, Nat.le_trans (by omega) hR4⟩) hW (by decide) (fun z18 H18 locs18 hW hF18 hp18 => ?_)
  have hs19 := tf_keepF hF18 hax rfl rfl (by decide) hs6
  have hs20 := tf_keepF hF18 hax rfl rfl (by decide) hs7
  have hs21 := tf_keepF hF18 ham rfl rfl (by decide) hs8
  have hs22 := tf_keepF hF18 ham rfl rfl (by decide) hs9
  have hs23 := tf_keepF hF18 hax rfl rfl (by decide) hs10
  have hs24 := tf_keepF hF18 ham rfl rfl (by decide) hs11
  have hs25 := tf_keepN hF18 him rfl (by decide) hs12
  have hs26 := tf_keepC hF18 hkp rfl (by decide) hs13
  obtain ⟨hp18_0, hp18_1⟩ := hp18
  refine lv_pop hx hb dL_law_1102 rfl ?_
  refine lv_goto (tgt := 1498) hx hb dL_law_1103 (by decide) ?_
  refine W.widen (k := 130 + 30 * jj) (n := 31200 + 1200 * jj) (by omega) (by omega) ?_
  exact hnx _ _ _ hW hax ham (tt) (uu) ⟨by omega, by omega⟩ ⟨by omega, by omega⟩ hs19 hs20 (tf_eqv hs21 (by omega)) (tf_eqv hs22 (by omega)) him hkp rn rk (by omega) (by omega) hs23 hs24 hs25 hs26 _ (lv_sub hl [0, 1, 2, 3] rfl)

set_option maxHeartbeats 4000000 in
set_option maxRecDepth 100000 in
theorem lc_1106 {p : Program} {l : Launch} {e : Env} {s : State} {m : MethodId} {below : List Frame} {meth : Method} {c : Code} {b L : Nat} {g : tf_G} {sx : Int → Int} {Q : State → Prop} (E : lw_E p s m c b L g sx) (ax am im kp jj : Nat) (ii : Int) (hii : ii = 6 * (jj : Int)) (hij : ii + 6 ≤ (L : Int)) (hnx : lw_nx p l e s m below meth c b g ax am im kp jj ii Q) (T : tf_T) (H : Heap) (locs : List Loc) (hW : tf_n tf_kt g M_law (fun _ => none) s.heap T H locs) (hax : T ax = some (26, 0)) (ham : T am = some (50, 0)) (tt uu : Int) (htt : 0 ≤ tt ∧ tt ≤ 400) (huu : tf_r uu) (hf0 : tf_s H ax (g.1.2 9 7) = some (.int (Int32.ofInt tt))) (hf1 : tf_s H ax (g.1.2 9 8) = some (.int (Int32.ofInt uu))) (hf2 : tf_s H am (g.1.2 10 8) = some (.int (Int32.ofInt tt))) (hf3 : tf_s H am (g.1.2 10 6) = some (.int (Int32.ofInt uu))) (him : T im = some (14, 2)) (hkp : T kp = some (30, 2)) (rn rk : Int → Int) (hr0 : rn 0 = rk 0) (hr1 : rn 1 = rk 1) (hf4 : tf_s H ax (g.1.2 9 1) = some (.ref im)) (hf5 : tf_s H am (g.1.2 10 5) = some (.ref kp)) (hf6 : tf_nl H im = rn) (hf7 : tf_rw H kp = rk) (ls : Array Slot) (hl : lv_has ls 4 [(3, .int (Int32.ofInt ii)), (2, .ref am), (1, .ref ax), (0, .ref b)]) : W p l e room_1 s m #[Value.ref b] below meth c H locs (100 + 30 * jj) (30000 + 1200 * jj) Q (F0 m 1106 ls []) := by
  obtain ⟨hx, hb, hml, hown, hts, hbl, hk, hBs, hsx, hX, hL⟩ := id E
  have hR1 := lw_R1
  have hR2 := lw_R2
  have hR3 := lw_R3
  have hR4 := lw_R4
  have hK := hk.1
  have hE : tf_E g T := trivial
  refine lv_aload_n hx hb dL_law_1106 rfl (lv_at hl 2 rfl) ?_
  refine lv_aload_n hx hb dL_law_1107 rfl (lv_at hl 3 rfl) ?_
  refine lv_iload_n hx hb dL_law_1108 rfl (lv_at hl 0 rfl) ?_
  refine tf_iconst hx hb dL_law_1109 ?_
  refine tf_iadd hx hb dL_law_1110 ?_
  refine lw_sld (sx := sx) hx hb hX hbl hBs hL hW (by omega) (by omega) dL_law_1111 ?_
  have hsx1 := hsx (ii + 1)
  refine tf_calli (va_runV (As := [.int (Int32.ofInt ((sx (ii + 1))))]) (rest := []) ⟨hx, hb, hml, hown, hts⟩ (c_X9_drop l g T ax hax ((sx (ii + 1))) ⟨by omega, by omega⟩) (cwV 1 hts gv_L_124 rfl rfl rfl hd_X9_drop ⟨Nat.le_trans (by decide) hR1, Nat.le_trans (by decide) hR2⟩) (tf_preV hk hW hax (ci := 9) rfl rfl trivial) rfl rfl hl.1 rfl (lv_room (Nat.le_of_ble_eq_true rfl)) dL_law_1112 ⟨Nat.le_trans (by omega) hR3, Nat.le_trans (by omega) hR4⟩) hW (by decide) (fun z2 H2 locs2 hW hF2 hp2 => ?_)
  have hs3 := tf_keepF hF2 hax rfl rfl (by decide) hf0
  have hs4 := tf_keepF hF2 hax rfl rfl (by decide) hf1
  have hs5 := tf_keepF hF2 ham rfl rfl (by decide) hf2
  have hs6 := tf_keepF hF2 ham rfl rfl (by decide) hf3
  have hs7 := tf_keepF hF2 hax rfl rfl (by decide) hf4
  have hs8 := tf_keepF hF2 ham rfl rfl (by decide) hf5
  have hs9 := tf_keepN hF2 him rfl (by decide) hf6
  have hs10 := tf_keepC hF2 hkp rfl (by decide) hf7
  obtain ⟨hp2_0, hp2_1⟩ := hp2
  refine lv_pop hx hb dL_law_1115 rfl ?_
  refine lv_aload_n hx hb dL_law_1116 rfl (lv_at hl 1 rfl) ?_
  refine lv_aload_n hx hb dL_law_1117 rfl (lv_at hl 3 rfl) ?_
  refine lv_iload_n hx hb dL_law_1118 rfl (lv_at hl 0 rfl) ?_
  refine tf_iconst hx hb dL_law_1119 ?_
  refine tf_iadd hx hb dL_law_1120 ?_
  refine lw_sld (sx := sx) hx hb hX hbl hBs hL hW (by omega) (by omega) dL_law_1121 ?_
  have hsx11 := hsx (ii + 1)
  refine tf_calli (va_runV (As := [.int (Int32.ofInt ((sx (ii + 1))))]) (rest := []) ⟨hx, hb, hml, hown, hts⟩ (c_X10_drop l g T am ham ((sx (ii + 1))) ⟨by omega, by omega⟩) (cwV 1 hts gv_L_127 rfl rfl rfl hd_X10_drop ⟨Nat.le_trans (by decide) hR1, Nat.le_trans (by decide) hR2⟩) (tf_preV hk hW ham (ci := 10) rfl rfl trivial) rfl rfl hl.1 rfl (lv_room (Nat.le_of_ble_eq_true rfl)) dL_law_1122 ⟨Nat.le_trans (by omega) hR3, Nat.le_trans (by omega) hR4⟩) hW (by decide) (fun z12 H12 locs12 hW hF12 hp12 => ?_)
  have hs13 := tf_keepF hF12 hax rfl rfl (by decide) hs3
  have hs14 := tf_keepF hF12 hax rfl rfl (by decide) hs4
  have hs15 := tf_keepF hF12 ham rfl rfl (by decide) hs5
  have hs16 := tf_keepF hF12 ham rfl rfl (by decide) hs6
  have hs17 := tf_keepF hF12 hax rfl rfl (by decide) hs7
  have hs18 := tf_keepF hF12 ham rfl rfl (by decide) hs8
  have hs19 := tf_keepN hF12 him rfl (by decide) hs9
  have hs20 := tf_keepC hF12 hkp rfl (by decide) hs10
  obtain ⟨hp12_0, hp12_1⟩ := hp12
  refine lv_pop hx hb dL_law_1125 rfl ?_
  refine lv_goto (tgt := 1498) hx hb dL_law_1126 (by decide) ?_
  refine W.widen (k := 130 + 30 * jj) (n := 31200 + 1200 * jj) (by omega) (by omega) ?_
  exact hnx _ _ _ hW hax ham (tt) (uu) ⟨by omega, by omega⟩ ⟨by omega, by omega⟩ hs13 hs14 (tf_eqv hs15 (by omega)) (tf_eqv hs16 (by omega)) him hkp rn rk (by omega) (by omega) hs17 hs18 hs19 hs20 _ (lv_sub hl [0, 1, 2, 3] rfl)

set_option maxHeartbeats 4000000 in
set_option maxRecDepth 100000 in
theorem lc_1129 {p : Program} {l : Launch} {e : Env} {s : State} {m : MethodId} {below : List Frame} {meth : Method} {c : Code} {b L : Nat} {g : tf_G} {sx : Int → Int} {Q : State → Prop} (E : lw_E p s m c b L g sx) (ax am im kp jj : Nat) (ii : Int) (hii : ii = 6 * (jj : Int)) (hij : ii + 6 ≤ (L : Int)) (hnx : lw_nx p l e s m below meth c b g ax am im kp jj ii Q) (T : tf_T) (H : Heap) (locs : List Loc) (hW : tf_n tf_kt g M_law (fun _ => none) s.heap T H locs) (hax : T ax = some (26, 0)) (ham : T am = some (50, 0)) (tt uu : Int) (htt : 0 ≤ tt ∧ tt ≤ 400) (huu : tf_r uu) (hf0 : tf_s H ax (g.1.2 9 7) = some (.int (Int32.ofInt tt))) (hf1 : tf_s H ax (g.1.2 9 8) = some (.int (Int32.ofInt uu))) (hf2 : tf_s H am (g.1.2 10 8) = some (.int (Int32.ofInt tt))) (hf3 : tf_s H am (g.1.2 10 6) = some (.int (Int32.ofInt uu))) (him : T im = some (14, 2)) (hkp : T kp = some (30, 2)) (rn rk : Int → Int) (hr0 : rn 0 = rk 0) (hr1 : rn 1 = rk 1) (hf4 : tf_s H ax (g.1.2 9 1) = some (.ref im)) (hf5 : tf_s H am (g.1.2 10 5) = some (.ref kp)) (hf6 : tf_nl H im = rn) (hf7 : tf_rw H kp = rk) (ls : Array Slot) (hl : lv_has ls 4 [(3, .int (Int32.ofInt ii)), (2, .ref am), (1, .ref ax), (0, .ref b)]) : W p l e room_1 s m #[Value.ref b] below meth c H locs (100 + 30 * jj) (30000 + 1200 * jj) Q (F0 m 1129 ls []) := by
  obtain ⟨hx, hb, hml, hown, hts, hbl, hk, hBs, hsx, hX, hL⟩ := id E
  have hR1 := lw_R1
  have hR2 := lw_R2
  have hR3 := lw_R3
  have hR4 := lw_R4
  have hK := hk.1
  have hE : tf_E g T := trivial
  refine lv_aload_n hx hb dL_law_1129 rfl (lv_at hl 2 rfl) ?_
  refine lv_aload_n hx hb dL_law_1130 rfl (lv_at hl 3 rfl) ?_
  refine lv_iload_n hx hb dL_law_1131 rfl (lv_at hl 0 rfl) ?_
  refine tf_iconst hx hb dL_law_1132 ?_
  refine tf_iadd hx hb dL_law_1133 ?_
  refine lw_sld (sx := sx) hx hb hX hbl hBs hL hW (by omega) (by omega) dL_law_1134 ?_
  have hsx1 := hsx (ii + 1)
  refine lv_aload_n hx hb dL_law_1135 rfl (lv_at hl 3 rfl) ?_
  refine lv_iload_n hx hb dL_law_1136 rfl (lv_at hl 0 rfl) ?_
  refine tf_iconst hx hb dL_law_1137 ?_
  refine tf_iadd hx hb dL_law_1138 ?_
  refine lw_sld (sx := sx) hx hb hX hbl hBs hL hW (by omega) (by omega) dL_law_1139 ?_
  have hsx2 := hsx (ii + 2)
  refine tf_calli (va_runV (As := [.int (Int32.ofInt ((sx (ii + 1)))), .int (Int32.ofInt ((sx (ii + 2))))]) (rest := []) ⟨hx, hb, hml, hown, hts⟩ (c_X9_done l g T ax hax ((sx (ii + 1))) ⟨by omega, by omega⟩ ((sx (ii + 2))) ⟨by omega, by omega⟩ hE) (cwV 2 hts gv_L_128 rfl rfl rfl hd_X9_done ⟨Nat.le_trans (by decide) hR1, Nat.le_trans (by decide) hR2⟩) (tf_preV hk hW hax (ci := 9) rfl rfl trivial) rfl rfl hl.1 rfl (lv_room (Nat.le_of_ble_eq_true rfl)) dL_law_1140 ⟨Nat.le_trans (by omega) hR3, Nat.le_trans (by omega) hR4⟩) hW (by decide) (fun z3 H3 locs3 hW hF3 hp3 => ?_)
  have hs4 := tf_keepF hF3 hax rfl rfl (by decide) hf0
  have hs5 := tf_keepF hF3 hax rfl rfl (by decide) hf1
  have hs6 := tf_keepF hF3 ham rfl rfl (by decide) hf2
  have hs7 := tf_keepF hF3 ham rfl rfl (by decide) hf3
  have hs8 := tf_keepF hF3 hax rfl rfl (by decide) hf4
  have hs9 := tf_keepF hF3 ham rfl rfl (by decide) hf5
  have hs10 := tf_keepN hF3 him rfl (by decide) hf6
  have hs11 := tf_keepC hF3 hkp rfl (by decide) hf7
  obtain ⟨hp3_0, hp3_1⟩ := hp3
  refine lv_pop hx hb dL_law_1143 rfl ?_
  refine lv_aload_n hx hb dL_law_1144 rfl (lv_at hl 1 rfl) ?_
  refine lv_aload_n hx hb dL_law_1145 rfl (lv_at hl 3 rfl) ?_
  refine lv_iload_n hx hb dL_law_1146 rfl (lv_at hl 0 rfl) ?_
  refine tf_iconst hx hb dL_law_1147 ?_
  refine tf_iadd hx hb dL_law_1148 ?_
  refine lw_sld (sx := sx) hx hb hX hbl hBs hL hW (by omega) (by omega) dL_law_1149 ?_
  have hsx12 := hsx (ii + 1)
  refine lv_aload_n hx hb dL_law_1150 rfl (lv_at hl 3 rfl) ?_
  refine lv_iload_n hx hb dL_law_1151 rfl (lv_at hl 0 rfl) ?_
  refine tf_iconst hx hb dL_law_1152 ?_
  refine tf_iadd hx hb dL_law_1153 ?_
  refine lw_sld (sx := sx) hx hb hX hbl hBs hL hW (by omega) (by omega) dL_law_1154 ?_
  have hsx13 := hsx (ii + 2)
  refine tf_calli (va_runV (As := [.int (Int32.ofInt ((sx (ii + 1)))), .int (Int32.ofInt ((sx (ii + 2))))]) (rest := []) ⟨hx, hb, hml, hown, hts⟩ (c_X10_done l g T am ham ((sx (ii + 1))) ⟨by omega, by omega⟩ ((sx (ii + 2))) ⟨by omega, by omega⟩) (cwV 2 hts gv_L_131 rfl rfl rfl hd_X10_done ⟨Nat.le_trans (by decide) hR1, Nat.le_trans (by decide) hR2⟩) (tf_preV hk hW ham (ci := 10) rfl rfl trivial) rfl rfl hl.1 rfl (lv_room (Nat.le_of_ble_eq_true rfl)) dL_law_1155 ⟨Nat.le_trans (by omega) hR3, Nat.le_trans (by omega) hR4⟩) hW (by decide) (fun z14 H14 locs14 hW hF14 hp14 => ?_)
  have hs15 := tf_keepF hF14 hax rfl rfl (by decide) hs4
  have hs16 := tf_keepF hF14 hax rfl rfl (by decide) hs5
  have hs17 := tf_keepF hF14 ham rfl rfl (by decide) hs6
  have hs18 := tf_keepF hF14 ham rfl rfl (by decide) hs7
  have hs19 := tf_keepF hF14 hax rfl rfl (by decide) hs8
  have hs20 := tf_keepF hF14 ham rfl rfl (by decide) hs9
  have hs21 := tf_keepN hF14 him rfl (by decide) hs10
  have hs22 := tf_keepC hF14 hkp rfl (by decide) hs11
  obtain ⟨hp14_0, hp14_1⟩ := hp14
  refine lv_pop hx hb dL_law_1158 rfl ?_
  refine lv_goto (tgt := 1498) hx hb dL_law_1159 (by decide) ?_
  refine W.widen (k := 130 + 30 * jj) (n := 31200 + 1200 * jj) (by omega) (by omega) ?_
  exact hnx _ _ _ hW hax ham (tt) (uu) ⟨by omega, by omega⟩ ⟨by omega, by omega⟩ hs15 hs16 (tf_eqv hs17 (by omega)) (tf_eqv hs18 (by omega)) him hkp rn rk (by omega) (by omega) hs19 hs20 hs21 hs22 _ (lv_sub hl [0, 1, 2, 3] rfl)

set_option maxHeartbeats 4000000 in
set_option maxRecDepth 100000 in
theorem lc_1162 {p : Program} {l : Launch} {e : Env} {s : State} {m : MethodId} {below : List Frame} {meth : Method} {c : Code} {b L : Nat} {g : tf_G} {sx : Int → Int} {Q : State → Prop} (E : lw_E p s m c b L g sx) (ax am im kp jj : Nat) (ii : Int) (hii : ii = 6 * (jj : Int)) (hij : ii + 6 ≤ (L : Int)) (hnx : lw_nx p l e s m below meth c b g ax am im kp jj ii Q) (T : tf_T) (H : Heap) (locs : List Loc) (hW : tf_n tf_kt g M_law (fun _ => none) s.heap T H locs) (hax : T ax = some (26, 0)) (ham : T am = some (50, 0)) (tt uu : Int) (htt : 0 ≤ tt ∧ tt ≤ 400) (huu : tf_r uu) (hf0 : tf_s H ax (g.1.2 9 7) = some (.int (Int32.ofInt tt))) (hf1 : tf_s H ax (g.1.2 9 8) = some (.int (Int32.ofInt uu))) (hf2 : tf_s H am (g.1.2 10 8) = some (.int (Int32.ofInt tt))) (hf3 : tf_s H am (g.1.2 10 6) = some (.int (Int32.ofInt uu))) (him : T im = some (14, 2)) (hkp : T kp = some (30, 2)) (rn rk : Int → Int) (hr0 : rn 0 = rk 0) (hr1 : rn 1 = rk 1) (hf4 : tf_s H ax (g.1.2 9 1) = some (.ref im)) (hf5 : tf_s H am (g.1.2 10 5) = some (.ref kp)) (hf6 : tf_nl H im = rn) (hf7 : tf_rw H kp = rk) (ls : Array Slot) (hl : lv_has ls 4 [(3, .int (Int32.ofInt ii)), (2, .ref am), (1, .ref ax), (0, .ref b)]) : W p l e room_1 s m #[Value.ref b] below meth c H locs (100 + 30 * jj) (30000 + 1200 * jj) Q (F0 m 1162 ls []) := by
  obtain ⟨hx, hb, hml, hown, hts, hbl, hk, hBs, hsx, hX, hL⟩ := id E
  have hR1 := lw_R1
  have hR2 := lw_R2
  have hR3 := lw_R3
  have hR4 := lw_R4
  have hK := hk.1
  have hE : tf_E g T := trivial
  refine lv_aload_n hx hb dL_law_1162 rfl (lv_at hl 2 rfl) ?_
  refine lv_aload_n hx hb dL_law_1163 rfl (lv_at hl 3 rfl) ?_
  refine lv_iload_n hx hb dL_law_1164 rfl (lv_at hl 0 rfl) ?_
  refine tf_iconst hx hb dL_law_1165 ?_
  refine tf_iadd hx hb dL_law_1166 ?_
  refine lw_sld (sx := sx) hx hb hX hbl hBs hL hW (by omega) (by omega) dL_law_1167 ?_
  have hsx1 := hsx (ii + 1)
  refine tf_calli (va_runV (As := [.int (Int32.ofInt ((sx (ii + 1))))]) (rest := []) ⟨hx, hb, hml, hown, hts⟩ (c_X9_least l g T ax hax ((sx (ii + 1))) ⟨by omega, by omega⟩ hE) (cwV 1 hts gv_L_132 rfl rfl rfl hd_X9_least ⟨Nat.le_trans (by decide) hR1, Nat.le_trans (by decide) hR2⟩) (tf_preV hk hW hax (ci := 9) rfl rfl trivial) rfl rfl hl.1 rfl (lv_room (Nat.le_of_ble_eq_true rfl)) dL_law_1168 ⟨Nat.le_trans (by omega) hR3, Nat.le_trans (by omega) hR4⟩) hW (by decide) (fun z2 H2 locs2 hW hF2 hp2 => ?_)
  have hs3 := tf_keepF hF2 hax rfl rfl (by decide) hf0
  have hs4 := tf_keepF hF2 hax rfl rfl (by decide) hf1
  have hs5 := tf_keepF hF2 ham rfl rfl (by decide) hf2
  have hs6 := tf_keepF hF2 ham rfl rfl (by decide) hf3
  have hs7 := tf_keepF hF2 hax rfl rfl (by decide) hf4
  have hs8 := tf_keepF hF2 ham rfl rfl (by decide) hf5
  have hs9 := tf_keepN hF2 him rfl (by decide) hf6
  have hs10 := tf_keepC hF2 hkp rfl (by decide) hf7
  obtain ⟨hp2_0, hp2_1⟩ := hp2
  refine lv_pop hx hb dL_law_1171 rfl ?_
  refine lv_aload_n hx hb dL_law_1172 rfl (lv_at hl 1 rfl) ?_
  refine lv_aload_n hx hb dL_law_1173 rfl (lv_at hl 3 rfl) ?_
  refine lv_iload_n hx hb dL_law_1174 rfl (lv_at hl 0 rfl) ?_
  refine tf_iconst hx hb dL_law_1175 ?_
  refine tf_iadd hx hb dL_law_1176 ?_
  refine lw_sld (sx := sx) hx hb hX hbl hBs hL hW (by omega) (by omega) dL_law_1177 ?_
  have hsx11 := hsx (ii + 1)
  refine tf_calli (va_runV (As := [.int (Int32.ofInt ((sx (ii + 1))))]) (rest := []) ⟨hx, hb, hml, hown, hts⟩ (c_X10_least l g T am ham ((sx (ii + 1))) ⟨by omega, by omega⟩) (cwV 1 hts gv_L_135 rfl rfl rfl hd_X10_least ⟨Nat.le_trans (by decide) hR1, Nat.le_trans (by decide) hR2⟩) (tf_preV hk hW ham (ci := 10) rfl rfl trivial) rfl rfl hl.1 rfl (lv_room (Nat.le_of_ble_eq_true rfl)) dL_law_1178 ⟨Nat.le_trans (by omega) hR3, Nat.le_trans (by omega) hR4⟩) hW (by decide) (fun z12 H12 locs12 hW hF12 hp12 => ?_)
  have hs13 := tf_keepF hF12 hax rfl rfl (by decide) hs3
  have hs14 := tf_keepF hF12 hax rfl rfl (by decide) hs4
  have hs15 := tf_keepF hF12 ham rfl rfl (by decide) hs5
  have hs16 := tf_keepF hF12 ham rfl rfl (by decide) hs6
  have hs17 := tf_keepF hF12 hax rfl rfl (by decide) hs7
  have hs18 := tf_keepF hF12 ham rfl rfl (by decide) hs8
  have hs19 := tf_keepN hF12 him rfl (by decide) hs9
  have hs20 := tf_keepC hF12 hkp rfl (by decide) hs10
  obtain ⟨hp12_0, hp12_1⟩ := hp12
  refine lv_pop hx hb dL_law_1181 rfl ?_
  refine lv_goto (tgt := 1498) hx hb dL_law_1182 (by decide) ?_
  refine W.widen (k := 130 + 30 * jj) (n := 31200 + 1200 * jj) (by omega) (by omega) ?_
  exact hnx _ _ _ hW hax ham (tt) (uu) ⟨by omega, by omega⟩ ⟨by omega, by omega⟩ hs13 hs14 (tf_eqv hs15 (by omega)) (tf_eqv hs16 (by omega)) him hkp rn rk (by omega) (by omega) hs17 hs18 hs19 hs20 _ (lv_sub hl [0, 1, 2, 3] rfl)

set_option maxHeartbeats 4000000 in
set_option maxRecDepth 100000 in
theorem lc_1185 {p : Program} {l : Launch} {e : Env} {s : State} {m : MethodId} {below : List Frame} {meth : Method} {c : Code} {b L : Nat} {g : tf_G} {sx : Int → Int} {Q : State → Prop} (E : lw_E p s m c b L g sx) (ax am im kp jj : Nat) (ii : Int) (hii : ii = 6 * (jj : Int)) (hij : ii + 6 ≤ (L : Int)) (hnx : lw_nx p l e s m below meth c b g ax am im kp jj ii Q) (T : tf_T) (H : Heap) (locs : List Loc) (hW : tf_n tf_kt g M_law (fun _ => none) s.heap T H locs) (hax : T ax = some (26, 0)) (ham : T am = some (50, 0)) (tt uu : Int) (htt : 0 ≤ tt ∧ tt ≤ 400) (huu : tf_r uu) (hf0 : tf_s H ax (g.1.2 9 7) = some (.int (Int32.ofInt tt))) (hf1 : tf_s H ax (g.1.2 9 8) = some (.int (Int32.ofInt uu))) (hf2 : tf_s H am (g.1.2 10 8) = some (.int (Int32.ofInt tt))) (hf3 : tf_s H am (g.1.2 10 6) = some (.int (Int32.ofInt uu))) (him : T im = some (14, 2)) (hkp : T kp = some (30, 2)) (rn rk : Int → Int) (hr0 : rn 0 = rk 0) (hr1 : rn 1 = rk 1) (hf4 : tf_s H ax (g.1.2 9 1) = some (.ref im)) (hf5 : tf_s H am (g.1.2 10 5) = some (.ref kp)) (hf6 : tf_nl H im = rn) (hf7 : tf_rw H kp = rk) (ls : Array Slot) (hl : lv_has ls 4 [(3, .int (Int32.ofInt ii)), (2, .ref am), (1, .ref ax), (0, .ref b)]) : W p l e room_1 s m #[Value.ref b] below meth c H locs (100 + 30 * jj) (30000 + 1200 * jj) Q (F0 m 1185 ls []) := by
  obtain ⟨hx, hb, hml, hown, hts, hbl, hk, hBs, hsx, hX, hL⟩ := id E
  have hR1 := lw_R1
  have hR2 := lw_R2
  have hR3 := lw_R3
  have hR4 := lw_R4
  have hK := hk.1
  have hE : tf_E g T := trivial
  refine lv_aload_n hx hb dL_law_1185 rfl (lv_at hl 2 rfl) ?_
  refine lv_aload_n hx hb dL_law_1186 rfl (lv_at hl 3 rfl) ?_
  refine lv_iload_n hx hb dL_law_1187 rfl (lv_at hl 0 rfl) ?_
  refine tf_iconst hx hb dL_law_1188 ?_
  refine tf_iadd hx hb dL_law_1189 ?_
  refine lw_sld (sx := sx) hx hb hX hbl hBs hL hW (by omega) (by omega) dL_law_1190 ?_
  have hsx1 := hsx (ii + 1)
  refine tf_calli (va_runV (As := [.int (Int32.ofInt ((sx (ii + 1))))]) (rest := []) ⟨hx, hb, hml, hown, hts⟩ (c_X9_build l g T ax hax ((sx (ii + 1))) ⟨by omega, by omega⟩ hE) (cwV 1 hts gv_L_136 rfl rfl rfl hd_X9_build ⟨Nat.le_trans (by decide) hR1, Nat.le_trans (by decide) hR2⟩) (tf_preV hk hW hax (ci := 9) rfl rfl trivial) rfl rfl hl.1 rfl (lv_room (Nat.le_of_ble_eq_true rfl)) dL_law_1191 ⟨Nat.le_trans (by omega) hR3, Nat.le_trans (by omega) hR4⟩) hW (by decide) (fun z2 H2 locs2 hW hF2 hp2 => ?_)
  have hs3 := tf_keepF hF2 hax rfl rfl (by decide) hf0
  have hs4 := tf_keepF hF2 hax rfl rfl (by decide) hf1
  have hs5 := tf_keepF hF2 ham rfl rfl (by decide) hf2
  have hs6 := tf_keepF hF2 ham rfl rfl (by decide) hf3
  have hs7 := tf_keepF hF2 hax rfl rfl (by decide) hf4
  have hs8 := tf_keepF hF2 ham rfl rfl (by decide) hf5
  have hs9 := tf_keepN hF2 him rfl (by decide) hf6
  have hs10 := tf_keepC hF2 hkp rfl (by decide) hf7
  obtain ⟨hp2_0, hp2_1⟩ := hp2
  refine lv_pop hx hb dL_law_1194 rfl ?_
  refine lv_aload_n hx hb dL_law_1195 rfl (lv_at hl 1 rfl) ?_
  refine lv_aload_n hx hb dL_law_1196 rfl (lv_at hl 3 rfl) ?_
  refine lv_iload_n hx hb dL_law_1197 rfl (lv_at hl 0 rfl) ?_
  refine tf_iconst hx hb dL_law_1198 ?_
  refine tf_iadd hx hb dL_law_1199 ?_
  refine lw_sld (sx := sx) hx hb hX hbl hBs hL hW (by omega) (by omega) dL_law_1200 ?_
  have hsx11 := hsx (ii + 1)
  refine tf_calli (va_runV (As := [.int (Int32.ofInt ((sx (ii + 1))))]) (rest := []) ⟨hx, hb, hml, hown, hts⟩ (c_X10_build l g T am ham ((sx (ii + 1))) ⟨by omega, by omega⟩) (cwV 1 hts gv_L_139 rfl rfl rfl hd_X10_build ⟨Nat.le_trans (by decide) hR1, Nat.le_trans (by decide) hR2⟩) (tf_preV hk hW ham (ci := 10) rfl rfl trivial) rfl rfl hl.1 rfl (lv_room (Nat.le_of_ble_eq_true rfl)) dL_law_1201 ⟨Nat.le_trans (by omega) hR3, Nat.le_trans (by omega) hR4⟩) hW (by decide) (fun z12 H12 locs12 hW hF12 hp12 => ?_)
  have hs13 := tf_keepF hF12 hax rfl rfl (by decide) hs3
  have hs14 := tf_keepF hF12 hax rfl rfl (by decide) hs4
  have hs15 := tf_keepF hF12 ham rfl rfl (by decide) hs5
  have hs16 := tf_keepF hF12 ham rfl rfl (by decide) hs6
  have hs17 := tf_keepF hF12 hax rfl rfl (by decide) hs7
  have hs18 := tf_keepF hF12 ham rfl rfl (by decide) hs8
  have hs19 := tf_keepN hF12 him rfl (by decide) hs9
  have hs20 := tf_keepC hF12 hkp rfl (by decide) hs10
  obtain ⟨hp12_0, hp12_1⟩ := hp12
  refine lv_pop hx hb dL_law_1204 rfl ?_
  refine lv_goto (tgt := 1498) hx hb dL_law_1205 (by decide) ?_
  refine W.widen (k := 130 + 30 * jj) (n := 31200 + 1200 * jj) (by omega) (by omega) ?_
  exact hnx _ _ _ hW hax ham (tt) (uu) ⟨by omega, by omega⟩ ⟨by omega, by omega⟩ hs13 hs14 (tf_eqv hs15 (by omega)) (tf_eqv hs16 (by omega)) him hkp rn rk (by omega) (by omega) hs17 hs18 hs19 hs20 _ (lv_sub hl [0, 1, 2, 3] rfl)

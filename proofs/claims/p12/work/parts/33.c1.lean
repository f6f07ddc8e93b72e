set_option maxHeartbeats 4000000 in
set_option maxRecDepth 100000 in
theorem lc_588 {p : Program} {l : Launch} {e : Env} {s : State} {m : MethodId} {below : List Frame} {meth : Method} {c : Code} {b L : Nat} {g : tf_G} {sx : Int → Int} {Q : State → Prop} (E : lw_E p s m c b L g sx) (ax am im kp jj : Nat) (ii : Int) (hii : ii = 6 * (jj : Int)) (hij : ii + 6 ≤ (L : Int)) (hnx : lw_nx p l e s m below meth c b g ax am im kp jj ii Q) (T : tf_T) (H : Heap) (locs : List Loc) (hW : tf_n tf_kt g M_law (fun _ => none) s.heap T H locs) (hax : T ax = some (26, 0)) (ham : T am = some (50, 0)) (tt uu : Int) (htt : 0 ≤ tt ∧ tt ≤ 400) (huu : tf_r uu) (hf0 : tf_s H ax (g.1.2 9 7) = some (.int (Int32.ofInt tt))) (hf1 : tf_s H ax (g.1.2 9 8) = some (.int (Int32.ofInt uu))) (hf2 : tf_s H am (g.1.2 10 8) = some (.int (Int32.ofInt tt))) (hf3 : tf_s H am (g.1.2 10 6) = some (.int (Int32.ofInt uu))) (him : T im = some (14, 2)) (hkp : T kp = some (30, 2)) (rn rk : Int → Int) (hr0 : rn 0 = rk 0) (hr1 : rn 1 = rk 1) (hf4 : tf_s H ax (g.1.2 9 1) = some (.ref im)) (hf5 : tf_s H am (g.1.2 10 5) = some (.ref kp)) (hf6 : tf_nl H im = rn) (hf7 : tf_rw H kp = rk) (ls : Array Slot) (hl : lv_has ls 4 [(3, .int (Int32.ofInt ii)), (2, .ref am), (1, .ref ax), (0, .ref b)]) : W p l e room_1 s m #[Value.ref b] below meth c H locs (100 + 30 * jj) (30000 + 1200 * jj) Q (F0 m 588 ls []) := by
  obtain ⟨hx, hb, hml, hown, hts, hbl, hk, hBs, hsx, hX, hL⟩ := id E
  have hR1 := lw_R1
  have hR2 := lw_R2
  have hR3 := lw_R3
  have hR4 := lw_R4
  have hK := hk.1
  have hE : tf_E g T := trivial
  refine lv_aload_n hx hb dL_law_588 rfl (lv_at hl 2 rfl) ?_
  refine tf_calli (va_runV (As := []) (rest := []) ⟨hx, hb, hml, hown, hts⟩ (f_X9_torn l g T ax hax (uu) ⟨by omega, by omega⟩) (cwV 0 hts gv_L_58 rfl rfl rfl hd_X9_torn ⟨Nat.le_trans (by decide) hR1, Nat.le_trans (by decide) hR2⟩) (tf_preV hk hW hax (ci := 9) rfl rfl hf1) rfl rfl hl.1 rfl (lv_room (Nat.le_of_ble_eq_true rfl)) dL_law_589 ⟨Nat.le_trans (by omega) hR3, Nat.le_trans (by omega) hR4⟩) hW (by decide) (fun z1 H1 locs1 hW hF1 hp1 => ?_)
  have hs2 := tf_keepF hF1 hax rfl rfl (by decide) hf0
  have hs3 := tf_keepF hF1 hax rfl rfl (by decide) hf1
  have hs4 := tf_keepF hF1 ham rfl rfl (by decide) hf2
  have hs5 := tf_keepF hF1 ham rfl rfl (by decide) hf3
  have hs6 := tf_keepF hF1 hax rfl rfl (by decide) hf4
  have hs7 := tf_keepF hF1 ham rfl rfl (by decide) hf5
  have hs8 := tf_keepN hF1 him rfl (by decide) hf6
  have hs9 := tf_keepC hF1 hkp rfl (by decide) hf7
  obtain ⟨hp1_0, hp1_1, hp1_2⟩ := hp1
  refine lv_aload_n hx hb dL_law_592 rfl (lv_at hl 1 rfl) ?_
  refine tf_calli (va_runV (As := []) (rest := [.int (Int32.ofInt z1)]) ⟨hx, hb, hml, hown, hts⟩ (f_X10_torn l g T am ham (uu) ⟨by omega, by omega⟩) (cwV 0 hts gv_L_61 rfl rfl rfl hd_X10_torn ⟨Nat.le_trans (by decide) hR1, Nat.le_trans (by decide) hR2⟩) (tf_preV hk hW ham (ci := 10) rfl rfl hs5) rfl rfl hl.1 rfl (lv_room (Nat.le_of_ble_eq_true rfl)) dL_law_593 ⟨Nat.le_trans (by omega) hR3, Nat.le_trans (by omega) hR4⟩) hW (by decide) (fun z10 H10 locs10 hW hF10 hp10 => ?_)
  have hs11 := tf_keepF hF10 hax rfl rfl (by decide) hs2
  have hs12 := tf_keepF hF10 hax rfl rfl (by decide) hs3
  have hs13 := tf_keepF hF10 ham rfl rfl (by decide) hs4
  have hs14 := tf_keepF hF10 ham rfl rfl (by decide) hs5
  have hs15 := tf_keepF hF10 hax rfl rfl (by decide) hs6
  have hs16 := tf_keepF hF10 ham rfl rfl (by decide) hs7
  have hs17 := tf_keepN hF10 him rfl (by decide) hs8
  have hs18 := tf_keepC hF10 hkp rfl (by decide) hs9
  obtain ⟨hp10_0, hp10_1, hp10_2⟩ := hp10
  refine tf_icmp_eq (tgt := 1498) hx hb ⟨by omega, by omega⟩ ⟨by omega, by omega⟩ dL_law_596 (by decide) (fun h19 => ?_) (fun h19 => ?_)
  · refine W.widen (k := 130 + 30 * jj) (n := 31200 + 1200 * jj) (by omega) (by omega) ?_
    exact hnx _ _ _ hW hax ham (tt) (uu) ⟨by omega, by omega⟩ ⟨by omega, by omega⟩ hs11 hs12 (tf_eqv hs13 (by omega)) (tf_eqv hs14 (by omega)) him hkp rn rk (by omega) (by omega) hs15 hs16 hs17 hs18 _ (lv_sub hl [0, 1, 2, 3] rfl)
  · exfalso; omega

set_option maxHeartbeats 4000000 in
set_option maxRecDepth 100000 in
theorem lc_601 {p : Program} {l : Launch} {e : Env} {s : State} {m : MethodId} {below : List Frame} {meth : Method} {c : Code} {b L : Nat} {g : tf_G} {sx : Int → Int} {Q : State → Prop} (E : lw_E p s m c b L g sx) (ax am im kp jj : Nat) (ii : Int) (hii : ii = 6 * (jj : Int)) (hij : ii + 6 ≤ (L : Int)) (hnx : lw_nx p l e s m below meth c b g ax am im kp jj ii Q) (T : tf_T) (H : Heap) (locs : List Loc) (hW : tf_n tf_kt g M_law (fun _ => none) s.heap T H locs) (hax : T ax = some (26, 0)) (ham : T am = some (50, 0)) (tt uu : Int) (htt : 0 ≤ tt ∧ tt ≤ 400) (huu : tf_r uu) (hf0 : tf_s H ax (g.1.2 9 7) = some (.int (Int32.ofInt tt))) (hf1 : tf_s H ax (g.1.2 9 8) = some (.int (Int32.ofInt uu))) (hf2 : tf_s H am (g.1.2 10 8) = some (.int (Int32.ofInt tt))) (hf3 : tf_s H am (g.1.2 10 6) = some (.int (Int32.ofInt uu))) (him : T im = some (14, 2)) (hkp : T kp = some (30, 2)) (rn rk : Int → Int) (hr0 : rn 0 = rk 0) (hr1 : rn 1 = rk 1) (hf4 : tf_s H ax (g.1.2 9 1) = some (.ref im)) (hf5 : tf_s H am (g.1.2 10 5) = some (.ref kp)) (hf6 : tf_nl H im = rn) (hf7 : tf_rw H kp = rk) (ls : Array Slot) (hl : lv_has ls 4 [(3, .int (Int32.ofInt ii)), (2, .ref am), (1, .ref ax), (0, .ref b)]) : W p l e room_1 s m #[Value.ref b] below meth c H locs (100 + 30 * jj) (30000 + 1200 * jj) Q (F0 m 601 ls []) := by
  obtain ⟨hx, hb, hml, hown, hts, hbl, hk, hBs, hsx, hX, hL⟩ := id E
  have hR1 := lw_R1
  have hR2 := lw_R2
  have hR3 := lw_R3
  have hR4 := lw_R4
  have hK := hk.1
  have hE : tf_E g T := trivial
  refine lv_aload_n hx hb dL_law_601 rfl (lv_at hl 2 rfl) ?_
  refine tf_callI (va_runV (As := []) (rest := []) ⟨hx, hb, hml, hown, hts⟩ (f_X9_law l g T ax hax (tt) ⟨by omega, by omega⟩) (cwV 0 hts gv_L_62 rfl rfl rfl hd_X9_law ⟨Nat.le_trans (by decide) hR1, Nat.le_trans (by decide) hR2⟩) (tf_preV hk hW hax (ci := 9) rfl rfl hf0) rfl rfl hl.1 rfl (lv_room (Nat.le_of_ble_eq_true rfl)) dL_law_602 ⟨Nat.le_trans (by omega) hR3, Nat.le_trans (by omega) hR4⟩) hW (by decide) (fun z1 H1 locs1 T hW hE1 hF1 hp1 => ?_)
  have hs2 := tf_keepF hF1 hax rfl rfl (by decide) hf1
  have hs3 := tf_keepF hF1 ham rfl rfl (by decide) hf2
  have hs4 := tf_keepF hF1 ham rfl rfl (by decide) hf3
  have hs5 := tf_keepF hF1 hax rfl rfl (by decide) hf4
  have hs6 := tf_keepF hF1 ham rfl rfl (by decide) hf5
  have hs7 := tf_keepN hF1 him rfl (by decide) hf6
  have hs8 := tf_keepC hF1 hkp rfl (by decide) hf7
  have ham := hE1 _ _ ham
  have hax := hE1 _ _ hax
  have him := hE1 _ _ him
  have hkp := hE1 _ _ hkp
  have hE := hE.mono hE1
  obtain ⟨hp1_0, hp1_1, hp1_2⟩ := hp1
  obtain ⟨t1_1, hX1_0, hB1_0, hR1_0⟩ := hp1_2
  refine lv_pop hx hb dL_law_605 rfl ?_
  refine lv_aload_n hx hb dL_law_606 rfl (lv_at hl 1 rfl) ?_
  refine tf_calli (va_runV (As := []) (rest := []) ⟨hx, hb, hml, hown, hts⟩ (f_X10_law l g T am ham (tt) ⟨by omega, by omega⟩) (cwV 0 hts gv_L_65 rfl rfl rfl hd_X10_law ⟨Nat.le_trans (by decide) hR1, Nat.le_trans (by decide) hR2⟩) (tf_preV hk hW ham (ci := 10) rfl rfl hs3) rfl rfl hl.1 rfl (lv_room (Nat.le_of_ble_eq_true rfl)) dL_law_607 ⟨Nat.le_trans (by omega) hR3, Nat.le_trans (by omega) hR4⟩) hW (by decide) (fun z9 H9 locs9 hW hF9 hp9 => ?_)
  have hs10 := tf_keepF hF9 hax rfl rfl (by decide) hs2
  have hs11 := tf_keepF hF9 ham rfl rfl (by decide) hs4
  have hs12 := tf_keepF hF9 hax rfl rfl (by decide) hs5
  have hs13 := tf_keepF hF9 ham rfl rfl (by decide) hs6
  have hs14 := tf_keepN hF9 him rfl (by decide) hs7
  have hs15 := tf_keepC hF9 hkp rfl (by decide) hs8
  have hs16 := tf_keepF hF9 hax rfl rfl (by decide) hX1_0
  obtain ⟨hp9_0, hp9_1, hp9_2⟩ := hp9
  obtain ⟨t1_9, hX9_0, hB9_0, hR9_0⟩ := hp9_2
  refine lv_pop hx hb dL_law_610 rfl ?_
  refine lv_goto (tgt := 1498) hx hb dL_law_611 (by decide) ?_
  refine W.widen (k := 130 + 30 * jj) (n := 31200 + 1200 * jj) (by omega) (by omega) ?_
  exact hnx _ _ _ hW hax ham (t1_1) (uu) ⟨by omega, by omega⟩ ⟨by omega, by omega⟩ hs16 hs10 (tf_eqv hX9_0 (by omega)) (tf_eqv hs11 (by omega)) him hkp rn rk (by omega) (by omega) hs12 hs13 hs14 hs15 _ (lv_sub hl [0, 1, 2, 3] rfl)

set_option maxHeartbeats 4000000 in
set_option maxRecDepth 100000 in
theorem lc_614 {p : Program} {l : Launch} {e : Env} {s : State} {m : MethodId} {below : List Frame} {meth : Method} {c : Code} {b L : Nat} {g : tf_G} {sx : Int → Int} {Q : State → Prop} (E : lw_E p s m c b L g sx) (ax am im kp jj : Nat) (ii : Int) (hii : ii = 6 * (jj : Int)) (hij : ii + 6 ≤ (L : Int)) (hnx : lw_nx p l e s m below meth c b g ax am im kp jj ii Q) (T : tf_T) (H : Heap) (locs : List Loc) (hW : tf_n tf_kt g M_law (fun _ => none) s.heap T H locs) (hax : T ax = some (26, 0)) (ham : T am = some (50, 0)) (tt uu : Int) (htt : 0 ≤ tt ∧ tt ≤ 400) (huu : tf_r uu) (hf0 : tf_s H ax (g.1.2 9 7) = some (.int (Int32.ofInt tt))) (hf1 : tf_s H ax (g.1.2 9 8) = some (.int (Int32.ofInt uu))) (hf2 : tf_s H am (g.1.2 10 8) = some (.int (Int32.ofInt tt))) (hf3 : tf_s H am (g.1.2 10 6) = some (.int (Int32.ofInt uu))) (him : T im = some (14, 2)) (hkp : T kp = some (30, 2)) (rn rk : Int → Int) (hr0 : rn 0 = rk 0) (hr1 : rn 1 = rk 1) (hf4 : tf_s H ax (g.1.2 9 1) = some (.ref im)) (hf5 : tf_s H am (g.1.2 10 5) = some (.ref kp)) (hf6 : tf_nl H im = rn) (hf7 : tf_rw H kp = rk) (ls : Array Slot) (hl : lv_has ls 4 [(3, .int (Int32.ofInt ii)), (2, .ref am), (1, .ref ax), (0, .ref b)]) : W p l e room_1 s m #[Value.ref b] below meth c H locs (100 + 30 * jj) (30000 + 1200 * jj) Q (F0 m 614 ls []) := by
  obtain ⟨hx, hb, hml, hown, hts, hbl, hk, hBs, hsx, hX, hL⟩ := id E
  have hR1 := lw_R1
  have hR2 := lw_R2
  have hR3 := lw_R3
  have hR4 := lw_R4
  have hK := hk.1
  have hE : tf_E g T := trivial
  refine lv_aload_n hx hb dL_law_614 rfl (lv_at hl 2 rfl) ?_
  refine tf_calli (va_runV (As := []) (rest := []) ⟨hx, hb, hml, hown, hts⟩ (c_X9_fault l g T ax hax) (cwV 0 hts gv_L_66 rfl rfl rfl hd_X9_fault ⟨Nat.le_trans (by decide) hR1, Nat.le_trans (by decide) hR2⟩) (tf_preV hk hW hax (ci := 9) rfl rfl trivial) rfl rfl hl.1 rfl (lv_room (Nat.le_of_ble_eq_true rfl)) dL_law_615 ⟨Nat.le_trans (by omega) hR3, Nat.le_trans (by omega) hR4⟩) hW (by decide) (fun z1 H1 locs1 hW hF1 hp1 => ?_)
  have hs2 := tf_keepF hF1 hax rfl rfl (by decide) hf0
  have hs3 := tf_keepF hF1 hax rfl rfl (by decide) hf1
  have hs4 := tf_keepF hF1 ham rfl rfl (by decide) hf2
  have hs5 := tf_keepF hF1 ham rfl rfl (by decide) hf3
  have hs6 := tf_keepF hF1 hax rfl rfl (by decide) hf4
  have hs7 := tf_keepF hF1 ham rfl rfl (by decide) hf5
  have hs8 := tf_keepN hF1 him rfl (by decide) hf6
  have hs9 := tf_keepC hF1 hkp rfl (by decide) hf7
  obtain ⟨hp1_0, hp1_1⟩ := hp1
  refine lv_pop hx hb dL_law_618 rfl ?_
  refine lv_aload_n hx hb dL_law_619 rfl (lv_at hl 1 rfl) ?_
  refine tf_calli (va_runV (As := []) (rest := []) ⟨hx, hb, hml, hown, hts⟩ (c_X10_fault l g T am ham) (cwV 0 hts gv_L_69 rfl rfl rfl hd_X10_fault ⟨Nat.le_trans (by decide) hR1, Nat.le_trans (by decide) hR2⟩) (tf_preV hk hW ham (ci := 10) rfl rfl trivial) rfl rfl hl.1 rfl (lv_room (Nat.le_of_ble_eq_true rfl)) dL_law_620 ⟨Nat.le_trans (by omega) hR3, Nat.le_trans (by omega) hR4⟩) hW (by decide) (fun z10 H10 locs10 hW hF10 hp10 => ?_)
  have hs11 := tf_keepF hF10 hax rfl rfl (by decide) hs2
  have hs12 := tf_keepF hF10 hax rfl rfl (by decide) hs3
  have hs13 := tf_keepF hF10 ham rfl rfl (by decide) hs4
  have hs14 := tf_keepF hF10 ham rfl rfl (by decide) hs5
  have hs15 := tf_keepF hF10 hax rfl rfl (by decide) hs6
  have hs16 := tf_keepF hF10 ham rfl rfl (by decide) hs7
  have hs17 := tf_keepN hF10 him rfl (by decide) hs8
  have hs18 := tf_keepC hF10 hkp rfl (by decide) hs9
  obtain ⟨hp10_0, hp10_1⟩ := hp10
  refine lv_pop hx hb dL_law_623 rfl ?_
  refine lv_goto (tgt := 1498) hx hb dL_law_624 (by decide) ?_
  refine W.widen (k := 130 + 30 * jj) (n := 31200 + 1200 * jj) (by omega) (by omega) ?_
  exact hnx _ _ _ hW hax ham (tt) (uu) ⟨by omega, by omega⟩ ⟨by omega, by omega⟩ hs11 hs12 (tf_eqv hs13 (by omega)) (tf_eqv hs14 (by omega)) him hkp rn rk (by omega) (by omega) hs15 hs16 hs17 hs18 _ (lv_sub hl [0, 1, 2, 3] rfl)

set_option maxHeartbeats 4000000 in
set_option maxRecDepth 100000 in
theorem lc_627 {p : Program} {l : Launch} {e : Env} {s : State} {m : MethodId} {below : List Frame} {meth : Method} {c : Code} {b L : Nat} {g : tf_G} {sx : Int → Int} {Q : State → Prop} (E : lw_E p s m c b L g sx) (ax am im kp jj : Nat) (ii : Int) (hii : ii = 6 * (jj : Int)) (hij : ii + 6 ≤ (L : Int)) (hnx : lw_nx p l e s m below meth c b g ax am im kp jj ii Q) (T : tf_T) (H : Heap) (locs : List Loc) (hW : tf_n tf_kt g M_law (fun _ => none) s.heap T H locs) (hax : T ax = some (26, 0)) (ham : T am = some (50, 0)) (tt uu : Int) (htt : 0 ≤ tt ∧ tt ≤ 400) (huu : tf_r uu) (hf0 : tf_s H ax (g.1.2 9 7) = some (.int (Int32.ofInt tt))) (hf1 : tf_s H ax (g.1.2 9 8) = some (.int (Int32.ofInt uu))) (hf2 : tf_s H am (g.1.2 10 8) = some (.int (Int32.ofInt tt))) (hf3 : tf_s H am (g.1.2 10 6) = some (.int (Int32.ofInt uu))) (him : T im = some (14, 2)) (hkp : T kp = some (30, 2)) (rn rk : Int → Int) (hr0 : rn 0 = rk 0) (hr1 : rn 1 = rk 1) (hf4 : tf_s H ax (g.1.2 9 1) = some (.ref im)) (hf5 : tf_s H am (g.1.2 10 5) = some (.ref kp)) (hf6 : tf_nl H im = rn) (hf7 : tf_rw H kp = rk) (ls : Array Slot) (hl : lv_has ls 4 [(3, .int (Int32.ofInt ii)), (2, .ref am), (1, .ref ax), (0, .ref b)]) : W p l e room_1 s m #[Value.ref b] below meth c H locs (100 + 30 * jj) (30000 + 1200 * jj) Q (F0 m 627 ls []) := by
  obtain ⟨hx, hb, hml, hown, hts, hbl, hk, hBs, hsx, hX, hL⟩ := id E
  have hR1 := lw_R1
  have hR2 := lw_R2
  have hR3 := lw_R3
  have hR4 := lw_R4
  have hK := hk.1
  have hE : tf_E g T := trivial
  refine lv_aload_n hx hb dL_law_627 rfl (lv_at hl 2 rfl) ?_
  refine lv_aload_n hx hb dL_law_628 rfl (lv_at hl 3 rfl) ?_
  refine lv_iload_n hx hb dL_law_629 rfl (lv_at hl 0 rfl) ?_
  refine tf_iconst hx hb dL_law_630 ?_
  refine tf_iadd hx hb dL_law_631 ?_
  refine lw_sld (sx := sx) hx hb hX hbl hBs hL hW (by omega) (by omega) dL_law_632 ?_
  have hsx1 := hsx (ii + 1)
  refine tf_calli (va_runV (As := [.int (Int32.ofInt ((sx (ii + 1))))]) (rest := []) ⟨hx, hb, hml, hown, hts⟩ (c_X9_force l g T ax hax ((sx (ii + 1))) ⟨by omega, by omega⟩) (cwV 1 hts gv_L_70 rfl rfl rfl hd_X9_force ⟨Nat.le_trans (by decide) hR1, Nat.le_trans (by decide) hR2⟩) (tf_preV hk hW hax (ci := 9) rfl rfl trivial) rfl rfl hl.1 rfl (lv_room (Nat.le_of_ble_eq_true rfl)) dL_law_633 ⟨Nat.le_trans (by omega) hR3, Nat.le_trans (by omega) hR4⟩) hW (by decide) (fun z2 H2 locs2 hW hF2 hp2 => ?_)
  have hs3 := tf_keepF hF2 hax rfl rfl (by decide) hf0
  have hs4 := tf_keepF hF2 hax rfl rfl (by decide) hf1
  have hs5 := tf_keepF hF2 ham rfl rfl (by decide) hf2
  have hs6 := tf_keepF hF2 ham rfl rfl (by decide) hf3
  have hs7 := tf_keepF hF2 hax rfl rfl (by decide) hf4
  have hs8 := tf_keepF hF2 ham rfl rfl (by decide) hf5
  have hs9 := tf_keepN hF2 him rfl (by decide) hf6
  have hs10 := tf_keepC hF2 hkp rfl (by decide) hf7
  obtain ⟨hp2_0, hp2_1⟩ := hp2
  refine lv_pop hx hb dL_law_636 rfl ?_
  refine lv_aload_n hx hb dL_law_637 rfl (lv_at hl 1 rfl) ?_
  refine lv_aload_n hx hb dL_law_638 rfl (lv_at hl 3 rfl) ?_
  refine lv_iload_n hx hb dL_law_639 rfl (lv_at hl 0 rfl) ?_
  refine tf_iconst hx hb dL_law_640 ?_
  refine tf_iadd hx hb dL_law_641 ?_
  refine lw_sld (sx := sx) hx hb hX hbl hBs hL hW (by omega) (by omega) dL_law_642 ?_
  have hsx11 := hsx (ii + 1)
  refine tf_calli (va_runV (As := [.int (Int32.ofInt ((sx (ii + 1))))]) (rest := []) ⟨hx, hb, hml, hown, hts⟩ (c_X10_force l g T am ham ((sx (ii + 1))) ⟨by omega, by omega⟩) (cwV 1 hts gv_L_73 rfl rfl rfl hd_X10_force ⟨Nat.le_trans (by decide) hR1, Nat.le_trans (by decide) hR2⟩) (tf_preV hk hW ham (ci := 10) rfl rfl trivial) rfl rfl hl.1 rfl (lv_room (Nat.le_of_ble_eq_true rfl)) dL_law_643 ⟨Nat.le_trans (by omega) hR3, Nat.le_trans (by omega) hR4⟩) hW (by decide) (fun z12 H12 locs12 hW hF12 hp12 => ?_)
  have hs13 := tf_keepF hF12 hax rfl rfl (by decide) hs3
  have hs14 := tf_keepF hF12 hax rfl rfl (by decide) hs4
  have hs15 := tf_keepF hF12 ham rfl rfl (by decide) hs5
  have hs16 := tf_keepF hF12 ham rfl rfl (by decide) hs6
  have hs17 := tf_keepF hF12 hax rfl rfl (by decide) hs7
  have hs18 := tf_keepF hF12 ham rfl rfl (by decide) hs8
  have hs19 := tf_keepN hF12 him rfl (by decide) hs9
  have hs20 := tf_keepC hF12 hkp rfl (by decide) hs10
  obtain ⟨hp12_0, hp12_1⟩ := hp12
  refine lv_pop hx hb dL_law_646 rfl ?_
  refine lv_goto (tgt := 1498) hx hb dL_law_647 (by decide) ?_
  refine W.widen (k := 130 + 30 * jj) (n := 31200 + 1200 * jj) (by omega) (by omega) ?_
  exact hnx _ _ _ hW hax ham (tt) (uu) ⟨by omega, by omega⟩ ⟨by omega, by omega⟩ hs13 hs14 (tf_eqv hs15 (by omega)) (tf_eqv hs16 (by omega)) him hkp rn rk (by omega) (by omega) hs17 hs18 hs19 hs20 _ (lv_sub hl [0, 1, 2, 3] rfl)

set_option maxHeartbeats 4000000 in
set_option maxRecDepth 100000 in
theorem lc_650 {p : Program} {l : Launch} {e : Env} {s : State} {m : MethodId} {below : List Frame} {meth : Method} {c : Code} {b L : Nat} {g : tf_G} {sx : Int → Int} {Q : State → Prop} (E : lw_E p s m c b L g sx) (ax am im kp jj : Nat) (ii : Int) (hii : ii = 6 * (jj : Int)) (hij : ii + 6 ≤ (L : Int)) (hnx : lw_nx p l e s m below meth c b g ax am im kp jj ii Q) (T : tf_T) (H : Heap) (locs : List Loc) (hW : tf_n tf_kt g M_law (fun _ => none) s.heap T H locs) (hax : T ax = some (26, 0)) (ham : T am = some (50, 0)) (tt uu : Int) (htt : 0 ≤ tt ∧ tt ≤ 400) (huu : tf_r uu) (hf0 : tf_s H ax (g.1.2 9 7) = some (.int (Int32.ofInt tt))) (hf1 : tf_s H ax (g.1.2 9 8) = some (.int (Int32.ofInt uu))) (hf2 : tf_s H am (g.1.2 10 8) = some (.int (Int32.ofInt tt))) (hf3 : tf_s H am (g.1.2 10 6) = some (.int (Int32.ofInt uu))) (him : T im = some (14, 2)) (hkp : T kp = some (30, 2)) (rn rk : Int → Int) (hr0 : rn 0 = rk 0) (hr1 : rn 1 = rk 1) (hf4 : tf_s H ax (g.1.2 9 1) = some (.ref im)) (hf5 : tf_s H am (g.1.2 10 5) = some (.ref kp)) (hf6 : tf_nl H im = rn) (hf7 : tf_rw H kp = rk) (ls : Array Slot) (hl : lv_has ls 4 [(3, .int (Int32.ofInt ii)), (2, .ref am), (1, .ref ax), (0, .ref b)]) : W p l e room_1 s m #[Value.ref b] below meth c H locs (100 + 30 * jj) (30000 + 1200 * jj) Q (F0 m 650 ls []) := by
  obtain ⟨hx, hb, hml, hown, hts, hbl, hk, hBs, hsx, hX, hL⟩ := id E
  have hR1 := lw_R1
  have hR2 := lw_R2
  have hR3 := lw_R3
  have hR4 := lw_R4
  have hK := hk.1
  have hE : tf_E g T := trivial
  refine lv_aload_n hx hb dL_law_650 rfl (lv_at hl 2 rfl) ?_
  refine lv_aload_n hx hb dL_law_651 rfl (lv_at hl 3 rfl) ?_
  refine lv_iload_n hx hb dL_law_652 rfl (lv_at hl 0 rfl) ?_
  refine tf_iconst hx hb dL_law_653 ?_
  refine tf_iadd hx hb dL_law_654 ?_
  refine lw_sld (sx := sx) hx hb hX hbl hBs hL hW (by omega) (by omega) dL_law_655 ?_
  have hsx1 := hsx (ii + 1)
  refine lv_aload_n hx hb dL_law_656 rfl (lv_at hl 3 rfl) ?_
  refine lv_iload_n hx hb dL_law_657 rfl (lv_at hl 0 rfl) ?_
  refine tf_iconst hx hb dL_law_658 ?_
  refine tf_iadd hx hb dL_law_659 ?_
  refine lw_sld (sx := sx) hx hb hX hbl hBs hL hW (by omega) (by omega) dL_law_660 ?_
  have hsx2 := hsx (ii + 2)
  refine lv_aload_n hx hb dL_law_661 rfl (lv_at hl 3 rfl) ?_
  refine lv_iload_n hx hb dL_law_662 rfl (lv_at hl 0 rfl) ?_
  refine tf_iconst hx hb dL_law_663 ?_
  refine tf_iadd hx hb dL_law_664 ?_
  refine lw_sld (sx := sx) hx hb hX hbl hBs hL hW (by omega) (by omega) dL_law_665 ?_
  have hsx3 := hsx (ii + 3)
  refine tf_calli (va_runV (As := [.int (Int32.ofInt ((sx (ii + 1)))), .int (Int32.ofInt ((sx (ii + 2)))), .int (Int32.ofInt ((sx (ii + 3))))]) (rest := []) ⟨hx, hb, hml, hown, hts⟩ (c_X9_kind l g T ax hax ((sx (ii + 1))) ⟨by omega, by omega⟩ ((sx (ii + 2))) ⟨by omega, by omega⟩ ((sx (ii + 3))) ⟨by omega, by omega⟩ hE) (cwV 3 hts gv_L_74 rfl rfl rfl hd_X9_kind ⟨Nat.le_trans (by decide) hR1, Nat.le_trans (by decide) hR2⟩) (tf_preV hk hW hax (ci := 9) rfl rfl trivial) rfl rfl hl.1 rfl (lv_room (Nat.le_of_ble_eq_true rfl)) dL_law_666 ⟨Nat.le_trans (by omega) hR3, Nat.le_trans (by omega) hR4⟩) hW (by decide) (fun z4 H4 locs4 hW hF4 hp4 => ?_)
  have hs5 := tf_keepF hF4 hax rfl rfl (by decide) hf0
  have hs6 := tf_keepF hF4 hax rfl rfl (by decide) hf1
  have hs7 := tf_keepF hF4 ham rfl rfl (by decide) hf2
  have hs8 := tf_keepF hF4 ham rfl rfl (by decide) hf3
  have hs9 := tf_keepF hF4 hax rfl rfl (by decide) hf4
  have hs10 := tf_keepF hF4 ham rfl rfl (by decide) hf5
  have hs11 := tf_keepN hF4 him rfl (by decide) hf6
  have hs12 := tf_keepC hF4 hkp rfl (by decide) hf7
  obtain ⟨hp4_0, hp4_1⟩ := hp4
  refine lv_pop hx hb dL_law_669 rfl ?_
  refine lv_aload_n hx hb dL_law_670 rfl (lv_at hl 1 rfl) ?_
  refine lv_aload_n hx hb dL_law_671 rfl (lv_at hl 3 rfl) ?_
  refine lv_iload_n hx hb dL_law_672 rfl (lv_at hl 0 rfl) ?_
  refine tf_iconst hx hb dL_law_673 ?_
  refine tf_iadd hx hb dL_law_674 ?_
  refine lw_sld (sx := sx) hx hb hX hbl hBs hL hW (by omega) (by omega) dL_law_675 ?_
  have hsx13 := hsx (ii + 1)
  refine lv_aload_n hx hb dL_law_676 rfl (lv_at hl 3 rfl) ?_
  refine lv_iload_n hx hb dL_law_677 rfl (lv_at hl 0 rfl) ?_
  refine tf_iconst hx hb dL_law_678 ?_
  refine tf_iadd hx hb dL_law_679 ?_
  refine lw_sld (sx := sx) hx hb hX hbl hBs hL hW (by omega) (by omega) dL_law_680 ?_
  have hsx14 := hsx (ii + 2)
  refine lv_aload_n hx hb dL_law_681 rfl (lv_at hl 3 rfl) ?_
  refine lv_iload_n hx hb dL_law_682 rfl (lv_at hl 0 rfl) ?_
  refine tf_iconst hx hb dL_law_683 ?_
  refine tf_iadd hx hb dL_law_684 ?_
  refine lw_sld (sx := sx) hx hb hX hbl hBs hL hW (by omega) (by omega) dL_law_685 ?_
  have hsx15 := hsx (ii + 3)
  refine tf_calli (va_runV (As := [.int (Int32.ofInt ((sx (ii + 1)))), .int (Int32.ofInt ((sx (ii + 2)))), .int (Int32.ofInt ((sx (ii + 3))))]) (rest := []) ⟨hx, hb, hml, hown, hts⟩ (c_X10_kind l g T am ham ((sx (ii + 1))) ⟨by omega, by omega⟩ ((sx (ii + 2))) ⟨by omega, by omega⟩ ((sx (ii + 3))) ⟨by omega, by omega⟩) (cwV 3 hts gv_L_77 rfl rfl rfl hd_X10_kind ⟨Nat.le_trans (by decide) hR1, Nat.le_trans (by decide) hR2⟩) (tf_preV hk hW ham (ci := 10) rfl rfl trivial) rfl rfl hl.1 rfl (lv_room (Nat.le_of_ble_eq_true rfl)) dL_law_686 ⟨Nat.le_trans (by omega) hR3, Nat.le_trans (by omega) hR4⟩) hW (by decide) (fun z16 H16 locs16 hW hF16 hp16 => ?_)
  have hs17 := tf_keepF hF16 hax rfl rfl (by decide) hs5
  have hs18 := tf_keepF hF16 hax rfl rfl (by decide) hs6
  have hs19 := tf_keepF hF16 ham rfl rfl (by decide) hs7
  have hs20 := tf_keepF hF16 ham rfl rfl (by decide) hs8
  have hs21 := tf_keepF hF16 hax rfl rfl (by decide) hs9
  have hs22 := tf_keepF hF16 ham rfl rfl (by decide) hs10
  have hs23 := tf_keepN hF16 him rfl (by decide) hs11
  have hs24 := tf_keepC hF16 hkp rfl (by decide) hs12
  obtain ⟨hp16_0, hp16_1⟩ := hp16
  refine lv_pop hx hb dL_law_689 rfl ?_
  refine lv_goto (tgt := 1498) hx hb dL_law_690 (by decide) ?_
  refine W.widen (k := 130 + 30 * jj) (n := 31200 + 1200 * jj) (by omega) (by omega) ?_
  exact hnx _ _ _ hW hax ham (tt) (uu) ⟨by omega, by omega⟩ ⟨by omega, by omega⟩ hs17 hs18 (tf_eqv hs19 (by omega)) (tf_eqv hs20 (by omega)) him hkp rn rk (by omega) (by omega) hs21 hs22 hs23 hs24 _ (lv_sub hl [0, 1, 2, 3] rfl)

set_option maxHeartbeats 4000000 in
set_option maxRecDepth 100000 in
theorem lc_693 {p : Program} {l : Launch} {e : Env} {s : State} {m : MethodId} {below : List Frame} {meth : Method} {c : Code} {b L : Nat} {g : tf_G} {sx : Int → Int} {Q : State → Prop} (E : lw_E p s m c b L g sx) (ax am im kp jj : Nat) (ii : Int) (hii : ii = 6 * (jj : Int)) (hij : ii + 6 ≤ (L : Int)) (hnx : lw_nx p l e s m below meth c b g ax am im kp jj ii Q) (T : tf_T) (H : Heap) (locs : List Loc) (hW : tf_n tf_kt g M_law (fun _ => none) s.heap T H locs) (hax : T ax = some (26, 0)) (ham : T am = some (50, 0)) (tt uu : Int) (htt : 0 ≤ tt ∧ tt ≤ 400) (huu : tf_r uu) (hf0 : tf_s H ax (g.1.2 9 7) = some (.int (Int32.ofInt tt))) (hf1 : tf_s H ax (g.1.2 9 8) = some (.int (Int32.ofInt uu))) (hf2 : tf_s H am (g.1.2 10 8) = some (.int (Int32.ofInt tt))) (hf3 : tf_s H am (g.1.2 10 6) = some (.int (Int32.ofInt uu))) (him : T im = some (14, 2)) (hkp : T kp = some (30, 2)) (rn rk : Int → Int) (hr0 : rn 0 = rk 0) (hr1 : rn 1 = rk 1) (hf4 : tf_s H ax (g.1.2 9 1) = some (.ref im)) (hf5 : tf_s H am (g.1.2 10 5) = some (.ref kp)) (hf6 : tf_nl H im = rn) (hf7 : tf_rw H kp = rk) (ls : Array Slot) (hl : lv_has ls 4 [(3, .int (Int32.ofInt ii)), (2, .ref am), (1, .ref ax), (0, .ref b)]) : W p l e room_1 s m #[Value.ref b] below meth c H locs (100 + 30 * jj) (30000 + 1200 * jj) Q (F0 m 693 ls []) := by
  obtain ⟨hx, hb, hml, hown, hts, hbl, hk, hBs, hsx, hX, hL⟩ := id E
  have hR1 := lw_R1
  have hR2 := lw_R2
  have hR3 := lw_R3
  have hR4 := lw_R4
  have hK := hk.1
  have hE : tf_E g T := trivial
  refine lv_aload_n hx hb dL_law_693 rfl (lv_at hl 2 rfl) ?_
  refine lv_aload_n hx hb dL_law_694 rfl (lv_at hl 3 rfl) ?_
  refine lv_iload_n hx hb dL_law_695 rfl (lv_at hl 0 rfl) ?_
  refine tf_iconst hx hb dL_law_696 ?_
  refine tf_iadd hx hb dL_law_697 ?_
  refine lw_sld (sx := sx) hx hb hX hbl hBs hL hW (by omega) (by omega) dL_law_698 ?_
  have hsx1 := hsx (ii + 1)
  refine lv_aload_n hx hb dL_law_699 rfl (lv_at hl 3 rfl) ?_
  refine lv_iload_n hx hb dL_law_700 rfl (lv_at hl 0 rfl) ?_
  refine tf_iconst hx hb dL_law_701 ?_
  refine tf_iadd hx hb dL_law_702 ?_
  refine lw_sld (sx := sx) hx hb hX hbl hBs hL hW (by omega) (by omega) dL_law_703 ?_
  have hsx2 := hsx (ii + 2)
  refine tf_calli (va_runV (As := [.int (Int32.ofInt ((sx (ii + 1)))), .int (Int32.ofInt ((sx (ii + 2))))]) (rest := []) ⟨hx, hb, hml, hown, hts⟩ (c_X9_above l g T ax hax ((sx (ii + 1))) ⟨by omega, by omega⟩ ((sx (ii + 2))) ⟨by omega, by omega⟩ hE) (cwV 2 hts gv_L_78 rfl rfl rfl hd_X9_above ⟨Nat.le_trans (by decide) hR1, Nat.le_trans (by decide) hR2⟩) (tf_preV hk hW hax (ci := 9) rfl rfl trivial) rfl rfl hl.1 rfl (lv_room (Nat.le_of_ble_eq_true rfl)) dL_law_704 ⟨Nat.le_trans (by omega) hR3, Nat.le_trans (by omega) hR4⟩) hW (by decide) (fun z3 H3 locs3 hW hF3 hp3 => ?_)
  have hs4 := tf_keepF hF3 hax rfl rfl (by decide) hf0
  have hs5 := tf_keepF hF3 hax rfl rfl (by decide) hf1
  have hs6 := tf_keepF hF3 ham rfl rfl (by decide) hf2
  have hs7 := tf_keepF hF3 ham rfl rfl (by decide) hf3
  have hs8 := tf_keepF hF3 hax rfl rfl (by decide) hf4
  have hs9 := tf_keepF hF3 ham rfl rfl (by decide) hf5
  have hs10 := tf_keepN hF3 him rfl (by decide) hf6
  have hs11 := tf_keepC hF3 hkp rfl (by decide) hf7
  obtain ⟨hp3_0, hp3_1⟩ := hp3
  refine lv_pop hx hb dL_law_707 rfl ?_
  refine lv_aload_n hx hb dL_law_708 rfl (lv_at hl 1 rfl) ?_
  refine lv_aload_n hx hb dL_law_709 rfl (lv_at hl 3 rfl) ?_
  refine lv_iload_n hx hb dL_law_710 rfl (lv_at hl 0 rfl) ?_
  refine tf_iconst hx hb dL_law_711 ?_
  refine tf_iadd hx hb dL_law_712 ?_
  refine lw_sld (sx := sx) hx hb hX hbl hBs hL hW (by omega) (by omega) dL_law_713 ?_
  have hsx12 := hsx (ii + 1)
  refine lv_aload_n hx hb dL_law_714 rfl (lv_at hl 3 rfl) ?_
  refine lv_iload_n hx hb dL_law_715 rfl (lv_at hl 0 rfl) ?_
  refine tf_iconst hx hb dL_law_716 ?_
  refine tf_iadd hx hb dL_law_717 ?_
  refine lw_sld (sx := sx) hx hb hX hbl hBs hL hW (by omega) (by omega) dL_law_718 ?_
  have hsx13 := hsx (ii + 2)
  refine tf_calli (va_runV (As := [.int (Int32.ofInt ((sx (ii + 1)))), .int (Int32.ofInt ((sx (ii + 2))))]) (rest := []) ⟨hx, hb, hml, hown, hts⟩ (c_X10_above l g T am ham ((sx (ii + 1))) ⟨by omega, by omega⟩ ((sx (ii + 2))) ⟨by omega, by omega⟩) (cwV 2 hts gv_L_81 rfl rfl rfl hd_X10_above ⟨Nat.le_trans (by decide) hR1, Nat.le_trans (by decide) hR2⟩) (tf_preV hk hW ham (ci := 10) rfl rfl trivial) rfl rfl hl.1 rfl (lv_room (Nat.le_of_ble_eq_true rfl)) dL_law_719 ⟨Nat.le_trans (by omega) hR3, Nat.le_trans (by omega) hR4⟩) hW (by decide) (fun z14 H14 locs14 hW hF14 hp14 => ?_)
  have hs15 := tf_keepF hF14 hax rfl rfl (by decide) hs4
  have hs16 := tf_keepF hF14 hax rfl rfl (by decide) hs5
  have hs17 := tf_keepF hF14 ham rfl rfl (by decide) hs6
  have hs18 := tf_keepF hF14 ham rfl rfl (by decide) hs7
  have hs19 := tf_keepF hF14 hax rfl rfl (by decide) hs8
  have hs20 := tf_keepF hF14 ham rfl rfl (by decide) hs9
  have hs21 := tf_keepN hF14 him rfl (by decide) hs10
  have hs22 := tf_keepC hF14 hkp rfl (by decide) hs11
  obtain ⟨hp14_0, hp14_1⟩ := hp14
  refine lv_pop hx hb dL_law_722 rfl ?_
  refine lv_goto (tgt := 1498) hx hb dL_law_723 (by decide) ?_
  refine W.widen (k := 130 + 30 * jj) (n := 31200 + 1200 * jj) (by omega) (by omega) ?_
  exact hnx _ _ _ hW hax ham (tt) (uu) ⟨by omega, by omega⟩ ⟨by omega, by omega⟩ hs15 hs16 (tf_eqv hs17 (by omega)) (tf_eqv hs18 (by omega)) him hkp rn rk (by omega) (by omega) hs19 hs20 hs21 hs22 _ (lv_sub hl [0, 1, 2, 3] rfl)

set_option maxHeartbeats 4000000 in
set_option maxRecDepth 100000 in
theorem lc_726 {p : Program} {l : Launch} {e : Env} {s : State} {m : MethodId} {below : List Frame} {meth : Method} {c : Code} {b L : Nat} {g : tf_G} {sx : Int → Int} {Q : State → Prop} (E : lw_E p s m c b L g sx) (ax am im kp jj : Nat) (ii : Int) (hii : ii = 6 * (jj : Int)) (hij : ii + 6 ≤ (L : Int)) (hnx : lw_nx p l e s m below meth c b g ax am im kp jj ii Q) (T : tf_T) (H : Heap) (locs : List Loc) (hW : tf_n tf_kt g M_law (fun _ => none) s.heap T H locs) (hax : T ax = some (26, 0)) (ham : T am = some (50, 0)) (tt uu : Int) (htt : 0 ≤ tt ∧ tt ≤ 400) (huu : tf_r uu) (hf0 : tf_s H ax (g.1.2 9 7) = some (.int (Int32.ofInt tt))) (hf1 : tf_s H ax (g.1.2 9 8) = some (.int (Int32.ofInt uu))) (hf2 : tf_s H am (g.1.2 10 8) = some (.int (Int32.ofInt tt))) (hf3 : tf_s H am (g.1.2 10 6) = some (.int (Int32.ofInt uu))) (him : T im = some (14, 2)) (hkp : T kp = some (30, 2)) (rn rk : Int → Int) (hr0 : rn 0 = rk 0) (hr1 : rn 1 = rk 1) (hf4 : tf_s H ax (g.1.2 9 1) = some (.ref im)) (hf5 : tf_s H am (g.1.2 10 5) = some (.ref kp)) (hf6 : tf_nl H im = rn) (hf7 : tf_rw H kp = rk) (ls : Array Slot) (hl : lv_has ls 4 [(3, .int (Int32.ofInt ii)), (2, .ref am), (1, .ref ax), (0, .ref b)]) : W p l e room_1 s m #[Value.ref b] below meth c H locs (100 + 30 * jj) (30000 + 1200 * jj) Q (F0 m 726 ls []) := by
  obtain ⟨hx, hb, hml, hown, hts, hbl, hk, hBs, hsx, hX, hL⟩ := id E
  have hR1 := lw_R1
  have hR2 := lw_R2
  have hR3 := lw_R3
  have hR4 := lw_R4
  have hK := hk.1
  have hE : tf_E g T := trivial
  refine lv_aload_n hx hb dL_law_726 rfl (lv_at hl 2 rfl) ?_
  refine lv_aload_n hx hb dL_law_727 rfl (lv_at hl 3 rfl) ?_
  refine lv_iload_n hx hb dL_law_728 rfl (lv_at hl 0 rfl) ?_
  refine tf_iconst hx hb dL_law_729 ?_
  refine tf_iadd hx hb dL_law_730 ?_
  refine lw_sld (sx := sx) hx hb hX hbl hBs hL hW (by omega) (by omega) dL_law_731 ?_
  have hsx1 := hsx (ii + 1)
  refine tf_calli (va_runV (As := [.int (Int32.ofInt ((sx (ii + 1))))]) (rest := []) ⟨hx, hb, hml, hown, hts⟩ (c_X9_over l g T ax hax ((sx (ii + 1))) ⟨by omega, by omega⟩ hE) (cwV 1 hts gv_L_82 rfl rfl rfl hd_X9_over ⟨Nat.le_trans (by decide) hR1, Nat.le_trans (by decide) hR2⟩) (tf_preV hk hW hax (ci := 9) rfl rfl trivial) rfl rfl hl.1 rfl (lv_room (Nat.le_of_ble_eq_true rfl)) dL_law_732 ⟨Nat.le_trans (by omega) hR3, Nat.le_trans (by omega) hR4⟩) hW (by decide) (fun z2 H2 locs2 hW hF2 hp2 => ?_)
  have hs3 := tf_keepF hF2 hax rfl rfl (by decide) hf0
  have hs4 := tf_keepF hF2 hax rfl rfl (by decide) hf1
  have hs5 := tf_keepF hF2 ham rfl rfl (by decide) hf2
  have hs6 := tf_keepF hF2 ham rfl rfl (by decide) hf3
  have hs7 := tf_keepF hF2 hax rfl rfl (by decide) hf4
  have hs8 := tf_keepF hF2 ham rfl rfl (by decide) hf5
  have hs9 := tf_keepN hF2 him rfl (by decide) hf6
  have hs10 := tf_keepC hF2 hkp rfl (by decide) hf7
  obtain ⟨hp2_0, hp2_1⟩ := hp2
  refine lv_pop hx hb dL_law_735 rfl ?_
  refine lv_aload_n hx hb dL_law_736 rfl (lv_at hl 1 rfl) ?_
  refine lv_aload_n hx hb dL_law_737 rfl (lv_at hl 3 rfl) ?_
  refine lv_iload_n hx hb dL_law_738 rfl (lv_at hl 0 rfl) ?_
  refine tf_iconst hx hb dL_law_739 ?_
  refine tf_iadd hx hb dL_law_740 ?_
  refine lw_sld (sx := sx) hx hb hX hbl hBs hL hW (by omega) (by omega) dL_law_741 ?_
  have hsx11 := hsx (ii + 1)
  refine tf_calli (va_runV (As := [.int (Int32.ofInt ((sx (ii + 1))))]) (rest := []) ⟨hx, hb, hml, hown, hts⟩ (c_X10_over l g T am ham ((sx (ii + 1))) ⟨by omega, by omega⟩) (cwV 1 hts gv_L_85 rfl rfl rfl hd_X10_over ⟨Nat.le_trans (by decide) hR1, Nat.le_trans (by decide) hR2⟩) (tf_preV hk hW ham (ci := 10) rfl rfl trivial) rfl rfl hl.1 rfl (lv_room (Nat.le_of_ble_eq_true rfl)) dL_law_742 ⟨Nat.le_trans (by omega) hR3, Nat.le_trans (by omega) hR4⟩) hW (by decide) (fun z12 H12 locs12 hW hF12 hp12 => ?_)
  have hs13 := tf_keepF hF12 hax rfl rfl (by decide) hs3
  have hs14 := tf_keepF hF12 hax rfl rfl (by decide) hs4
  have hs15 := tf_keepF hF12 ham rfl rfl (by decide) hs5
  have hs16 := tf_keepF hF12 ham rfl rfl (by decide) hs6
  have hs17 := tf_keepF hF12 hax rfl rfl (by decide) hs7
  have hs18 := tf_keepF hF12 ham rfl rfl (by decide) hs8
  have hs19 := tf_keepN hF12 him rfl (by decide) hs9
  have hs20 := tf_keepC hF12 hkp rfl (by decide) hs10
  obtain ⟨hp12_0, hp12_1⟩ := hp12
  refine lv_pop hx hb dL_law_745 rfl ?_
  refine lv_goto (tgt := 1498) hx hb dL_law_746 (by decide) ?_
  refine W.widen (k := 130 + 30 * jj) (n := 31200 + 1200 * jj) (by omega) (by omega) ?_
  exact hnx _ _ _ hW hax ham (tt) (uu) ⟨by omega, by omega⟩ ⟨by omega, by omega⟩ hs13 hs14 (tf_eqv hs15 (by omega)) (tf_eqv hs16 (by omega)) him hkp rn rk (by omega) (by omega) hs17 hs18 hs19 hs20 _ (lv_sub hl [0, 1, 2, 3] rfl)

set_option maxHeartbeats 4000000 in
set_option maxRecDepth 100000 in
theorem lc_749 {p : Program} {l : Launch} {e : Env} {s : State} {m : MethodId} {below : List Frame} {meth : Method} {c : Code} {b L : Nat} {g : tf_G} {sx : Int → Int} {Q : State → Prop} (E : lw_E p s m c b L g sx) (ax am im kp jj : Nat) (ii : Int) (hii : ii = 6 * (jj : Int)) (hij : ii + 6 ≤ (L : Int)) (hnx : lw_nx p l e s m below meth c b g ax am im kp jj ii Q) (T : tf_T) (H : Heap) (locs : List Loc) (hW : tf_n tf_kt g M_law (fun _ => none) s.heap T H locs) (hax : T ax = some (26, 0)) (ham : T am = some (50, 0)) (tt uu : Int) (htt : 0 ≤ tt ∧ tt ≤ 400) (huu : tf_r uu) (hf0 : tf_s H ax (g.1.2 9 7) = some (.int (Int32.ofInt tt))) (hf1 : tf_s H ax (g.1.2 9 8) = some (.int (Int32.ofInt uu))) (hf2 : tf_s H am (g.1.2 10 8) = some (.int (Int32.ofInt tt))) (hf3 : tf_s H am (g.1.2 10 6) = some (.int (Int32.ofInt uu))) (him : T im = some (14, 2)) (hkp : T kp = some (30, 2)) (rn rk : Int → Int) (hr0 : rn 0 = rk 0) (hr1 : rn 1 = rk 1) (hf4 : tf_s H ax (g.1.2 9 1) = some (.ref im)) (hf5 : tf_s H am (g.1.2 10 5) = some (.ref kp)) (hf6 : tf_nl H im = rn) (hf7 : tf_rw H kp = rk) (ls : Array Slot) (hl : lv_has ls 4 [(3, .int (Int32.ofInt ii)), (2, .ref am), (1, .ref ax), (0, .ref b)]) : W p l e room_1 s m #[Value.ref b] below meth c H locs (100 + 30 * jj) (30000 + 1200 * jj) Q (F0 m 749 ls []) := by
  obtain ⟨hx, hb, hml, hown, hts, hbl, hk, hBs, hsx, hX, hL⟩ := id E
  have hR1 := lw_R1
  have hR2 := lw_R2
  have hR3 := lw_R3
  have hR4 := lw_R4
  have hK := hk.1
  have hE : tf_E g T := trivial
  refine lv_aload_n hx hb dL_law_749 rfl (lv_at hl 2 rfl) ?_
  refine lv_aload_n hx hb dL_law_750 rfl (lv_at hl 3 rfl) ?_
  refine lv_iload_n hx hb dL_law_751 rfl (lv_at hl 0 rfl) ?_
  refine tf_iconst hx hb dL_law_752 ?_
  refine tf_iadd hx hb dL_law_753 ?_
  refine lw_sld (sx := sx) hx hb hX hbl hBs hL hW (by omega) (by omega) dL_law_754 ?_
  have hsx1 := hsx (ii + 1)
  refine tf_calli (va_runV (As := [.int (Int32.ofInt ((sx (ii + 1))))]) (rest := []) ⟨hx, hb, hml, hown, hts⟩ (c_X9_bad l g T ax hax ((sx (ii + 1))) ⟨by omega, by omega⟩ hE) (cwV 1 hts gv_L_86 rfl rfl rfl hd_X9_bad ⟨Nat.le_trans (by decide) hR1, Nat.le_trans (by decide) hR2⟩) (tf_preV hk hW hax (ci := 9) rfl rfl trivial) rfl rfl hl.1 rfl (lv_room (Nat.le_of_ble_eq_true rfl)) dL_law_755 ⟨Nat.le_trans (by omega) hR3, Nat.le_trans (by omega) hR4⟩) hW (by decide) (fun z2 H2 locs2 hW hF2 hp2 => ?_)
  have hs3 := tf_keepF hF2 hax rfl rfl (by decide) hf0
  have hs4 := tf_keepF hF2 hax rfl rfl (by decide) hf1
  have hs5 := tf_keepF hF2 ham rfl rfl (by decide) hf2
  have hs6 := tf_keepF hF2 ham rfl rfl (by decide) hf3
  have hs7 := tf_keepF hF2 hax rfl rfl (by decide) hf4
  have hs8 := tf_keepF hF2 ham rfl rfl (by decide) hf5
  have hs9 := tf_keepN hF2 him rfl (by decide) hf6
  have hs10 := tf_keepC hF2 hkp rfl (by decide) hf7
  obtain ⟨hp2_0, hp2_1⟩ := hp2
  refine lv_pop hx hb dL_law_758 rfl ?_
  refine lv_aload_n hx hb dL_law_759 rfl (lv_at hl 1 rfl) ?_
  refine lv_aload_n hx hb dL_law_760 rfl (lv_at hl 3 rfl) ?_
  refine lv_iload_n hx hb dL_law_761 rfl (lv_at hl 0 rfl) ?_
  refine tf_iconst hx hb dL_law_762 ?_
  refine tf_iadd hx hb dL_law_763 ?_
  refine lw_sld (sx := sx) hx hb hX hbl hBs hL hW (by omega) (by omega) dL_law_764 ?_
  have hsx11 := hsx (ii + 1)
  refine tf_calli (va_runV (As := [.int (Int32.ofInt ((sx (ii + 1))))]) (rest := []) ⟨hx, hb, hml, hown, hts⟩ (c_X10_bad l g T am ham ((sx (ii + 1))) ⟨by omega, by omega⟩) (cwV 1 hts gv_L_89 rfl rfl rfl hd_X10_bad ⟨Nat.le_trans (by decide) hR1, Nat.le_trans (by decide) hR2⟩) (tf_preV hk hW ham (ci := 10) rfl rfl trivial) rfl rfl hl.1 rfl (lv_room (Nat.le_of_ble_eq_true rfl)) dL_law_765 ⟨Nat.le_trans (by omega) hR3, Nat.le_trans (by omega) hR4⟩) hW (by decide) (fun z12 H12 locs12 hW hF12 hp12 => ?_)
  have hs13 := tf_keepF hF12 hax rfl rfl (by decide) hs3
  have hs14 := tf_keepF hF12 hax rfl rfl (by decide) hs4
  have hs15 := tf_keepF hF12 ham rfl rfl (by decide) hs5
  have hs16 := tf_keepF hF12 ham rfl rfl (by decide) hs6
  have hs17 := tf_keepF hF12 hax rfl rfl (by decide) hs7
  have hs18 := tf_keepF hF12 ham rfl rfl (by decide) hs8
  have hs19 := tf_keepN hF12 him rfl (by decide) hs9
  have hs20 := tf_keepC hF12 hkp rfl (by decide) hs10
  obtain ⟨hp12_0, hp12_1⟩ := hp12
  refine lv_pop hx hb dL_law_768 rfl ?_
  refine lv_goto (tgt := 1498) hx hb dL_law_769 (by decide) ?_
  refine W.widen (k := 130 + 30 * jj) (n := 31200 + 1200 * jj) (by omega) (by omega) ?_
  exact hnx _ _ _ hW hax ham (tt) (uu) ⟨by omega, by omega⟩ ⟨by omega, by omega⟩ hs13 hs14 (tf_eqv hs15 (by omega)) (tf_eqv hs16 (by omega)) him hkp rn rk (by omega) (by omega) hs17 hs18 hs19 hs20 _ (lv_sub hl [0, 1, 2, 3] rfl)

set_option maxHeartbeats 4000000 in
set_option maxRecDepth 100000 in
theorem lc_772 {p : Program} {l : Launch} {e : Env} {s : State} {m : MethodId} {below : List Frame} {meth : Method} {c : Code} {b L : Nat} {g : tf_G} {sx : Int → Int} {Q : State → Prop} (E : lw_E p s m c b L g sx) (ax am im kp jj : Nat) (ii : Int) (hii : ii = 6 * (jj : Int)) (hij : ii + 6 ≤ (L : Int)) (hnx : lw_nx p l e s m below meth c b g ax am im kp jj ii Q) (T : tf_T) (H : Heap) (locs : List Loc) (hW : tf_n tf_kt g M_law (fun _ => none) s.heap T H locs) (hax : T ax = some (26, 0)) (ham : T am = some (50, 0)) (tt uu : Int) (htt : 0 ≤ tt ∧ tt ≤ 400) (huu : tf_r uu) (hf0 : tf_s H ax (g.1.2 9 7) = some (.int (Int32.ofInt tt))) (hf1 : tf_s H ax (g.1.2 9 8) = some (.int (Int32.ofInt uu))) (hf2 : tf_s H am (g.1.2 10 8) = some (.int (Int32.ofInt tt))) (hf3 : tf_s H am (g.1.2 10 6) = some (.int (Int32.ofInt uu))) (him : T im = some (14, 2)) (hkp : T kp = some (30, 2)) (rn rk : Int → Int) (hr0 : rn 0 = rk 0) (hr1 : rn 1 = rk 1) (hf4 : tf_s H ax (g.1.2 9 1) = some (.ref im)) (hf5 : tf_s H am (g.1.2 10 5) = some (.ref kp)) (hf6 : tf_nl H im = rn) (hf7 : tf_rw H kp = rk) (ls : Array Slot) (hl : lv_has ls 4 [(3, .int (Int32.ofInt ii)), (2, .ref am), (1, .ref ax), (0, .ref b)]) : W p l e room_1 s m #[Value.ref b] below meth c H locs (100 + 30 * jj) (30000 + 1200 * jj) Q (F0 m 772 ls []) := by
  obtain ⟨hx, hb, hml, hown, hts, hbl, hk, hBs, hsx, hX, hL⟩ := id E
  have hR1 := lw_R1
  have hR2 := lw_R2
  have hR3 := lw_R3
  have hR4 := lw_R4
  have hK := hk.1
  have hE : tf_E g T := trivial
  refine lv_aload_n hx hb dL_law_772 rfl (lv_at hl 2 rfl) ?_
  refine lv_aload_n hx hb dL_law_773 rfl (lv_at hl 3 rfl) ?_
  refine lv_iload_n hx hb dL_law_774 rfl (lv_at hl 0 rfl) ?_
  refine tf_iconst hx hb dL_law_775 ?_
  refine tf_iadd hx hb dL_law_776 ?_
  refine lw_sld (sx := sx) hx hb hX hbl hBs hL hW (by omega) (by omega) dL_law_777 ?_
  have hsx1 := hsx (ii + 1)
  refine lv_aload_n hx hb dL_law_778 rfl (lv_at hl 3 rfl) ?_
  refine lv_iload_n hx hb dL_law_779 rfl (lv_at hl 0 rfl) ?_
  refine tf_iconst hx hb dL_law_780 ?_
  refine tf_iadd hx hb dL_law_781 ?_
  refine lw_sld (sx := sx) hx hb hX hbl hBs hL hW (by omega) (by omega) dL_law_782 ?_
  have hsx2 := hsx (ii + 2)
  refine tf_calli (va_runV (As := [.int (Int32.ofInt ((sx (ii + 1)))), .int (Int32.ofInt ((sx (ii + 2))))]) (rest := []) ⟨hx, hb, hml, hown, hts⟩ (c_X9_kinds l g T ax hax ((sx (ii + 1))) ⟨by omega, by omega⟩ ((sx (ii + 2))) ⟨by omega, by omega⟩ hE) (cwV 2 hts gv_L_90 rfl rfl rfl hd_X9_kinds ⟨Nat.le_trans (by decide) hR1, Nat.le_trans (by decide) hR2⟩) (tf_preV hk hW hax (ci := 9) rfl rfl trivial) rfl rfl hl.1 rfl (lv_room (Nat.le_of_ble_eq_true rfl)) dL_law_783 ⟨Nat.le_trans (by omega) hR3, Nat.le_trans (by omega) hR4⟩) hW (by decide) (fun z3 H3 locs3 hW hF3 hp3 => ?_)
  have hs4 := tf_keepF hF3 hax rfl rfl (by decide) hf0
  have hs5 := tf_keepF hF3 hax rfl rfl (by decide) hf1
  have hs6 := tf_keepF hF3 ham rfl rfl (by decide) hf2
  have hs7 := tf_keepF hF3 ham rfl rfl (by decide) hf3
  have hs8 := tf_keepF hF3 hax rfl rfl (by decide) hf4
  have hs9 := tf_keepF hF3 ham rfl rfl (by decide) hf5
  have hs10 := tf_keepN hF3 him rfl (by decide) hf6
  have hs11 := tf_keepC hF3 hkp rfl (by decide) hf7
  obtain ⟨hp3_0, hp3_1⟩ := hp3
  refine lv_pop hx hb dL_law_786 rfl ?_
  refine lv_aload_n hx hb dL_law_787 rfl (lv_at hl 1 rfl) ?_
  refine lv_aload_n hx hb dL_law_788 rfl (lv_at hl 3 rfl) ?_
  refine lv_iload_n hx hb dL_law_789 rfl (lv_at hl 0 rfl) ?_
  refine tf_iconst hx hb dL_law_790 ?_
  refine tf_iadd hx hb dL_law_791 ?_
  refine lw_sld (sx := sx) hx hb hX hbl hBs hL hW (by omega) (by omega) dL_law_792 ?_
  have hsx12 := hsx (ii + 1)
  refine lv_aload_n hx hb dL_law_793 rfl (lv_at hl 3 rfl) ?_
  refine lv_iload_n hx hb dL_law_794 rfl (lv_at hl 0 rfl) ?_
  refine tf_iconst hx hb dL_law_795 ?_
  refine tf_iadd hx hb dL_law_796 ?_
  refine lw_sld (sx := sx) hx hb hX hbl hBs hL hW (by omega) (by omega) dL_law_797 ?_
  have hsx13 := hsx (ii + 2)
  refine tf_calli (va_runV (As := [.int (Int32.ofInt ((sx (ii + 1)))), .int (Int32.ofInt ((sx (ii + 2))))]) (rest := []) ⟨hx, hb, hml, hown, hts⟩ (c_X10_kinds l g T am ham ((sx (ii + 1))) ⟨by omega, by omega⟩ ((sx (ii + 2))) ⟨by omega, by omega⟩) (cwV 2 hts gv_L_93 rfl rfl rfl hd_X10_kinds ⟨Nat.le_trans (by decide) hR1, Nat.le_trans (by decide) hR2⟩) (tf_preV hk hW ham (ci := 10) rfl rfl trivial) rfl rfl hl.1 rfl (lv_room (Nat.le_of_ble_eq_true rfl)) dL_law_798 ⟨Nat.le_trans (by omega) hR3, Nat.le_trans (by omega) hR4⟩) hW (by decide) (fun z14 H14 locs14 hW hF14 hp14 => ?_)
  have hs15 := tf_keepF hF14 hax rfl rfl (by decide) hs4
  have hs16 := tf_keepF hF14 hax rfl rfl (by decide) hs5
  have hs17 := tf_keepF hF14 ham rfl rfl (by decide) hs6
  have hs18 := tf_keepF hF14 ham rfl rfl (by decide) hs7
  have hs19 := tf_keepF hF14 hax rfl rfl (by decide) hs8
  have hs20 := tf_keepF hF14 ham rfl rfl (by decide) hs9
  have hs21 := tf_keepN hF14 him rfl (by decide) hs10
  have hs22 := tf_keepC hF14 hkp rfl (by decide) hs11
  obtain ⟨hp14_0, hp14_1⟩ := hp14
  refine lv_pop hx hb dL_law_801 rfl ?_
  refine lv_goto (tgt := 1498) hx hb dL_law_802 (by decide) ?_
  refine W.widen (k := 130 + 30 * jj) (n := 31200 + 1200 * jj) (by omega) (by omega) ?_
  exact hnx _ _ _ hW hax ham (tt) (uu) ⟨by omega, by omega⟩ ⟨by omega, by omega⟩ hs15 hs16 (tf_eqv hs17 (by omega)) (tf_eqv hs18 (by omega)) him hkp rn rk (by omega) (by omega) hs19 hs20 hs21 hs22 _ (lv_sub hl [0, 1, 2, 3] rfl)

set_option maxHeartbeats 4000000 in
set_option maxRecDepth 100000 in
theorem lc_805 {p : Program} {l : Launch} {e : Env} {s : State} {m : MethodId} {below : List Frame} {meth : Method} {c : Code} {b L : Nat} {g : tf_G} {sx : Int → Int} {Q : State → Prop} (E : lw_E p s m c b L g sx) (ax am im kp jj : Nat) (ii : Int) (hii : ii = 6 * (jj : Int)) (hij : ii + 6 ≤ (L : Int)) (hnx : lw_nx p l e s m below meth c b g ax am im kp jj ii Q) (T : tf_T) (H : Heap) (locs : List Loc) (hW : tf_n tf_kt g M_law (fun _ => none) s.heap T H locs) (hax : T ax = some (26, 0)) (ham : T am = some (50, 0)) (tt uu : Int) (htt : 0 ≤ tt ∧ tt ≤ 400) (huu : tf_r uu) (hf0 : tf_s H ax (g.1.2 9 7) = some (.int (Int32.ofInt tt))) (hf1 : tf_s H ax (g.1.2 9 8) = some (.int (Int32.ofInt uu))) (hf2 : tf_s H am (g.1.2 10 8) = some (.int (Int32.ofInt tt))) (hf3 : tf_s H am (g.1.2 10 6) = some (.int (Int32.ofInt uu))) (him : T im = some (14, 2)) (hkp : T kp = some (30, 2)) (rn rk : Int → Int) (hr0 : rn 0 = rk 0) (hr1 : rn 1 = rk 1) (hf4 : tf_s H ax (g.1.2 9 1) = some (.ref im)) (hf5 : tf_s H am (g.1.2 10 5) = some (.ref kp)) (hf6 : tf_nl H im = rn) (hf7 : tf_rw H kp = rk) (ls : Array Slot) (hl : lv_has ls 4 [(3, .int (Int32.ofInt ii)), (2, .ref am), (1, .ref ax), (0, .ref b)]) : W p l e room_1 s m #[Value.ref b] below meth c H locs (100 + 30 * jj) (30000 + 1200 * jj) Q (F0 m 805 ls []) := by
  obtain ⟨hx, hb, hml, hown, hts, hbl, hk, hBs, hsx, hX, hL⟩ := id E
  have hR1 := lw_R1
  have hR2 := lw_R2
  have hR3 := lw_R3
  have hR4 := lw_R4
  have hK := hk.1
  have hE : tf_E g T := trivial
  refine lv_aload_n hx hb dL_law_805 rfl (lv_at hl 2 rfl) ?_
  refine lv_aload_n hx hb dL_law_806 rfl (lv_at hl 3 rfl) ?_
  refine lv_iload_n hx hb dL_law_807 rfl (lv_at hl 0 rfl) ?_
  refine tf_iconst hx hb dL_law_808 ?_
  refine tf_iadd hx hb dL_law_809 ?_
  refine lw_sld (sx := sx) hx hb hX hbl hBs hL hW (by omega) (by omega) dL_law_810 ?_
  have hsx1 := hsx (ii + 1)
  refine tf_calli (va_runV (As := [.int (Int32.ofInt ((sx (ii + 1))))]) (rest := []) ⟨hx, hb, hml, hown, hts⟩ (c_X9_does l g T ax hax ((sx (ii + 1))) ⟨by omega, by omega⟩ hE) (cwV 1 hts gv_L_94 rfl rfl rfl hd_X9_does ⟨Nat.le_trans (by decide) hR1, Nat.le_trans (by decide) hR2⟩) (tf_preV hk hW hax (ci := 9) rfl rfl trivial) rfl rfl hl.1 rfl (lv_room (Nat.le_of_ble_eq_true rfl)) dL_law_811 ⟨Nat.le_trans (by omega) hR3, Nat.le_trans (by omega) hR4⟩) hW (by decide) (fun z2 H2 locs2 hW hF2 hp2 => ?_)
  have hs3 := tf_keepF hF2 hax rfl rfl (by decide) hf0
  have hs4 := tf_keepF hF2 hax rfl rfl (by decide) hf1
  have hs5 := tf_keepF hF2 ham rfl rfl (by decide) hf2
  have hs6 := tf_keepF hF2 ham rfl rfl (by decide) hf3
  have hs7 := tf_keepF hF2 hax rfl rfl (by decide) hf4
  have hs8 := tf_keepF hF2 ham rfl rfl (by decide) hf5
  have hs9 := tf_keepN hF2 him rfl (by decide) hf6
  have hs10 := tf_keepC hF2 hkp rfl (by decide) hf7
  obtain ⟨hp2_0, hp2_1⟩ := hp2
  refine lv_pop hx hb dL_law_814 rfl ?_
  refine lv_aload_n hx hb dL_law_815 rfl (lv_at hl 1 rfl) ?_
  refine lv_aload_n hx hb dL_law_816 rfl (lv_at hl 3 rfl) ?_
  refine lv_iload_n hx hb dL_law_817 rfl (lv_at hl 0 rfl) ?_
  refine tf_iconst hx hb dL_law_818 ?_
  refine tf_iadd hx hb dL_law_819 ?_
  refine lw_sld (sx := sx) hx hb hX hbl hBs hL hW (by omega) (by omega) dL_law_820 ?_
  have hsx11 := hsx (ii + 1)
  refine tf_calli (va_runV (As := [.int (Int32.ofInt ((sx (ii + 1))))]) (rest := []) ⟨hx, hb, hml, hown, hts⟩ (c_X10_does l g T am ham ((sx (ii + 1))) ⟨by omega, by omega⟩) (cwV 1 hts gv_L_97 rfl rfl rfl hd_X10_does ⟨Nat.le_trans (by decide) hR1, Nat.le_trans (by decide) hR2⟩) (tf_preV hk hW ham (ci := 10) rfl rfl trivial) rfl rfl hl.1 rfl (lv_room (Nat.le_of_ble_eq_true rfl)) dL_law_821 ⟨Nat.le_trans (by omega) hR3, Nat.le_trans (by omega) hR4⟩) hW (by decide) (fun z12 H12 locs12 hW hF12 hp12 => ?_)
  have hs13 := tf_keepF hF12 hax rfl rfl (by decide) hs3
  have hs14 := tf_keepF hF12 hax rfl rfl (by decide) hs4
  have hs15 := tf_keepF hF12 ham rfl rfl (by decide) hs5
  have hs16 := tf_keepF hF12 ham rfl rfl (by decide) hs6
  have hs17 := tf_keepF hF12 hax rfl rfl (by decide) hs7
  have hs18 := tf_keepF hF12 ham rfl rfl (by decide) hs8
  have hs19 := tf_keepN hF12 him rfl (by decide) hs9
  have hs20 := tf_keepC hF12 hkp rfl (by decide) hs10
  obtain ⟨hp12_0, hp12_1⟩ := hp12
  refine lv_pop hx hb dL_law_824 rfl ?_
  refine lv_goto (tgt := 1498) hx hb dL_law_825 (by decide) ?_
  refine W.widen (k := 130 + 30 * jj) (n := 31200 + 1200 * jj) (by omega) (by omega) ?_
  exact hnx _ _ _ hW hax ham (tt) (uu) ⟨by omega, by omega⟩ ⟨by omega, by omega⟩ hs13 hs14 (tf_eqv hs15 (by omega)) (tf_eqv hs16 (by omega)) him hkp rn rk (by omega) (by omega) hs17 hs18 hs19 hs20 _ (lv_sub hl [0, 1, 2, 3] rfl)

set_option maxHeartbeats 4000000 in
set_option maxRecDepth 100000 in
theorem lc_588 {p : Program} {l : Launch} {e : Env} {s : State} {m : MethodId} {below : List Frame} {meth : Method} {c : Code} {b L : Nat} {g : tf_G} {sx : Int → Int} {Q : State → Prop} (E : lw_E p s m c b L g sx) (ax am jj : Nat) (ii : Int) (hii : ii = 6 * (jj : Int)) (hij : ii + 6 ≤ (L : Int)) (hnx : lw_nx p l e s m below meth c b g ax am jj ii Q) (T : tf_T) (H : Heap) (locs : List Loc) (hW : tf_n tf_kt g M_law (fun _ => none) s.heap T H locs) (hax : T ax = some (26, 0)) (ham : T am = some (50, 0)) (ls : Array Slot) (hl : lv_has ls 4 [(3, .int (Int32.ofInt ii)), (2, .ref am), (1, .ref ax), (0, .ref b)]) : W p l e room_1 s m #[Value.ref b] below meth c H locs (100 + 30 * jj) (30000 + 1200 * jj) Q (F0 m 588 ls []) := by
  obtain ⟨hx, hb, hml, hown, hts, hbl, hk, hBs, hsx, hX, hL⟩ := id E
  have hR1 := lw_R1
  have hR2 := lw_R2
  have hR3 := lw_R3
  have hR4 := lw_R4
  have hK := hk.1
  have hE : tf_E g T := trivial
  refine lv_aload_n hx hb dL_law_588 rfl (lv_at hl 2 rfl) ?_
  refine tf_calli (va_runV (As := []) (rest := []) ⟨hx, hb, hml, hown, hts⟩ (c_X9_torn l g T ax hax) (cwV 0 hts gv_L_58 rfl rfl rfl hd_X9_torn ⟨Nat.le_trans (by decide) hR1, Nat.le_trans (by decide) hR2⟩) (tf_preV hk hW hax (ci := 9) rfl rfl trivial) rfl rfl hl.1 rfl (lv_room (Nat.le_of_ble_eq_true rfl)) dL_law_589 ⟨Nat.le_trans (by omega) hR3, Nat.le_trans (by omega) hR4⟩) hW (by decide) (fun z1 H1 locs1 hW hF1 hp1 => ?_)
  obtain ⟨hp1_0, hp1_1⟩ := hp1
  refine lv_pop hx hb dL_law_592 rfl ?_
  refine lv_aload_n hx hb dL_law_593 rfl (lv_at hl 1 rfl) ?_
  refine tf_calli (va_runV (As := []) (rest := []) ⟨hx, hb, hml, hown, hts⟩ (c_X10_torn l g T am ham) (cwV 0 hts gv_L_61 rfl rfl rfl hd_X10_torn ⟨Nat.le_trans (by decide) hR1, Nat.le_trans (by decide) hR2⟩) (tf_preV hk hW ham (ci := 10) rfl rfl trivial) rfl rfl hl.1 rfl (lv_room (Nat.le_of_ble_eq_true rfl)) dL_law_594 ⟨Nat.le_trans (by omega) hR3, Nat.le_trans (by omega) hR4⟩) hW (by decide) (fun z2 H2 locs2 hW hF2 hp2 => ?_)
  obtain ⟨hp2_0, hp2_1⟩ := hp2
  refine lv_pop hx hb dL_law_597 rfl ?_
  refine lv_goto (tgt := 1498) hx hb dL_law_598 (by decide) ?_
  refine W.widen (k := 130 + 30 * jj) (n := 31200 + 1200 * jj) (by omega) (by omega) ?_
  exact hnx _ _ _ hW hax ham _ (lv_sub hl [0, 1, 2, 3] rfl)

set_option maxHeartbeats 4000000 in
set_option maxRecDepth 100000 in
theorem lc_601 {p : Program} {l : Launch} {e : Env} {s : State} {m : MethodId} {below : List Frame} {meth : Method} {c : Code} {b L : Nat} {g : tf_G} {sx : Int → Int} {Q : State → Prop} (E : lw_E p s m c b L g sx) (ax am jj : Nat) (ii : Int) (hii : ii = 6 * (jj : Int)) (hij : ii + 6 ≤ (L : Int)) (hnx : lw_nx p l e s m below meth c b g ax am jj ii Q) (T : tf_T) (H : Heap) (locs : List Loc) (hW : tf_n tf_kt g M_law (fun _ => none) s.heap T H locs) (hax : T ax = some (26, 0)) (ham : T am = some (50, 0)) (ls : Array Slot) (hl : lv_has ls 4 [(3, .int (Int32.ofInt ii)), (2, .ref am), (1, .ref ax), (0, .ref b)]) : W p l e room_1 s m #[Value.ref b] below meth c H locs (100 + 30 * jj) (30000 + 1200 * jj) Q (F0 m 601 ls []) := by
  obtain ⟨hx, hb, hml, hown, hts, hbl, hk, hBs, hsx, hX, hL⟩ := id E
  have hR1 := lw_R1
  have hR2 := lw_R2
  have hR3 := lw_R3
  have hR4 := lw_R4
  have hK := hk.1
  have hE : tf_E g T := trivial
  refine lv_aload_n hx hb dL_law_601 rfl (lv_at hl 2 rfl) ?_
  refine tf_callI (va_runV (As := []) (rest := []) ⟨hx, hb, hml, hown, hts⟩ (c_X9_law l g T ax hax) (cwV 0 hts gv_L_62 rfl rfl rfl hd_X9_law ⟨Nat.le_trans (by decide) hR1, Nat.le_trans (by decide) hR2⟩) (tf_preV hk hW hax (ci := 9) rfl rfl trivial) rfl rfl hl.1 rfl (lv_room (Nat.le_of_ble_eq_true rfl)) dL_law_602 ⟨Nat.le_trans (by omega) hR3, Nat.le_trans (by omega) hR4⟩) hW (by decide) (fun z1 H1 locs1 T hW hE1 hF1 hp1 => ?_)
  have ham := hE1 _ _ ham
  have hax := hE1 _ _ hax
  have hE := hE.mono hE1
  obtain ⟨hp1_0, hp1_1⟩ := hp1
  refine lv_pop hx hb dL_law_605 rfl ?_
  refine lv_aload_n hx hb dL_law_606 rfl (lv_at hl 1 rfl) ?_
  refine tf_calli (va_runV (As := []) (rest := []) ⟨hx, hb, hml, hown, hts⟩ (c_X10_law l g T am ham) (cwV 0 hts gv_L_65 rfl rfl rfl hd_X10_law ⟨Nat.le_trans (by decide) hR1, Nat.le_trans (by decide) hR2⟩) (tf_preV hk hW ham (ci := 10) rfl rfl trivial) rfl rfl hl.1 rfl (lv_room (Nat.le_of_ble_eq_true rfl)) dL_law_607 ⟨Nat.le_trans (by omega) hR3, Nat.le_trans (by omega) hR4⟩) hW (by decide) (fun z2 H2 locs2 hW hF2 hp2 => ?_)
  obtain ⟨hp2_0, hp2_1⟩ := hp2
  refine lv_pop hx hb dL_law_610 rfl ?_
  refine lv_goto (tgt := 1498) hx hb dL_law_611 (by decide) ?_
  refine W.widen (k := 130 + 30 * jj) (n := 31200 + 1200 * jj) (by omega) (by omega) ?_
  exact hnx _ _ _ hW hax ham _ (lv_sub hl [0, 1, 2, 3] rfl)

set_option maxHeartbeats 4000000 in
set_option maxRecDepth 100000 in
theorem lc_614 {p : Program} {l : Launch} {e : Env} {s : State} {m : MethodId} {below : List Frame} {meth : Method} {c : Code} {b L : Nat} {g : tf_G} {sx : Int → Int} {Q : State → Prop} (E : lw_E p s m c b L g sx) (ax am jj : Nat) (ii : Int) (hii : ii = 6 * (jj : Int)) (hij : ii + 6 ≤ (L : Int)) (hnx : lw_nx p l e s m below meth c b g ax am jj ii Q) (T : tf_T) (H : Heap) (locs : List Loc) (hW : tf_n tf_kt g M_law (fun _ => none) s.heap T H locs) (hax : T ax = some (26, 0)) (ham : T am = some (50, 0)) (ls : Array Slot) (hl : lv_has ls 4 [(3, .int (Int32.ofInt ii)), (2, .ref am), (1, .ref ax), (0, .ref b)]) : W p l e room_1 s m #[Value.ref b] below meth c H locs (100 + 30 * jj) (30000 + 1200 * jj) Q (F0 m 614 ls []) := by
  obtain ⟨hx, hb, hml, hown, hts, hbl, hk, hBs, hsx, hX, hL⟩ := id E
  have hR1 := lw_R1
  have hR2 := lw_R2
  have hR3 := lw_R3
  have hR4 := lw_R4
  have hK := hk.1
  have hE : tf_E g T := trivial
  refine lv_aload_n hx hb dL_law_614 rfl (lv_at hl 2 rfl) ?_
  refine tf_calli (va_runV (As := []) (rest := []) ⟨hx, hb, hml, hown, hts⟩ (c_X9_fault l g T ax hax) (cwV 0 hts gv_L_66 rfl rfl rfl hd_X9_fault ⟨Nat.le_trans (by decide) hR1, Nat.le_trans (by decide) hR2⟩) (tf_preV hk hW hax (ci := 9) rfl rfl trivial) rfl rfl hl.1 rfl (lv_room (Nat.le_of_ble_eq_true rfl)) dL_law_615 ⟨Nat.le_trans (by omega) hR3, Nat.le_trans (by omega) hR4⟩) hW (by decide) (fun z1 H1 locs1 hW hF1 hp1 => ?_)
  obtain ⟨hp1_0, hp1_1⟩ := hp1
  refine lv_pop hx hb dL_law_618 rfl ?_
  refine lv_aload_n hx hb dL_law_619 rfl (lv_at hl 1 rfl) ?_
  refine tf_calli (va_runV (As := []) (rest := []) ⟨hx, hb, hml, hown, hts⟩ (c_X10_fault l g T am ham) (cwV 0 hts gv_L_69 rfl rfl rfl hd_X10_fault ⟨Nat.le_trans (by decide) hR1, Nat.le_trans (by decide) hR2⟩) (tf_preV hk hW ham (ci := 10) rfl rfl trivial) rfl rfl hl.1 rfl (lv_room (Nat.le_of_ble_eq_true rfl)) dL_law_620 ⟨Nat.le_trans (by omega) hR3, Nat.le_trans (by omega) hR4⟩) hW (by decide) (fun z2 H2 locs2 hW hF2 hp2 => ?_)
  obtain ⟨hp2_0, hp2_1⟩ := hp2
  refine lv_pop hx hb dL_law_623 rfl ?_
  refine lv_goto (tgt := 1498) hx hb dL_law_624 (by decide) ?_
  refine W.widen (k := 130 + 30 * jj) (n := 31200 + 1200 * jj) (by omega) (by omega) ?_
  exact hnx _ _ _ hW hax ham _ (lv_sub hl [0, 1, 2, 3] rfl)

set_option maxHeartbeats 4000000 in
set_option maxRecDepth 100000 in
theorem lc_627 {p : Program} {l : Launch} {e : Env} {s : State} {m : MethodId} {below : List Frame} {meth : Method} {c : Code} {b L : Nat} {g : tf_G} {sx : Int → Int} {Q : State → Prop} (E : lw_E p s m c b L g sx) (ax am jj : Nat) (ii : Int) (hii : ii = 6 * (jj : Int)) (hij : ii + 6 ≤ (L : Int)) (hnx : lw_nx p l e s m below meth c b g ax am jj ii Q) (T : tf_T) (H : Heap) (locs : List Loc) (hW : tf_n tf_kt g M_law (fun _ => none) s.heap T H locs) (hax : T ax = some (26, 0)) (ham : T am = some (50, 0)) (ls : Array Slot) (hl : lv_has ls 4 [(3, .int (Int32.ofInt ii)), (2, .ref am), (1, .ref ax), (0, .ref b)]) : W p l e room_1 s m #[Value.ref b] below meth c H locs (100 + 30 * jj) (30000 + 1200 * jj) Q (F0 m 627 ls []) := by
  obtain ⟨hx, hb, hml, hown, hts, hbl, hk, hBs, hsx, hX, hL⟩ := id E
  have hR1 := lw_R1
  have hR2 := lw_R2
  have hR3 := lw_R3
  have hR4 := lw_R4
  have hK := hk.1
  have hE : tf_E g T := trivial
  refine lv_aload_n hx hb dL_law_627 rfl (lv_at hl 2 rfl) ?_
  refine lv_aload_n hx hb dL_law_628 rfl (lv_at hl 3 rfl) ?_
  refine lv_iload_n hx hb dL_law_629 rfl (lv_at hl 0 rfl) ?_
  refine tf_iconst hx hb dL_law_630 ?_
  refine tf_iadd hx hb dL_law_631 ?_
  refine lw_sld (sx := sx) hx hb hX hbl hBs hL hW (by omega) (by omega) dL_law_632 ?_
  have hsx1 := hsx (ii + 1)
  refine tf_calli (va_runV (As := [.int (Int32.ofInt ((sx (ii + 1))))]) (rest := []) ⟨hx, hb, hml, hown, hts⟩ (c_X9_force l g T ax hax ((sx (ii + 1))) ⟨by omega, by omega⟩) (cwV 1 hts gv_L_70 rfl rfl rfl hd_X9_force ⟨Nat.le_trans (by decide) hR1, Nat.le_trans (by decide) hR2⟩) (tf_preV hk hW hax (ci := 9) rfl rfl trivial) rfl rfl hl.1 rfl (lv_room (Nat.le_of_ble_eq_true rfl)) dL_law_633 ⟨Nat.le_trans (by omega) hR3, Nat.le_trans (by omega) hR4⟩) hW (by decide) (fun z2 H2 locs2 hW hF2 hp2 => ?_)
  obtain ⟨hp2_0, hp2_1⟩ := hp2
  refine lv_pop hx hb dL_law_636 rfl ?_
  refine lv_aload_n hx hb dL_law_637 rfl (lv_at hl 1 rfl) ?_
  refine lv_aload_n hx hb dL_law_638 rfl (lv_at hl 3 rfl) ?_
  refine lv_iload_n hx hb dL_law_639 rfl (lv_at hl 0 rfl) ?_
  refine tf_iconst hx hb dL_law_640 ?_
  refine tf_iadd hx hb dL_law_641 ?_
  refine lw_sld (sx := sx) hx hb hX hbl hBs hL hW (by omega) (by omega) dL_law_642 ?_
  have hsx3 := hsx (ii + 1)
  refine tf_calli (va_runV (As := [.int (Int32.ofInt ((sx (ii + 1))))]) (rest := []) ⟨hx, hb, hml, hown, hts⟩ (c_X10_force l g T am ham ((sx (ii + 1))) ⟨by omega, by omega⟩) (cwV 1 hts gv_L_73 rfl rfl rfl hd_X10_force ⟨Nat.le_trans (by decide) hR1, Nat.le_trans (by decide) hR2⟩) (tf_preV hk hW ham (ci := 10) rfl rfl trivial) rfl rfl hl.1 rfl (lv_room (Nat.le_of_ble_eq_true rfl)) dL_law_643 ⟨Nat.le_trans (by omega) hR3, Nat.le_trans (by omega) hR4⟩) hW (by decide) (fun z4 H4 locs4 hW hF4 hp4 => ?_)
  obtain ⟨hp4_0, hp4_1⟩ := hp4
  refine lv_pop hx hb dL_law_646 rfl ?_
  refine lv_goto (tgt := 1498) hx hb dL_law_647 (by decide) ?_
  refine W.widen (k := 130 + 30 * jj) (n := 31200 + 1200 * jj) (by omega) (by omega) ?_
  exact hnx _ _ _ hW hax ham _ (lv_sub hl [0, 1, 2, 3] rfl)

set_option maxHeartbeats 4000000 in
set_option maxRecDepth 100000 in
theorem lc_650 {p : Program} {l : Launch} {e : Env} {s : State} {m : MethodId} {below : List Frame} {meth : Method} {c : Code} {b L : Nat} {g : tf_G} {sx : Int → Int} {Q : State → Prop} (E : lw_E p s m c b L g sx) (ax am jj : Nat) (ii : Int) (hii : ii = 6 * (jj : Int)) (hij : ii + 6 ≤ (L : Int)) (hnx : lw_nx p l e s m below meth c b g ax am jj ii Q) (T : tf_T) (H : Heap) (locs : List Loc) (hW : tf_n tf_kt g M_law (fun _ => none) s.heap T H locs) (hax : T ax = some (26, 0)) (ham : T am = some (50, 0)) (ls : Array Slot) (hl : lv_has ls 4 [(3, .int (Int32.ofInt ii)), (2, .ref am), (1, .ref ax), (0, .ref b)]) : W p l e room_1 s m #[Value.ref b] below meth c H locs (100 + 30 * jj) (30000 + 1200 * jj) Q (F0 m 650 ls []) := by
  obtain ⟨hx, hb, hml, hown, hts, hbl, hk, hBs, hsx, hX, hL⟩ := id E
  have hR1 := lw_R1
  have hR2 := lw_R2
  have hR3 := lw_R3
  have hR4 := lw_R4
  have hK := hk.1
  have hE : tf_E g T := trivial
  refine lv_aload_n hx hb dL_law_650 rfl (lv_at hl 2 rfl) ?_
  refine lv_aload_n hx hb dL_law_651 rfl (lv_at hl 3 rfl) ?_
  refine lv_iload_n hx hb dL_law_652 rfl (lv_at hl 0 rfl) ?_
  refine tf_iconst hx hb dL_law_653 ?_
  refine tf_iadd hx hb dL_law_654 ?_
  refine lw_sld (sx := sx) hx hb hX hbl hBs hL hW (by omega) (by omega) dL_law_655 ?_
  have hsx1 := hsx (ii + 1)
  refine lv_aload_n hx hb dL_law_656 rfl (lv_at hl 3 rfl) ?_
  refine lv_iload_n hx hb dL_law_657 rfl (lv_at hl 0 rfl) ?_
  refine tf_iconst hx hb dL_law_658 ?_
  refine tf_iadd hx hb dL_law_659 ?_
  refine lw_sld (sx := sx) hx hb hX hbl hBs hL hW (by omega) (by omega) dL_law_660 ?_
  have hsx2 := hsx (ii + 2)
  refine lv_aload_n hx hb dL_law_661 rfl (lv_at hl 3 rfl) ?_
  refine lv_iload_n hx hb dL_law_662 rfl (lv_at hl 0 rfl) ?_
  refine tf_iconst hx hb dL_law_663 ?_
  refine tf_iadd hx hb dL_law_664 ?_
  refine lw_sld (sx := sx) hx hb hX hbl hBs hL hW (by omega) (by omega) dL_law_665 ?_
  have hsx3 := hsx (ii + 3)
  refine tf_calli (va_runV (As := [.int (Int32.ofInt ((sx (ii + 1)))), .int (Int32.ofInt ((sx (ii + 2)))), .int (Int32.ofInt ((sx (ii + 3))))]) (rest := []) ⟨hx, hb, hml, hown, hts⟩ (c_X9_kind l g T ax hax ((sx (ii + 1))) ⟨by omega, by omega⟩ ((sx (ii + 2))) ⟨by omega, by omega⟩ ((sx (ii + 3))) ⟨by omega, by omega⟩ hE) (cwV 3 hts gv_L_74 rfl rfl rfl hd_X9_kind ⟨Nat.le_trans (by decide) hR1, Nat.le_trans (by decide) hR2⟩) (tf_preV hk hW hax (ci := 9) rfl rfl trivial) rfl rfl hl.1 rfl (lv_room (Nat.le_of_ble_eq_true rfl)) dL_law_666 ⟨Nat.le_trans (by omega) hR3, Nat.le_trans (by omega) hR4⟩) hW (by decide) (fun z4 H4 locs4 hW hF4 hp4 => ?_)
  obtain ⟨hp4_0, hp4_1⟩ := hp4
  refine lv_pop hx hb dL_law_669 rfl ?_
  refine lv_aload_n hx hb dL_law_670 rfl (lv_at hl 1 rfl) ?_
  refine lv_aload_n hx hb dL_law_671 rfl (lv_at hl 3 rfl) ?_
  refine lv_iload_n hx hb dL_law_672 rfl (lv_at hl 0 rfl) ?_
  refine tf_iconst hx hb dL_law_673 ?_
  refine tf_iadd hx hb dL_law_674 ?_
  refine lw_sld (sx := sx) hx hb hX hbl hBs hL hW (by omega) (by omega) dL_law_675 ?_
  have hsx5 := hsx (ii + 1)
  refine lv_aload_n hx hb dL_law_676 rfl (lv_at hl 3 rfl) ?_
  refine lv_iload_n hx hb dL_law_677 rfl (lv_at hl 0 rfl) ?_
  refine tf_iconst hx hb dL_law_678 ?_
  refine tf_iadd hx hb dL_law_679 ?_
  refine lw_sld (sx := sx) hx hb hX hbl hBs hL hW (by omega) (by omega) dL_law_680 ?_
  have hsx6 := hsx (ii + 2)
  refine lv_aload_n hx hb dL_law_681 rfl (lv_at hl 3 rfl) ?_
  refine lv_iload_n hx hb dL_law_682 rfl (lv_at hl 0 rfl) ?_
  refine tf_iconst hx hb dL_law_683 ?_
  refine tf_iadd hx hb dL_law_684 ?_
  refine lw_sld (sx := sx) hx hb hX hbl hBs hL hW (by omega) (by omega) dL_law_685 ?_
  have hsx7 := hsx (ii + 3)
  refine tf_calli (va_runV (As := [.int (Int32.ofInt ((sx (ii + 1)))), .int (Int32.ofInt ((sx (ii + 2)))), .int (Int32.ofInt ((sx (ii + 3))))]) (rest := []) ⟨hx, hb, hml, hown, hts⟩ (c_X10_kind l g T am ham ((sx (ii + 1))) ⟨by omega, by omega⟩ ((sx (ii + 2))) ⟨by omega, by omega⟩ ((sx (ii + 3))) ⟨by omega, by omega⟩) (cwV 3 hts gv_L_77 rfl rfl rfl hd_X10_kind ⟨Nat.le_trans (by decide) hR1, Nat.le_trans (by decide) hR2⟩) (tf_preV hk hW ham (ci := 10) rfl rfl trivial) rfl rfl hl.1 rfl (lv_room (Nat.le_of_ble_eq_true rfl)) dL_law_686 ⟨Nat.le_trans (by omega) hR3, Nat.le_trans (by omega) hR4⟩) hW (by decide) (fun z8 H8 locs8 hW hF8 hp8 => ?_)
  obtain ⟨hp8_0, hp8_1⟩ := hp8
  refine lv_pop hx hb dL_law_689 rfl ?_
  refine lv_goto (tgt := 1498) hx hb dL_law_690 (by decide) ?_
  refine W.widen (k := 130 + 30 * jj) (n := 31200 + 1200 * jj) (by omega) (by omega) ?_
  exact hnx _ _ _ hW hax ham _ (lv_sub hl [0, 1, 2, 3] rfl)

set_option maxHeartbeats 4000000 in
set_option maxRecDepth 100000 in
theorem lc_693 {p : Program} {l : Launch} {e : Env} {s : State} {m : MethodId} {below : List Frame} {meth : Method} {c : Code} {b L : Nat} {g : tf_G} {sx : Int → Int} {Q : State → Prop} (E : lw_E p s m c b L g sx) (ax am jj : Nat) (ii : Int) (hii : ii = 6 * (jj : Int)) (hij : ii + 6 ≤ (L : Int)) (hnx : lw_nx p l e s m below meth c b g ax am jj ii Q) (T : tf_T) (H : Heap) (locs : List Loc) (hW : tf_n tf_kt g M_law (fun _ => none) s.heap T H locs) (hax : T ax = some (26, 0)) (ham : T am = some (50, 0)) (ls : Array Slot) (hl : lv_has ls 4 [(3, .int (Int32.ofInt ii)), (2, .ref am), (1, .ref ax), (0, .ref b)]) : W p l e room_1 s m #[Value.ref b] below meth c H locs (100 + 30 * jj) (30000 + 1200 * jj) Q (F0 m 693 ls []) := by
  obtain ⟨hx, hb, hml, hown, hts, hbl, hk, hBs, hsx, hX, hL⟩ := id E
  have hR1 := lw_R1
  have hR2 := lw_R2
  have hR3 := lw_R3
  have hR4 := lw_R4
  have hK := hk.1
  have hE : tf_E g T := trivial
  refine lv_aload_n hx hb dL_law_693 rfl (lv_at hl 2 rfl) ?_
  refine lv_aload_n hx hb dL_law_694 rfl (lv_at hl 3 rfl) ?_
  refine lv_iload_n hx hb dL_law_695 rfl (lv_at hl 0 rfl) ?_
  refine tf_iconst hx hb dL_law_696 ?_
  refine tf_iadd hx hb dL_law_697 ?_
  refine lw_sld (sx := sx) hx hb hX hbl hBs hL hW (by omega) (by omega) dL_law_698 ?_
  have hsx1 := hsx (ii + 1)
  refine lv_aload_n hx hb dL_law_699 rfl (lv_at hl 3 rfl) ?_
  refine lv_iload_n hx hb dL_law_700 rfl (lv_at hl 0 rfl) ?_
  refine tf_iconst hx hb dL_law_701 ?_
  refine tf_iadd hx hb dL_law_702 ?_
  refine lw_sld (sx := sx) hx hb hX hbl hBs hL hW (by omega) (by omega) dL_law_703 ?_
  have hsx2 := hsx (ii + 2)
  refine tf_calli (va_runV (As := [.int (Int32.ofInt ((sx (ii + 1)))), .int (Int32.ofInt ((sx (ii + 2))))]) (rest := []) ⟨hx, hb, hml, hown, hts⟩ (c_X9_above l g T ax hax ((sx (ii + 1))) ⟨by omega, by omega⟩ ((sx (ii + 2))) ⟨by omega, by omega⟩ hE) (cwV 2 hts gv_L_78 rfl rfl rfl hd_X9_above ⟨Nat.le_trans (by decide) hR1, Nat.le_trans (by decide) hR2⟩) (tf_preV hk hW hax (ci := 9) rfl rfl trivial) rfl rfl hl.1 rfl (lv_room (Nat.le_of_ble_eq_true rfl)) dL_law_704 ⟨Nat.le_trans (by omega) hR3, Nat.le_trans (by omega) hR4⟩) hW (by decide) (fun z3 H3 locs3 hW hF3 hp3 => ?_)
  obtain ⟨hp3_0, hp3_1⟩ := hp3
  refine lv_pop hx hb dL_law_707 rfl ?_
  refine lv_aload_n hx hb dL_law_708 rfl (lv_at hl 1 rfl) ?_
  refine lv_aload_n hx hb dL_law_709 rfl (lv_at hl 3 rfl) ?_
  refine lv_iload_n hx hb dL_law_710 rfl (lv_at hl 0 rfl) ?_
  refine tf_iconst hx hb dL_law_711 ?_
  refine tf_iadd hx hb dL_law_712 ?_
  refine lw_sld (sx := sx) hx hb hX hbl hBs hL hW (by omega) (by omega) dL_law_713 ?_
  have hsx4 := hsx (ii + 1)
  refine lv_aload_n hx hb dL_law_714 rfl (lv_at hl 3 rfl) ?_
  refine lv_iload_n hx hb dL_law_715 rfl (lv_at hl 0 rfl) ?_
  refine tf_iconst hx hb dL_law_716 ?_
  refine tf_iadd hx hb dL_law_717 ?_
  refine lw_sld (sx := sx) hx hb hX hbl hBs hL hW (by omega) (by omega) dL_law_718 ?_
  have hsx5 := hsx (ii + 2)
  refine tf_calli (va_runV (As := [.int (Int32.ofInt ((sx (ii + 1)))), .int (Int32.ofInt ((sx (ii + 2))))]) (rest := []) ⟨hx, hb, hml, hown, hts⟩ (c_X10_above l g T am ham ((sx (ii + 1))) ⟨by omega, by omega⟩ ((sx (ii + 2))) ⟨by omega, by omega⟩) (cwV 2 hts gv_L_81 rfl rfl rfl hd_X10_above ⟨Nat.le_trans (by decide) hR1, Nat.le_trans (by decide) hR2⟩) (tf_preV hk hW ham (ci := 10) rfl rfl trivial) rfl rfl hl.1 rfl (lv_room (Nat.le_of_ble_eq_true rfl)) dL_law_719 ⟨Nat.le_trans (by omega) hR3, Nat.le_trans (by omega) hR4⟩) hW (by decide) (fun z6 H6 locs6 hW hF6 hp6 => ?_)
  obtain ⟨hp6_0, hp6_1⟩ := hp6
  refine lv_pop hx hb dL_law_722 rfl ?_
  refine lv_goto (tgt := 1498) hx hb dL_law_723 (by decide) ?_
  refine W.widen (k := 130 + 30 * jj) (n := 31200 + 1200 * jj) (by omega) (by omega) ?_
  exact hnx _ _ _ hW hax ham _ (lv_sub hl [0, 1, 2, 3] rfl)

set_option maxHeartbeats 4000000 in
set_option maxRecDepth 100000 in
theorem lc_726 {p : Program} {l : Launch} {e : Env} {s : State} {m : MethodId} {below : List Frame} {meth : Method} {c : Code} {b L : Nat} {g : tf_G} {sx : Int → Int} {Q : State → Prop} (E : lw_E p s m c b L g sx) (ax am jj : Nat) (ii : Int) (hii : ii = 6 * (jj : Int)) (hij : ii + 6 ≤ (L : Int)) (hnx : lw_nx p l e s m below meth c b g ax am jj ii Q) (T : tf_T) (H : Heap) (locs : List Loc) (hW : tf_n tf_kt g M_law (fun _ => none) s.heap T H locs) (hax : T ax = some (26, 0)) (ham : T am = some (50, 0)) (ls : Array Slot) (hl : lv_has ls 4 [(3, .int (Int32.ofInt ii)), (2, .ref am), (1, .ref ax), (0, .ref b)]) : W p l e room_1 s m #[Value.ref b] below meth c H locs (100 + 30 * jj) (30000 + 1200 * jj) Q (F0 m 726 ls []) := by
  obtain ⟨hx, hb, hml, hown, hts, hbl, hk, hBs, hsx, hX, hL⟩ := id E
  have hR1 := lw_R1
  have hR2 := lw_R2
  have hR3 := lw_R3
  have hR4 := lw_R4
  have hK := hk.1
  have hE : tf_E g T := trivial
  refine lv_aload_n hx hb dL_law_726 rfl (lv_at hl 2 rfl) ?_
  refine lv_aload_n hx hb dL_law_727 rfl (lv_at hl 3 rfl) ?_
  refine lv_iload_n hx hb dL_law_728 rfl (lv_at hl 0 rfl) ?_
  refine tf_iconst hx hb dL_law_729 ?_
  refine tf_iadd hx hb dL_law_730 ?_
  refine lw_sld (sx := sx) hx hb hX hbl hBs hL hW (by omega) (by omega) dL_law_731 ?_
  have hsx1 := hsx (ii + 1)
  refine tf_calli (va_runV (As := [.int (Int32.ofInt ((sx (ii + 1))))]) (rest := []) ⟨hx, hb, hml, hown, hts⟩ (c_X9_over l g T ax hax ((sx (ii + 1))) ⟨by omega, by omega⟩ hE) (cwV 1 hts gv_L_82 rfl rfl rfl hd_X9_over ⟨Nat.le_trans (by decide) hR1, Nat.le_trans (by decide) hR2⟩) (tf_preV hk hW hax (ci := 9) rfl rfl trivial) rfl rfl hl.1 rfl (lv_room (Nat.le_of_ble_eq_true rfl)) dL_law_732 ⟨Nat.le_trans (by omega) hR3, Nat.le_trans (by omega) hR4⟩) hW (by decide) (fun z2 H2 locs2 hW hF2 hp2 => ?_)
  obtain ⟨hp2_0, hp2_1⟩ := hp2
  refine lv_pop hx hb dL_law_735 rfl ?_
  refine lv_aload_n hx hb dL_law_736 rfl (lv_at hl 1 rfl) ?_
  refine lv_aload_n hx hb dL_law_737 rfl (lv_at hl 3 rfl) ?_
  refine lv_iload_n hx hb dL_law_738 rfl (lv_at hl 0 rfl) ?_
  refine tf_iconst hx hb dL_law_739 ?_
  refine tf_iadd hx hb dL_law_740 ?_
  refine lw_sld (sx := sx) hx hb hX hbl hBs hL hW (by omega) (by omega) dL_law_741 ?_
  have hsx3 := hsx (ii + 1)
  refine tf_calli (va_runV (As := [.int (Int32.ofInt ((sx (ii + 1))))]) (rest := []) ⟨hx, hb, hml, hown, hts⟩ (c_X10_over l g T am ham ((sx (ii + 1))) ⟨by omega, by omega⟩) (cwV 1 hts gv_L_85 rfl rfl rfl hd_X10_over ⟨Nat.le_trans (by decide) hR1, Nat.le_trans (by decide) hR2⟩) (tf_preV hk hW ham (ci := 10) rfl rfl trivial) rfl rfl hl.1 rfl (lv_room (Nat.le_of_ble_eq_true rfl)) dL_law_742 ⟨Nat.le_trans (by omega) hR3, Nat.le_trans (by omega) hR4⟩) hW (by decide) (fun z4 H4 locs4 hW hF4 hp4 => ?_)
  obtain ⟨hp4_0, hp4_1⟩ := hp4
  refine lv_pop hx hb dL_law_745 rfl ?_
  refine lv_goto (tgt := 1498) hx hb dL_law_746 (by decide) ?_
  refine W.widen (k := 130 + 30 * jj) (n := 31200 + 1200 * jj) (by omega) (by omega) ?_
  exact hnx _ _ _ hW hax ham _ (lv_sub hl [0, 1, 2, 3] rfl)

set_option maxHeartbeats 4000000 in
set_option maxRecDepth 100000 in
theorem lc_749 {p : Program} {l : Launch} {e : Env} {s : State} {m : MethodId} {below : List Frame} {meth : Method} {c : Code} {b L : Nat} {g : tf_G} {sx : Int → Int} {Q : State → Prop} (E : lw_E p s m c b L g sx) (ax am jj : Nat) (ii : Int) (hii : ii = 6 * (jj : Int)) (hij : ii + 6 ≤ (L : Int)) (hnx : lw_nx p l e s m below meth c b g ax am jj ii Q) (T : tf_T) (H : Heap) (locs : List Loc) (hW : tf_n tf_kt g M_law (fun _ => none) s.heap T H locs) (hax : T ax = some (26, 0)) (ham : T am = some (50, 0)) (ls : Array Slot) (hl : lv_has ls 4 [(3, .int (Int32.ofInt ii)), (2, .ref am), (1, .ref ax), (0, .ref b)]) : W p l e room_1 s m #[Value.ref b] below meth c H locs (100 + 30 * jj) (30000 + 1200 * jj) Q (F0 m 749 ls []) := by
  obtain ⟨hx, hb, hml, hown, hts, hbl, hk, hBs, hsx, hX, hL⟩ := id E
  have hR1 := lw_R1
  have hR2 := lw_R2
  have hR3 := lw_R3
  have hR4 := lw_R4
  have hK := hk.1
  have hE : tf_E g T := trivial
  refine lv_aload_n hx hb dL_law_749 rfl (lv_at hl 2 rfl) ?_
  refine lv_aload_n hx hb dL_law_750 rfl (lv_at hl 3 rfl) ?_
  refine lv_iload_n hx hb dL_law_751 rfl (lv_at hl 0 rfl) ?_
  refine tf_iconst hx hb dL_law_752 ?_
  refine tf_iadd hx hb dL_law_753 ?_
  refine lw_sld (sx := sx) hx hb hX hbl hBs hL hW (by omega) (by omega) dL_law_754 ?_
  have hsx1 := hsx (ii + 1)
  refine tf_calli (va_runV (As := [.int (Int32.ofInt ((sx (ii + 1))))]) (rest := []) ⟨hx, hb, hml, hown, hts⟩ (c_X9_bad l g T ax hax ((sx (ii + 1))) ⟨by omega, by omega⟩ hE) (cwV 1 hts gv_L_86 rfl rfl rfl hd_X9_bad ⟨Nat.le_trans (by decide) hR1, Nat.le_trans (by decide) hR2⟩) (tf_preV hk hW hax (ci := 9) rfl rfl trivial) rfl rfl hl.1 rfl (lv_room (Nat.le_of_ble_eq_true rfl)) dL_law_755 ⟨Nat.le_trans (by omega) hR3, Nat.le_trans (by omega) hR4⟩) hW (by decide) (fun z2 H2 locs2 hW hF2 hp2 => ?_)
  obtain ⟨hp2_0, hp2_1⟩ := hp2
  refine lv_pop hx hb dL_law_758 rfl ?_
  refine lv_aload_n hx hb dL_law_759 rfl (lv_at hl 1 rfl) ?_
  refine lv_aload_n hx hb dL_law_760 rfl (lv_at hl 3 rfl) ?_
  refine lv_iload_n hx hb dL_law_761 rfl (lv_at hl 0 rfl) ?_
  refine tf_iconst hx hb dL_law_762 ?_
  refine tf_iadd hx hb dL_law_763 ?_
  refine lw_sld (sx := sx) hx hb hX hbl hBs hL hW (by omega) (by omega) dL_law_764 ?_
  have hsx3 := hsx (ii + 1)
  refine tf_calli (va_runV (As := [.int (Int32.ofInt ((sx (ii + 1))))]) (rest := []) ⟨hx, hb, hml, hown, hts⟩ (c_X10_bad l g T am ham ((sx (ii + 1))) ⟨by omega, by omega⟩) (cwV 1 hts gv_L_89 rfl rfl rfl hd_X10_bad ⟨Nat.le_trans (by decide) hR1, Nat.le_trans (by decide) hR2⟩) (tf_preV hk hW ham (ci := 10) rfl rfl trivial) rfl rfl hl.1 rfl (lv_room (Nat.le_of_ble_eq_true rfl)) dL_law_765 ⟨Nat.le_trans (by omega) hR3, Nat.le_trans (by omega) hR4⟩) hW (by decide) (fun z4 H4 locs4 hW hF4 hp4 => ?_)
  obtain ⟨hp4_0, hp4_1⟩ := hp4
  refine lv_pop hx hb dL_law_768 rfl ?_
  refine lv_goto (tgt := 1498) hx hb dL_law_769 (by decide) ?_
  refine W.widen (k := 130 + 30 * jj) (n := 31200 + 1200 * jj) (by omega) (by omega) ?_
  exact hnx _ _ _ hW hax ham _ (lv_sub hl [0, 1, 2, 3] rfl)

set_option maxHeartbeats 4000000 in
set_option maxRecDepth 100000 in
theorem lc_772 {p : Program} {l : Launch} {e : Env} {s : State} {m : MethodId} {below : List Frame} {meth : Method} {c : Code} {b L : Nat} {g : tf_G} {sx : Int → Int} {Q : State → Prop} (E : lw_E p s m c b L g sx) (ax am jj : Nat) (ii : Int) (hii : ii = 6 * (jj : Int)) (hij : ii + 6 ≤ (L : Int)) (hnx : lw_nx p l e s m below meth c b g ax am jj ii Q) (T : tf_T) (H : Heap) (locs : List Loc) (hW : tf_n tf_kt g M_law (fun _ => none) s.heap T H locs) (hax : T ax = some (26, 0)) (ham : T am = some (50, 0)) (ls : Array Slot) (hl : lv_has ls 4 [(3, .int (Int32.ofInt ii)), (2, .ref am), (1, .ref ax), (0, .ref b)]) : W p l e room_1 s m #[Value.ref b] below meth c H locs (100 + 30 * jj) (30000 + 1200 * jj) Q (F0 m 772 ls []) := by
  obtain ⟨hx, hb, hml, hown, hts, hbl, hk, hBs, hsx, hX, hL⟩ := id E
  have hR1 := lw_R1
  have hR2 := lw_R2
  have hR3 := lw_R3
  have hR4 := lw_R4
  have hK := hk.1
  have hE : tf_E g T := trivial
  refine lv_aload_n hx hb dL_law_772 rfl (lv_at hl 2 rfl) ?_
  refine lv_aload_n hx hb dL_law_773 rfl (lv_at hl 3 rfl) ?_
  refine lv_iload_n hx hb dL_law_774 rfl (lv_at hl 0 rfl) ?_
  refine tf_iconst hx hb dL_law_775 ?_
  refine tf_iadd hx hb dL_law_776 ?_
  refine lw_sld (sx := sx) hx hb hX hbl hBs hL hW (by omega) (by omega) dL_law_777 ?_
  have hsx1 := hsx (ii + 1)
  refine lv_aload_n hx hb dL_law_778 rfl (lv_at hl 3 rfl) ?_
  refine lv_iload_n hx hb dL_law_779 rfl (lv_at hl 0 rfl) ?_
  refine tf_iconst hx hb dL_law_780 ?_
  refine tf_iadd hx hb dL_law_781 ?_
  refine lw_sld (sx := sx) hx hb hX hbl hBs hL hW (by omega) (by omega) dL_law_782 ?_
  have hsx2 := hsx (ii + 2)
  refine tf_calli (va_runV (As := [.int (Int32.ofInt ((sx (ii + 1)))), .int (Int32.ofInt ((sx (ii + 2))))]) (rest := []) ⟨hx, hb, hml, hown, hts⟩ (c_X9_kinds l g T ax hax ((sx (ii + 1))) ⟨by omega, by omega⟩ ((sx (ii + 2))) ⟨by omega, by omega⟩ hE) (cwV 2 hts gv_L_90 rfl rfl rfl hd_X9_kinds ⟨Nat.le_trans (by decide) hR1, Nat.le_trans (by decide) hR2⟩) (tf_preV hk hW hax (ci := 9) rfl rfl trivial) rfl rfl hl.1 rfl (lv_room (Nat.le_of_ble_eq_true rfl)) dL_law_783 ⟨Nat.le_trans (by omega) hR3, Nat.le_trans (by omega) hR4⟩) hW (by decide) (fun z3 H3 locs3 hW hF3 hp3 => ?_)
  obtain ⟨hp3_0, hp3_1⟩ := hp3
  refine lv_pop hx hb dL_law_786 rfl ?_
  refine lv_aload_n hx hb dL_law_787 rfl (lv_at hl 1 rfl) ?_
  refine lv_aload_n hx hb dL_law_788 rfl (lv_at hl 3 rfl) ?_
  refine lv_iload_n hx hb dL_law_789 rfl (lv_at hl 0 rfl) ?_
  refine tf_iconst hx hb dL_law_790 ?_
  refine tf_iadd hx hb dL_law_791 ?_
  refine lw_sld (sx := sx) hx hb hX hbl hBs hL hW (by omega) (by omega) dL_law_792 ?_
  have hsx4 := hsx (ii + 1)
  refine lv_aload_n hx hb dL_law_793 rfl (lv_at hl 3 rfl) ?_
  refine lv_iload_n hx hb dL_law_794 rfl (lv_at hl 0 rfl) ?_
  refine tf_iconst hx hb dL_law_795 ?_
  refine tf_iadd hx hb dL_law_796 ?_
  refine lw_sld (sx := sx) hx hb hX hbl hBs hL hW (by omega) (by omega) dL_law_797 ?_
  have hsx5 := hsx (ii + 2)
  refine tf_calli (va_runV (As := [.int (Int32.ofInt ((sx (ii + 1)))), .int (Int32.ofInt ((sx (ii + 2))))]) (rest := []) ⟨hx, hb, hml, hown, hts⟩ (c_X10_kinds l g T am ham ((sx (ii + 1))) ⟨by omega, by omega⟩ ((sx (ii + 2))) ⟨by omega, by omega⟩) (cwV 2 hts gv_L_93 rfl rfl rfl hd_X10_kinds ⟨Nat.le_trans (by decide) hR1, Nat.le_trans (by decide) hR2⟩) (tf_preV hk hW ham (ci := 10) rfl rfl trivial) rfl rfl hl.1 rfl (lv_room (Nat.le_of_ble_eq_true rfl)) dL_law_798 ⟨Nat.le_trans (by omega) hR3, Nat.le_trans (by omega) hR4⟩) hW (by decide) (fun z6 H6 locs6 hW hF6 hp6 => ?_)
  obtain ⟨hp6_0, hp6_1⟩ := hp6
  refine lv_pop hx hb dL_law_801 rfl ?_
  refine lv_goto (tgt := 1498) hx hb dL_law_802 (by decide) ?_
  refine W.widen (k := 130 + 30 * jj) (n := 31200 + 1200 * jj) (by omega) (by omega) ?_
  exact hnx _ _ _ hW hax ham _ (lv_sub hl [0, 1, 2, 3] rfl)

set_option maxHeartbeats 4000000 in
set_option maxRecDepth 100000 in
theorem lc_805 {p : Program} {l : Launch} {e : Env} {s : State} {m : MethodId} {below : List Frame} {meth : Method} {c : Code} {b L : Nat} {g : tf_G} {sx : Int → Int} {Q : State → Prop} (E : lw_E p s m c b L g sx) (ax am jj : Nat) (ii : Int) (hii : ii = 6 * (jj : Int)) (hij : ii + 6 ≤ (L : Int)) (hnx : lw_nx p l e s m below meth c b g ax am jj ii Q) (T : tf_T) (H : Heap) (locs : List Loc) (hW : tf_n tf_kt g M_law (fun _ => none) s.heap T H locs) (hax : T ax = some (26, 0)) (ham : T am = some (50, 0)) (ls : Array Slot) (hl : lv_has ls 4 [(3, .int (Int32.ofInt ii)), (2, .ref am), (1, .ref ax), (0, .ref b)]) : W p l e room_1 s m #[Value.ref b] below meth c H locs (100 + 30 * jj) (30000 + 1200 * jj) Q (F0 m 805 ls []) := by
  obtain ⟨hx, hb, hml, hown, hts, hbl, hk, hBs, hsx, hX, hL⟩ := id E
  have hR1 := lw_R1
  have hR2 := lw_R2
  have hR3 := lw_R3
  have hR4 := lw_R4
  have hK := hk.1
  have hE : tf_E g T := trivial
  refine lv_aload_n hx hb dL_law_805 rfl (lv_at hl 2 rfl) ?_
  refine lv_aload_n hx hb dL_law_806 rfl (lv_at hl 3 rfl) ?_
  refine lv_iload_n hx hb dL_law_807 rfl (lv_at hl 0 rfl) ?_
  refine tf_iconst hx hb dL_law_808 ?_
  refine tf_iadd hx hb dL_law_809 ?_
  refine lw_sld (sx := sx) hx hb hX hbl hBs hL hW (by omega) (by omega) dL_law_810 ?_
  have hsx1 := hsx (ii + 1)
  refine tf_calli (va_runV (As := [.int (Int32.ofInt ((sx (ii + 1))))]) (rest := []) ⟨hx, hb, hml, hown, hts⟩ (c_X9_does l g T ax hax ((sx (ii + 1))) ⟨by omega, by omega⟩ hE) (cwV 1 hts gv_L_94 rfl rfl rfl hd_X9_does ⟨Nat.le_trans (by decide) hR1, Nat.le_trans (by decide) hR2⟩) (tf_preV hk hW hax (ci := 9) rfl rfl trivial) rfl rfl hl.1 rfl (lv_room (Nat.le_of_ble_eq_true rfl)) dL_law_811 ⟨Nat.le_trans (by omega) hR3, Nat.le_trans (by omega) hR4⟩) hW (by decide) (fun z2 H2 locs2 hW hF2 hp2 => ?_)
  obtain ⟨hp2_0, hp2_1⟩ := hp2
  refine lv_pop hx hb dL_law_814 rfl ?_
  refine lv_aload_n hx hb dL_law_815 rfl (lv_at hl 1 rfl) ?_
  refine lv_aload_n hx hb dL_law_816 rfl (lv_at hl 3 rfl) ?_
  refine lv_iload_n hx hb dL_law_817 rfl (lv_at hl 0 rfl) ?_
  refine tf_iconst hx hb dL_law_818 ?_
  refine tf_iadd hx hb dL_law_819 ?_
  refine lw_sld (sx := sx) hx hb hX hbl hBs hL hW (by omega) (by omega) dL_law_820 ?_
  have hsx3 := hsx (ii + 1)
  refine tf_calli (va_runV (As := [.int (Int32.ofInt ((sx (ii + 1))))]) (rest := []) ⟨hx, hb, hml, hown, hts⟩ (c_X10_does l g T am ham ((sx (ii + 1))) ⟨by omega, by omega⟩) (cwV 1 hts gv_L_97 rfl rfl rfl hd_X10_does ⟨Nat.le_trans (by decide) hR1, Nat.le_trans (by decide) hR2⟩) (tf_preV hk hW ham (ci := 10) rfl rfl trivial) rfl rfl hl.1 rfl (lv_room (Nat.le_of_ble_eq_true rfl)) dL_law_821 ⟨Nat.le_trans (by omega) hR3, Nat.le_trans (by omega) hR4⟩) hW (by decide) (fun z4 H4 locs4 hW hF4 hp4 => ?_)
  obtain ⟨hp4_0, hp4_1⟩ := hp4
  refine lv_pop hx hb dL_law_824 rfl ?_
  refine lv_goto (tgt := 1498) hx hb dL_law_825 (by decide) ?_
  refine W.widen (k := 130 + 30 * jj) (n := 31200 + 1200 * jj) (by omega) (by omega) ?_
  exact hnx _ _ _ hW hax ham _ (lv_sub hl [0, 1, 2, 3] rfl)


abbrev M_X9_refuse : List (Nat × Nat) := [(12, 0), (26, 13)]
set_option maxHeartbeats 4000000 in
set_option maxRecDepth 100000 in
theorem c_X9_refuse (l : Launch) (g : tf_G) (T : tf_T) (a0 : Nat) (ha0 : T a0 = some (26, 0)) (x1 : Int) (hp1 : (-6) ≤ x1 ∧ x1 ≤ (-1)) : Met l yX9_refuse (cd_X9_refuse :: wsL_law) ({ frames := 2, cells := 0, slots := 0, locals := 46 }) (tf_P g T [.ref a0, .int (Int32.ofInt x1)] (fun H => True)) (tf_Qi g M_X9_refuse T (fun z _ _ => (-2147483648) ≤ z ∧ z ≤ 2147483647 ∧ z = x1)) 0 0 (fun q => tf_B g ≤ q) := by
  refine Met.ofW (cc := cX9_refuse) (maxL := 2) (ret := (some .int)) (by decide) rfl ?_
  intro p e s m args below meth c s₁ B hml hv
  obtain ⟨hargs, hk, hW0, hB, hpre⟩ := hv
  have hx := B.exec
  have hb := B.bytes
  have hr := B.returns
  have hts : ∀ w ∈ wsL_law, w.before args s = true := fun w h => atoms_spec (ws := cd_X9_refuse :: wsL_law) B.pre w (List.mem_cons_of_mem _ h)
  have hown : s.vm.findClass RX9 = some m.cls := findClass_of_methodNamed B.named
  have hlocks := B.notSynchronized
  have hK := hk.1
  have hW := tf_n.start (M := M_X9_refuse) hW0 hB
  obtain ⟨Q, hQ⟩ : ∃ q, q = MQ below (tf_Qi g M_X9_refuse T (fun z _ _ => (-2147483648) ≤ z ∧ z ≤ 2147483647 ∧ z = x1)) args s 0 0 (fun q => tf_B g ≤ q) := ⟨_, rfl⟩
  rw [← hQ]
  obtain ⟨R, hR⟩ : ∃ q, q = (headSpec (cd_X9_refuse :: wsL_law) ({ frames := 2, cells := 0, slots := 0, locals := 46 })).room := ⟨_, rfl⟩
  rw [← hR]
  have hR1 : 2 ≤ R.frames := by rw [hR]; exact Nat.le_refl _
  have hR2 : 46 ≤ R.locals := by rw [hR]; exact Nat.le_refl _
  have hR3 : 0 ≤ R.cells := by rw [hR]; exact Nat.le_refl _
  have hR4 : 0 ≤ R.slots := by rw [hR]; exact Nat.le_refl _
  have hin := (name_of_methodNamed B.named B.method).1
  clear hR B
  refine tf_enter (As := [.ref a0, .int (Int32.ofInt x1)]) hargs (Nat.le_of_ble_eq_true rfl) (fun ls hl => ?_)
  have hl : lv_has ls 2 [(0, .ref a0), (1, .int (Int32.ofInt x1))] := hl
  refine lv_aload_n hx hb dX9_refuse_0 rfl (lv_at hl 0 rfl) ?_
  refine lv_iload_n hx hb dX9_refuse_1 rfl (lv_at hl 1 rfl) ?_
  refine tf_put hx hb hts inlX9 tyX9 tyX9_ok nmX9 hown hK (ci := 9) rfl hW ha0 rfl rfl 13 rfl (by decide) (by decide) (hts _ fl_X9_68) rfl (tf_u0 (by omega) (by omega)) rfl rfl dX9_refuse_2 (fun H1 locs1 hW hs1 ht1 hq1 => ?_)
  refine lv_iload_n hx hb dX9_refuse_5 rfl (lv_at hl 1 rfl) ?_
  refine tf_ineg hx hb dX9_refuse_6 ?_
  refine tf_iconst hx hb dX9_refuse_7 ?_
  refine lv_aload_n hx hb dX9_refuse_8 rfl (lv_at hl 0 rfl) ?_
  refine tf_get hx hb hts inlX9 hown hK (ci := 9) rfl hW ha0 rfl 12 rfl (by decide) (hts _ fl_X9_65) dX9_refuse_9 (fun v2 hv2 hsv2 => ?_)
  obtain ⟨ad3, rfl, had3⟩ := tf_v1 hv2
  refine tf_alen (t0 := 0) hx hb hK hW had3 rfl rfl dX9_refuse_12 (fun hn4 => ?_)
  refine tf_iconst hx hb dX9_refuse_13 ?_
  refine tf_isub hx hb dX9_refuse_14 ?_
  refine tf_calli (va_runS (As := [.int (Int32.ofInt ((-x1))), .int (Int32.ofInt 0), .int (Int32.ofInt ((7 - 1)))]) (rest := []) ⟨hx, hb, hml, hown, hts⟩ (c_X9_isWithin l g T ((-x1)) ⟨by omega, by omega⟩ (0) ⟨by omega, by omega⟩ ((7 - 1)) ⟨by omega, by omega⟩) ⟨callB_of 3 hts (gw_ws cm_X9_isWithin) rfl rfl rfl (hts _ (tw1 (i := 2) rfl)) (hts _ (tw9 (i := 19) rfl)) hd_X9_isWithin.2 ⟨Nat.le_trans (by decide) hR1, Nat.le_trans (by decide) hR2⟩, hts _ (tw8 (i := 17) rfl)⟩ (tf_preS hk hW trivial) rfl rfl hl.1 rfl (lv_room (Nat.le_of_ble_eq_true rfl)) dX9_refuse_15 ⟨Nat.zero_le _, Nat.zero_le _⟩) hW (by decide) (fun z5 H5 locs5 hW hF5 hp5 => ?_)
  have hs6 := tf_keepF hF5 ha0 rfl rfl (by decide) hsv2
  rcases hp5 with ⟨rfl, h7, h8⟩ | ⟨rfl, h9⟩
  · refine tf_if_eq (tgt := 32) hx hb ⟨by decide, by decide⟩ dX9_refuse_18 (by decide) (fun h10 => ?_) (fun h10 => ?_)
    · exfalso; omega
    · refine lv_aload_n hx hb dX9_refuse_21 rfl (lv_at hl 0 rfl) ?_
      refine tf_get hx hb hts inlX9 hown hK (ci := 9) rfl hW ha0 rfl 12 rfl (by decide) (hts _ fl_X9_65) dX9_refuse_22 (fun v11 hv11 hsv11 => ?_)
      obtain rfl : v11 = .ref ad3 := Option.some.inj (hsv11.symm.trans hs6)
      refine lv_iload_n hx hb dX9_refuse_25 rfl (lv_at hl 1 rfl) ?_
      refine tf_ineg hx hb dX9_refuse_26 ?_
      refine lv_dup2_11 hx hb dX9_refuse_27 rfl rfl ?_
      refine tf_iald (t0 := 0) hx hb hK hW had3 rfl rfl (by omega) (by omega) dX9_refuse_28 (fun v12 hv12 hsv12 => ?_)
      obtain ⟨z13, rfl, hz13⟩ := tf_v0 hv12
      refine tf_iconst hx hb dX9_refuse_29 ?_
      refine tf_iadd_any hx hb dX9_refuse_30 (fun z14 hz14 => ?_)
      refine tf_iast (t0 := 0) hx hb hK hW had3 rfl rfl (by omega) (by omega) (by decide) (tf_u0 (by omega) (by omega)) dX9_refuse_31 (fun H15 locs15 hW hs15 ht15 hq15 => ?_)
      have hs16 := tf_keepQ hs6 (hq15 _ (tf_ne ha0 had3 (by decide)))
      refine lv_iload_n hx hb dX9_refuse_32 rfl (lv_at hl 1 rfl) ?_
      exact tf_reti (z := x1) hx hb hr hlocks hQ hW (show (-2147483648) ≤ (x1) ∧ (x1) ≤ 2147483647 ∧ (x1) = x1 by omega) dX9_refuse_33
  · refine tf_if_eq (tgt := 32) hx hb ⟨by decide, by decide⟩ dX9_refuse_18 (by decide) (fun h17 => ?_) (fun h17 => ?_)
    · refine lv_iload_n hx hb dX9_refuse_32 rfl (lv_at hl 1 rfl) ?_
      exact tf_reti (z := x1) hx hb hr hlocks hQ hW (show (-2147483648) ≤ (x1) ∧ (x1) ≤ 2147483647 ∧ (x1) = x1 by omega) dX9_refuse_33
    · exfalso; omega

abbrev M_X9_accept : List (Nat × Nat) := [(23, 2), (23, 6), (23, 10), (26, 13)]
set_option maxHeartbeats 4000000 in
set_option maxRecDepth 100000 in
theorem c_X9_accept (l : Launch) (g : tf_G) (T : tf_T) (a0 : Nat) (ha0 : T a0 = some (26, 0)) (x1 : Int) (hp1 : (-2147483648) ≤ x1 ∧ x1 ≤ 2147483647) : Met l yX9_accept (cd_X9_accept :: wsL_law) ({ frames := 2, cells := 0, slots := 0, locals := 44 }) (tf_P g T [.ref a0, .int (Int32.ofInt x1)] (fun H => True)) (tf_Qi g M_X9_accept T (fun z _ _ => (-2147483648) ≤ z ∧ z ≤ 2147483647 ∧ z = x1)) 0 0 (fun q => tf_B g ≤ q) := by
  refine Met.ofW (cc := cX9_accept) (maxL := 2) (ret := (some .int)) (by decide) rfl ?_
  intro p e s m args below meth c s₁ B hml hv
  obtain ⟨hargs, hk, hW0, hB, hpre⟩ := hv
  have hx := B.exec
  have hb := B.bytes
  have hr := B.returns
  have hts : ∀ w ∈ wsL_law, w.before args s = true := fun w h => atoms_spec (ws := cd_X9_accept :: wsL_law) B.pre w (List.mem_cons_of_mem _ h)
  have hown : s.vm.findClass RX9 = some m.cls := findClass_of_methodNamed B.named
  have hlocks := B.notSynchronized
  have hK := hk.1
  have hW := tf_n.start (M := M_X9_accept) hW0 hB
  obtain ⟨Q, hQ⟩ : ∃ q, q = MQ below (tf_Qi g M_X9_accept T (fun z _ _ => (-2147483648) ≤ z ∧ z ≤ 2147483647 ∧ z = x1)) args s 0 0 (fun q => tf_B g ≤ q) := ⟨_, rfl⟩
  rw [← hQ]
  obtain ⟨R, hR⟩ : ∃ q, q = (headSpec (cd_X9_accept :: wsL_law) ({ frames := 2, cells := 0, slots := 0, locals := 44 })).room := ⟨_, rfl⟩
  rw [← hR]
  have hR1 : 2 ≤ R.frames := by rw [hR]; exact Nat.le_refl _
  have hR2 : 44 ≤ R.locals := by rw [hR]; exact Nat.le_refl _
  have hR3 : 0 ≤ R.cells := by rw [hR]; exact Nat.le_refl _
  have hR4 : 0 ≤ R.slots := by rw [hR]; exact Nat.le_refl _
  have hin := (name_of_methodNamed B.named B.method).1
  clear hR B
  refine tf_enter (As := [.ref a0, .int (Int32.ofInt x1)]) hargs (Nat.le_of_ble_eq_true rfl) (fun ls hl => ?_)
  have hl : lv_has ls 2 [(0, .ref a0), (1, .int (Int32.ofInt x1))] := hl
  refine lv_aload_n hx hb dX9_accept_0 rfl (lv_at hl 0 rfl) ?_
  refine tf_iconst hx hb dX9_accept_1 ?_
  refine tf_put hx hb hts inlX9 tyX9 tyX9_ok nmX9 hown hK (ci := 9) rfl hW ha0 rfl rfl 13 rfl (by decide) (by decide) (hts _ fl_X9_68) rfl (tf_u0 (by omega) (by omega)) rfl rfl dX9_accept_2 (fun H1 locs1 hW hs1 ht1 hq1 => ?_)
  refine lv_aload_n hx hb dX9_accept_5 rfl (lv_at hl 0 rfl) ?_
  refine tf_get hx hb hts inlX9 hown hK (ci := 9) rfl hW ha0 rfl 3 rfl (by decide) (hts _ fl_X9_30) dX9_accept_6 (fun v2 hv2 hsv2 => ?_)
  obtain ⟨ad3, rfl, had3⟩ := tf_v1 hv2
  refine tf_callv (va_runV (As := []) (rest := []) ⟨hx, hb, hml, hown, hts⟩ (c_X6_forget l g T ad3 had3) (cwV 0 hts gv_X9_361 rfl rfl rfl hd_X6_forget ⟨Nat.le_trans (by decide) hR1, Nat.le_trans (by decide) hR2⟩) (tf_preV hk hW had3 (ci := 6) rfl rfl trivial) rfl rfl hl.1 rfl (lv_room (Nat.le_of_ble_eq_true rfl)) dX9_accept_9 ⟨Nat.zero_le _, Nat.zero_le _⟩) hW (by decide) (fun H4 locs4 hW hF4 hp4 => ?_)
  refine lv_iload_n hx hb dX9_accept_12 rfl (lv_at hl 1 rfl) ?_
  exact tf_reti (z := x1) hx hb hr hlocks hQ hW (show (-2147483648) ≤ (x1) ∧ (x1) ≤ 2147483647 ∧ (x1) = x1 by omega) dX9_accept_13

abbrev M_X9_tower : List (Nat × Nat) := [(1, 0), (2, 0), (12, 0), (22, 4), (23, 2), (23, 6), (23, 10), (26, 13)]
set_option maxHeartbeats 4000000 in
set_option maxRecDepth 100000 in
theorem c_X9_tower (l : Launch) (g : tf_G) (T : tf_T) (a0 : Nat) (ha0 : T a0 = some (26, 0)) (x1 : Int) (hp1 : (-2147483648) ≤ x1 ∧ x1 ≤ 2147483647) (x2 : Int) (hp2 : (-2147483648) ≤ x2 ∧ x2 ≤ 2147483647) (x3 : Int) (hp3 : (-2147483648) ≤ x3 ∧ x3 ≤ 2147483647) (x4 : Int) (hp4 : (-2147483648) ≤ x4 ∧ x4 ≤ 2147483647) (x5 : Int) (hp5 : (-2147483648) ≤ x5 ∧ x5 ≤ 2147483647) : Met l yX9_tower (cd_X9_tower :: wsL_law) ({ frames := 5, cells := 0, slots := 0, locals := 114 }) (tf_P g T [.ref a0, .int (Int32.ofInt x1), .int (Int32.ofInt x2), .int (Int32.ofInt x3), .int (Int32.ofInt x4), .int (Int32.ofInt x5)] (fun H => True)) (tf_Qi g M_X9_tower T (fun z _ _ => (-2147483648) ≤ z ∧ z ≤ 2147483647)) 0 0 (fun q => tf_B g ≤ q) := by
  refine Met.ofW (cc := cX9_tower) (maxL := 7) (ret := (some .int)) (by decide) rfl ?_
  intro p e s m args below meth c s₁ B hml hv
  obtain ⟨hargs, hk, hW0, hB, hpre⟩ := hv
  have hx := B.exec
  have hb := B.bytes
  have hr := B.returns
  have hts : ∀ w ∈ wsL_law, w.before args s = true := fun w h => atoms_spec (ws := cd_X9_tower :: wsL_law) B.pre w (List.mem_cons_of_mem _ h)
  have hown : s.vm.findClass RX9 = some m.cls := findClass_of_methodNamed B.named
  have hlocks := B.notSynchronized
  have hK := hk.1
  have hW := tf_n.start (M := M_X9_tower) hW0 hB
  obtain ⟨Q, hQ⟩ : ∃ q, q = MQ below (tf_Qi g M_X9_tower T (fun z _ _ => (-2147483648) ≤ z ∧ z ≤ 2147483647)) args s 0 0 (fun q => tf_B g ≤ q) := ⟨_, rfl⟩
  rw [← hQ]
  obtain ⟨R, hR⟩ : ∃ q, q = (headSpec (cd_X9_tower :: wsL_law) ({ frames := 5, cells := 0, slots := 0, locals := 114 })).room := ⟨_, rfl⟩
  rw [← hR]
  have hR1 : 5 ≤ R.frames := by rw [hR]; exact Nat.le_refl _
  have hR2 : 114 ≤ R.locals := by rw [hR]; exact Nat.le_refl _
  have hR3 : 0 ≤ R.cells := by rw [hR]; exact Nat.le_refl _
  have hR4 : 0 ≤ R.slots := by rw [hR]; exact Nat.le_refl _
  have hin := (name_of_methodNamed B.named B.method).1
  clear hR B
  refine tf_enter (As := [.ref a0, .int (Int32.ofInt x1), .int (Int32.ofInt x2), .int (Int32.ofInt x3), .int (Int32.ofInt x4), .int (Int32.ofInt x5)]) hargs (Nat.le_of_ble_eq_true rfl) (fun ls hl => ?_)
  have hl : lv_has ls 7 [(0, .ref a0), (1, .int (Int32.ofInt x1)), (2, .int (Int32.ofInt x2)), (3, .int (Int32.ofInt x3)), (4, .int (Int32.ofInt x4)), (5, .int (Int32.ofInt x5))] := hl
  refine lv_aload_n hx hb dX9_tower_0 rfl (lv_at hl 0 rfl) ?_
  refine tf_get hx hb hts inlX9 hown hK (ci := 9) rfl hW ha0 rfl 0 rfl (by decide) (hts _ fl_X9_10) dX9_tower_1 (fun v1 hv1 hsv1 => ?_)
  obtain ⟨ad2, rfl, had2⟩ := tf_v1 hv1
  refine lv_iload_n hx hb dX9_tower_4 rfl (lv_at hl 1 rfl) ?_
  refine lv_iload_n hx hb dX9_tower_5 rfl (lv_at hl 2 rfl) ?_
  refine lv_iload_n hx hb dX9_tower_6 rfl (lv_at hl 3 rfl) ?_
  refine lv_iload hx hb dX9_tower_7 (lv_at hl 4 rfl) ?_
  refine lv_iload hx hb dX9_tower_9 (lv_at hl 5 rfl) ?_
  refine tf_calli (va_runV (As := [.int (Int32.ofInt x1), .int (Int32.ofInt x2), .int (Int32.ofInt x3), .int (Int32.ofInt x4), .int (Int32.ofInt x5)]) (rest := []) ⟨hx, hb, hml, hown, hts⟩ (c_X3_whyNoTower l g T ad2 had2 (x1) ⟨by omega, by omega⟩ (x2) ⟨by omega, by omega⟩ (x3) ⟨by omega, by omega⟩ (x4) ⟨by omega, by omega⟩ (x5) ⟨by omega, by omega⟩) (cwV 5 hts gv_X9_71 rfl rfl rfl hd_X3_whyNoTower ⟨Nat.le_trans (by decide) hR1, Nat.le_trans (by decide) hR2⟩) (tf_preV hk hW had2 (ci := 3) rfl rfl trivial) rfl rfl hl.1 rfl (lv_room (Nat.le_of_ble_eq_true rfl)) dX9_tower_11 ⟨Nat.zero_le _, Nat.zero_le _⟩) hW (by decide) (fun z3 H3 locs3 hW hF3 hp3 => ?_)
  have hs4 := tf_keepF hF3 ha0 rfl rfl (by decide) hsv1
  rcases hp3 with ⟨rfl, h5, h6, h7, h8, h9, h10, h11, h12⟩ | ⟨h13, h14⟩
  · refine lv_istore (lv' := [(6, .int (Int32.ofInt 0)), (0, .ref a0), (1, .int (Int32.ofInt x1)), (2, .int (Int32.ofInt x2)), (3, .int (Int32.ofInt x3)), (4, .int (Int32.ofInt x4)), (5, .int (Int32.ofInt x5))]) hx hb dX9_tower_14 hl (by decide) rfl (fun ls hl => ?_)
    refine lv_iload hx hb dX9_tower_16 (lv_at hl 0 rfl) ?_
    refine tf_if_eq (tgt := 28) hx hb ⟨by decide, by decide⟩ dX9_tower_18 (by decide) (fun h15 => ?_) (fun h15 => ?_)
    · refine lv_aload_n hx hb dX9_tower_28 rfl (lv_at hl 1 rfl) ?_
      refine tf_get hx hb hts inlX9 hown hK (ci := 9) rfl hW ha0 rfl 0 rfl (by decide) (hts _ fl_X9_10) dX9_tower_29 (fun v16 hv16 hsv16 => ?_)
      obtain rfl : v16 = .ref ad2 := Option.some.inj (hsv16.symm.trans hs4)
      refine tf_get hx hb hts inlX3 hown hK (ci := 3) rfl hW had2 rfl 0 rfl (by decide) (hts _ fl_X9_79) dX9_tower_32 (fun v17 hv17 hsv17 => ?_)
      obtain ⟨ad18, rfl, had18⟩ := tf_v1 hv17
      refine lv_iload_n hx hb dX9_tower_35 rfl (lv_at hl 2 rfl) ?_
      refine lv_iload_n hx hb dX9_tower_36 rfl (lv_at hl 3 rfl) ?_
      refine lv_iload_n hx hb dX9_tower_37 rfl (lv_at hl 4 rfl) ?_
      refine lv_iload hx hb dX9_tower_38 (lv_at hl 5 rfl) ?_
      refine lv_iload hx hb dX9_tower_40 (lv_at hl 6 rfl) ?_
      refine tf_callv (va_runV (As := [.int (Int32.ofInt x1), .int (Int32.ofInt x2), .int (Int32.ofInt x3), .int (Int32.ofInt x4), .int (Int32.ofInt x5)]) (rest := []) ⟨hx, hb, hml, hown, hts⟩ (c_X0_stand l g T ad18 had18 (x1) ⟨by omega, by omega⟩ (x2) ⟨by omega, by omega⟩ (x3) ⟨by omega, by omega⟩ (x4) ⟨by omega, by omega⟩ (x5) ⟨by omega, by omega⟩) (cwV 5 hts gv_X9_83 rfl rfl rfl hd_X0_stand ⟨Nat.le_trans (by decide) hR1, Nat.le_trans (by decide) hR2⟩) (tf_preV hk hW had18 (ci := 0) rfl rfl trivial) rfl rfl hl.1 rfl (lv_room (Nat.le_of_ble_eq_true rfl)) dX9_tower_42 ⟨Nat.zero_le _, Nat.zero_le _⟩) hW (by decide) (fun H19 locs19 hW hF19 hp19 => ?_)
      have hs20 := tf_keepF hF19 ha0 rfl rfl (by decide) hs4
      refine lv_aload_n hx hb dX9_tower_45 rfl (lv_at hl 1 rfl) ?_
      refine lv_aload_n hx hb dX9_tower_46 rfl (lv_at hl 1 rfl) ?_
      refine tf_get hx hb hts inlX9 hown hK (ci := 9) rfl hW ha0 rfl 0 rfl (by decide) (hts _ fl_X9_10) dX9_tower_47 (fun v21 hv21 hsv21 => ?_)
      obtain rfl : v21 = .ref ad2 := Option.some.inj (hsv21.symm.trans hs20)
      refine tf_get hx hb hts inlX3 hown hK (ci := 3) rfl hW had2 rfl 1 rfl (by decide) (hts _ fl_X9_89) dX9_tower_50 (fun v22 hv22 hsv22 => ?_)
      obtain ⟨ad23, rfl, had23⟩ := tf_v1 hv22
      refine lv_iload_n hx hb dX9_tower_53 rfl (lv_at hl 2 rfl) ?_
      refine lv_iload_n hx hb dX9_tower_54 rfl (lv_at hl 3 rfl) ?_
      refine lv_iload_n hx hb dX9_tower_55 rfl (lv_at hl 4 rfl) ?_
      refine lv_iload hx hb dX9_tower_56 (lv_at hl 5 rfl) ?_
      refine tf_calli (va_runV (As := [.int (Int32.ofInt x1), .int (Int32.ofInt x2), .int (Int32.ofInt x3), .int (Int32.ofInt x4)]) (rest := [.ref a0]) ⟨hx, hb, hml, hown, hts⟩ (c_X5_add l g T ad23 had23 (x1) ⟨by omega, by omega⟩ (x2) ⟨by omega, by omega⟩ (x3) ⟨by omega, by omega⟩ (x4) ⟨by omega, by omega⟩) (cwV 4 hts gv_X9_93 rfl rfl rfl hd_X5_add ⟨Nat.le_trans (by decide) hR1, Nat.le_trans (by decide) hR2⟩) (tf_preV hk hW had23 (ci := 5) rfl rfl trivial) rfl rfl hl.1 rfl (lv_room (Nat.le_of_ble_eq_true rfl)) dX9_tower_58 ⟨Nat.zero_le _, Nat.zero_le _⟩) hW (by decide) (fun z24 H24 locs24 hW hF24 hp24 => ?_)
      have hs25 := tf_keepF hF24 ha0 rfl rfl (by decide) hs20
      obtain ⟨hp24_0, hp24_1⟩ := hp24
      refine tf_calli (va_runV (As := [.int (Int32.ofInt z24)]) (rest := []) ⟨hx, hb, hml, hown, hts⟩ (c_X9_accept l g T a0 ha0 (z24) ⟨by omega, by omega⟩) (cwV 1 hts gv_X9_99 rfl rfl rfl hd_X9_accept ⟨Nat.le_trans (by decide) hR1, Nat.le_trans (by decide) hR2⟩) (tf_preV hk hW ha0 (ci := 9) rfl rfl trivial) rfl rfl hl.1 rfl (lv_room (Nat.le_of_ble_eq_true rfl)) dX9_tower_61 ⟨Nat.zero_le _, Nat.zero_le _⟩) hW (by decide) (fun z26 H26 locs26 hW hF26 hp26 => ?_)
      have hs27 := tf_keepF hF26 ha0 rfl rfl (by decide) hs25
      obtain ⟨hp26_0, hp26_1, hp26_2⟩ := hp26
      exact tf_reti (z := z26) hx hb hr hlocks hQ hW (show (-2147483648) ≤ (z26) ∧ (z26) ≤ 2147483647 by omega) dX9_tower_64
    · exfalso; omega
  · refine lv_istore (lv' := [(6, .int (Int32.ofInt z3)), (0, .ref a0), (1, .int (Int32.ofInt x1)), (2, .int (Int32.ofInt x2)), (3, .int (Int32.ofInt x3)), (4, .int (Int32.ofInt x4)), (5, .int (Int32.ofInt x5))]) hx hb dX9_tower_14 hl (by decide) rfl (fun ls hl => ?_)
    refine lv_iload hx hb dX9_tower_16 (lv_at hl 0 rfl) ?_
    refine tf_if_eq (tgt := 28) hx hb ⟨by omega, by omega⟩ dX9_tower_18 (by decide) (fun h28 => ?_) (fun h28 => ?_)
    · exfalso; omega
    · refine lv_aload_n hx hb dX9_tower_21 rfl (lv_at hl 1 rfl) ?_
      refine lv_iload hx hb dX9_tower_22 (lv_at hl 0 rfl) ?_
      refine tf_calli (va_runV (As := [.int (Int32.ofInt z3)]) (rest := []) ⟨hx, hb, hml, hown, hts⟩ (c_X9_refuse l g T a0 ha0 (z3) ⟨by omega, by omega⟩) (cwV 1 hts gv_X9_75 rfl rfl rfl hd_X9_refuse ⟨Nat.le_trans (by decide) hR1, Nat.le_trans (by decide) hR2⟩) (tf_preV hk hW ha0 (ci := 9) rfl rfl trivial) rfl rfl hl.1 rfl (lv_room (Nat.le_of_ble_eq_true rfl)) dX9_tower_24 ⟨Nat.zero_le _, Nat.zero_le _⟩) hW (by decide) (fun z29 H29 locs29 hW hF29 hp29 => ?_)
      have hs30 := tf_keepF hF29 ha0 rfl rfl (by decide) hs4
      obtain ⟨hp29_0, hp29_1, hp29_2⟩ := hp29
      exact tf_reti (z := z29) hx hb hr hlocks hQ hW (show (-2147483648) ≤ (z29) ∧ (z29) ≤ 2147483647 by omega) dX9_tower_27

abbrev M_X9_high : List (Nat × Nat) := [(1, 0), (12, 0), (23, 2), (23, 6), (23, 10), (26, 13)]
set_option maxHeartbeats 4000000 in
set_option maxRecDepth 100000 in
theorem c_X9_high (l : Launch) (g : tf_G) (T : tf_T) (a0 : Nat) (ha0 : T a0 = some (26, 0)) (x1 : Int) (hp1 : (-2147483648) ≤ x1 ∧ x1 ≤ 2147483647) (x2 : Int) (hp2 : (-2147483648) ≤ x2 ∧ x2 ≤ 2147483647) : Met l yX9_high (cd_X9_high :: wsL_law) ({ frames := 4, cells := 0, slots := 0, locals := 96 }) (tf_P g T [.ref a0, .int (Int32.ofInt x1), .int (Int32.ofInt x2)] (fun H => True)) (tf_Qi g M_X9_high T (fun z _ _ => (-2147483648) ≤ z ∧ z ≤ 2147483647)) 0 0 (fun q => tf_B g ≤ q) := by
  refine Met.ofW (cc := cX9_high) (maxL := 4) (ret := (some .int)) (by decide) rfl ?_
  intro p e s m args below meth c s₁ B hml hv
  obtain ⟨hargs, hk, hW0, hB, hpre⟩ := hv
  have hx := B.exec
  have hb := B.bytes
  have hr := B.returns
  have hts : ∀ w ∈ wsL_law, w.before args s = true := fun w h => atoms_spec (ws := cd_X9_high :: wsL_law) B.pre w (List.mem_cons_of_mem _ h)
  have hown : s.vm.findClass RX9 = some m.cls := findClass_of_methodNamed B.named
  have hlocks := B.notSynchronized
  have hK := hk.1
  have hW := tf_n.start (M := M_X9_high) hW0 hB
  obtain ⟨Q, hQ⟩ : ∃ q, q = MQ below (tf_Qi g M_X9_high T (fun z _ _ => (-2147483648) ≤ z ∧ z ≤ 2147483647)) args s 0 0 (fun q => tf_B g ≤ q) := ⟨_, rfl⟩
  rw [← hQ]
  obtain ⟨R, hR⟩ : ∃ q, q = (headSpec (cd_X9_high :: wsL_law) ({ frames := 4, cells := 0, slots := 0, locals := 96 })).room := ⟨_, rfl⟩
  rw [← hR]
  have hR1 : 4 ≤ R.frames := by rw [hR]; exact Nat.le_refl _
  have hR2 : 96 ≤ R.locals := by rw [hR]; exact Nat.le_refl _
  have hR3 : 0 ≤ R.cells := by rw [hR]; exact Nat.le_refl _
  have hR4 : 0 ≤ R.slots := by rw [hR]; exact Nat.le_refl _
  have hin := (name_of_methodNamed B.named B.method).1
  clear hR B
  refine tf_enter (As := [.ref a0, .int (Int32.ofInt x1), .int (Int32.ofInt x2)]) hargs (Nat.le_of_ble_eq_true rfl) (fun ls hl => ?_)
  have hl : lv_has ls 4 [(0, .ref a0), (1, .int (Int32.ofInt x1)), (2, .int (Int32.ofInt x2))] := hl
  refine lv_iload_n hx hb dX9_high_0 rfl (lv_at hl 2 rfl) ?_
  refine tf_iconst hx hb dX9_high_1 ?_
  refine tf_bipush hx hb dX9_high_2 (by decide) ?_
  refine tf_calli (va_runS (As := [.int (Int32.ofInt x2), .int (Int32.ofInt 1), .int (Int32.ofInt 40)]) (rest := []) ⟨hx, hb, hml, hown, hts⟩ (c_X9_isWithin l g T (x2) ⟨by omega, by omega⟩ (1) ⟨by omega, by omega⟩ (40) ⟨by omega, by omega⟩) ⟨callB_of 3 hts (gw_ws cm_X9_isWithin) rfl rfl rfl (hts _ (tw1 (i := 2) rfl)) (hts _ (tw9 (i := 19) rfl)) hd_X9_isWithin.2 ⟨Nat.le_trans (by decide) hR1, Nat.le_trans (by decide) hR2⟩, hts _ (tw8 (i := 17) rfl)⟩ (tf_preS hk hW trivial) rfl rfl hl.1 rfl (lv_room (Nat.le_of_ble_eq_true rfl)) dX9_high_4 ⟨Nat.zero_le _, Nat.zero_le _⟩) hW (by decide) (fun z1 H1 locs1 hW hF1 hp1 => ?_)
  rcases hp1 with ⟨rfl, h2, h3⟩ | ⟨rfl, h4⟩
  · refine tf_if_ne (tgt := 16) hx hb ⟨by decide, by decide⟩ dX9_high_7 (by decide) (fun h5 => ?_) (fun h5 => ?_)
    · refine lv_aload_n hx hb dX9_high_16 rfl (lv_at hl 0 rfl) ?_
      refine tf_get hx hb hts inlX9 hown hK (ci := 9) rfl hW ha0 rfl 0 rfl (by decide) (hts _ fl_X9_10) dX9_high_17 (fun v6 hv6 hsv6 => ?_)
      obtain ⟨ad7, rfl, had7⟩ := tf_v1 hv6
      refine tf_get hx hb hts inlX3 hown hK (ci := 3) rfl hW had7 rfl 1 rfl (by decide) (hts _ fl_X9_89) dX9_high_20 (fun v8 hv8 hsv8 => ?_)
      obtain ⟨ad9, rfl, had9⟩ := tf_v1 hv8
      refine lv_iload_n hx hb dX9_high_23 rfl (lv_at hl 1 rfl) ?_
      refine tf_calli (va_runV (As := [.int (Int32.ofInt x1)]) (rest := []) ⟨hx, hb, hml, hown, hts⟩ (c_X5_has l g T ad9 had9 (x1) ⟨by omega, by omega⟩) (cwV 1 hts gv_X9_106 rfl rfl rfl hd_X5_has ⟨Nat.le_trans (by decide) hR1, Nat.le_trans (by decide) hR2⟩) (tf_preV hk hW had9 (ci := 5) rfl rfl trivial) rfl rfl hl.1 rfl (lv_room (Nat.le_of_ble_eq_true rfl)) dX9_high_24 ⟨Nat.zero_le _, Nat.zero_le _⟩) hW (by decide) (fun z10 H10 locs10 hW hF10 hp10 => ?_)
      have hs11 := tf_keepF hF10 ha0 rfl rfl (by decide) hsv6
      have hs12 := tf_keepF hF10 had7 rfl rfl (by decide) hsv8
      rcases hp10 with ⟨rfl, h13, h14⟩ | ⟨rfl⟩
      · refine tf_if_ne (tgt := 37) hx hb ⟨by decide, by decide⟩ dX9_high_27 (by decide) (fun h15 => ?_) (fun h15 => ?_)
        · refine lv_aload_n hx hb dX9_high_37 rfl (lv_at hl 0 rfl) ?_
          refine tf_get hx hb hts inlX9 hown hK (ci := 9) rfl hW ha0 rfl 0 rfl (by decide) (hts _ fl_X9_10) dX9_high_38 (fun v16 hv16 hsv16 => ?_)
          obtain rfl : v16 = .ref ad7 := Option.some.inj (hsv16.symm.trans hs11)
          refine tf_get hx hb hts inlX3 hown hK (ci := 3) rfl hW had7 rfl 1 rfl (by decide) (hts _ fl_X9_89) dX9_high_41 (fun v17 hv17 hsv17 => ?_)
          obtain rfl : v17 = .ref ad9 := Option.some.inj (hsv17.symm.trans hs12)
          refine lv_iload_n hx hb dX9_high_44 rfl (lv_at hl 1 rfl) ?_
          refine lv_aload_n hx hb dX9_high_45 rfl (lv_at hl 0 rfl) ?_
          refine tf_get hx hb hts inlX9 hown hK (ci := 9) rfl hW ha0 rfl 0 rfl (by decide) (hts _ fl_X9_10) dX9_high_46 (fun v18 hv18 hsv18 => ?_)
          obtain rfl : v18 = .ref ad7 := Option.some.inj (hsv18.symm.trans hs11)
          refine tf_get hx hb hts inlX3 hown hK (ci := 3) rfl hW had7 rfl 0 rfl (by decide) (hts _ fl_X9_79) dX9_high_49 (fun v19 hv19 hsv19 => ?_)
          obtain ⟨ad20, rfl, had20⟩ := tf_v1 hv19
          refine tf_calli (va_runV (As := [.int (Int32.ofInt x1), .ref ad20]) (rest := []) ⟨hx, hb, hml, hown, hts⟩ (c_X5_highOf l g T ad9 had9 (x1) ⟨by omega, by omega⟩ ad20 had20) (cwV 2 hts gv_X9_110 rfl rfl rfl hd_X5_highOf ⟨Nat.le_trans (by decide) hR1, Nat.le_trans (by decide) hR2⟩) (tf_preV hk hW had9 (ci := 5) rfl rfl trivial) rfl rfl hl.1 rfl (lv_room (Nat.le_of_ble_eq_true rfl)) dX9_high_52 ⟨Nat.zero_le _, Nat.zero_le _⟩) hW (by decide) (fun z21 H21 locs21 hW hF21 hp21 => ?_)
          have hs22 := tf_keepF hF21 ha0 rfl rfl (by decide) hs11
          have hs23 := tf_keepF hF21 had7 rfl rfl (by decide) hs12
          have hs24 := tf_keepF hF21 had7 rfl rfl (by decide) hsv19
          obtain ⟨hp21_0, hp21_1⟩ := hp21
          refine lv_istore_n (lv' := [(3, .int (Int32.ofInt z21)), (0, .ref a0), (1, .int (Int32.ofInt x1)), (2, .int (Int32.ofInt x2))]) hx hb dX9_high_55 rfl hl (by decide) rfl (fun ls hl => ?_)
          refine lv_aload_n hx hb dX9_high_56 rfl (lv_at hl 1 rfl) ?_
          refine tf_get hx hb hts inlX9 hown hK (ci := 9) rfl hW ha0 rfl 0 rfl (by decide) (hts _ fl_X9_10) dX9_high_57 (fun v25 hv25 hsv25 => ?_)
          obtain rfl : v25 = .ref ad7 := Option.some.inj (hsv25.symm.trans hs22)
          refine tf_get hx hb hts inlX3 hown hK (ci := 3) rfl hW had7 rfl 1 rfl (by decide) (hts _ fl_X9_89) dX9_high_60 (fun v26 hv26 hsv26 => ?_)
          obtain rfl : v26 = .ref ad9 := Option.some.inj (hsv26.symm.trans hs23)
          refine lv_iload_n hx hb dX9_high_63 rfl (lv_at hl 2 rfl) ?_
          refine lv_iload_n hx hb dX9_high_64 rfl (lv_at hl 3 rfl) ?_
          refine lv_aload_n hx hb dX9_high_65 rfl (lv_at hl 1 rfl) ?_
          refine tf_get hx hb hts inlX9 hown hK (ci := 9) rfl hW ha0 rfl 0 rfl (by decide) (hts _ fl_X9_10) dX9_high_66 (fun v27 hv27 hsv27 => ?_)
          obtain rfl : v27 = .ref ad7 := Option.some.inj (hsv27.symm.trans hs22)
          refine tf_get hx hb hts inlX3 hown hK (ci := 3) rfl hW had7 rfl 0 rfl (by decide) (hts _ fl_X9_79) dX9_high_69 (fun v28 hv28 hsv28 => ?_)
          obtain rfl : v28 = .ref ad20 := Option.some.inj (hsv28.symm.trans hs24)
          refine tf_callv (va_runV (As := [.int (Int32.ofInt x1), .int (Int32.ofInt x2), .ref ad20]) (rest := []) ⟨hx, hb, hml, hown, hts⟩ (c_X5_makeHigh l g T ad9 had9 (x1) ⟨by omega, by omega⟩ (x2) ⟨by omega, by omega⟩ ad20 had20) (cwV 3 hts gv_X9_114 rfl rfl rfl hd_X5_makeHigh ⟨Nat.le_trans (by decide) hR1, Nat.le_trans (by decide) hR2⟩) (tf_preV hk hW had9 (ci := 5) rfl rfl trivial) rfl rfl hl.1 rfl (lv_room (Nat.le_of_ble_eq_true rfl)) dX9_high_72 ⟨Nat.zero_le _, Nat.zero_le _⟩) hW (by decide) (fun H29 locs29 hW hF29 hp29 => ?_)
          have hs30 := tf_keepF hF29 ha0 rfl rfl (by decide) hs22
          have hs31 := tf_keepF hF29 had7 rfl rfl (by decide) hs23
          have hs32 := tf_keepF hF29 had7 rfl rfl (by decide) hs24
          refine lv_aload_n hx hb dX9_high_75 rfl (lv_at hl 1 rfl) ?_
          refine lv_iload_n hx hb dX9_high_76 rfl (lv_at hl 0 rfl) ?_
          refine tf_calli (va_runV (As := [.int (Int32.ofInt z21)]) (rest := []) ⟨hx, hb, hml, hown, hts⟩ (c_X9_accept l g T a0 ha0 (z21) ⟨by omega, by omega⟩) (cwV 1 hts gv_X9_99 rfl rfl rfl hd_X9_accept ⟨Nat.le_trans (by decide) hR1, Nat.le_trans (by decide) hR2⟩) (tf_preV hk hW ha0 (ci := 9) rfl rfl trivial) rfl rfl hl.1 rfl (lv_room (Nat.le_of_ble_eq_true rfl)) dX9_high_77 ⟨Nat.zero_le _, Nat.zero_le _⟩) hW (by decide) (fun z33 H33 locs33 hW hF33 hp33 => ?_)
          have hs34 := tf_keepF hF33 ha0 rfl rfl (by decide) hs30
          have hs35 := tf_keepF hF33 had7 rfl rfl (by decide) hs31
          have hs36 := tf_keepF hF33 had7 rfl rfl (by decide) hs32
          obtain ⟨hp33_0, hp33_1, hp33_2⟩ := hp33
          exact tf_reti (z := z33) hx hb hr hlocks hQ hW (show (-2147483648) ≤ (z33) ∧ (z33) ≤ 2147483647 by omega) dX9_high_80
        · exfalso; omega
      · refine tf_if_ne (tgt := 37) hx hb ⟨by decide, by decide⟩ dX9_high_27 (by decide) (fun h37 => ?_) (fun h37 => ?_)
        · exfalso; omega
        · refine lv_aload_n hx hb dX9_high_30 rfl (lv_at hl 0 rfl) ?_
          refine tf_bipush hx hb dX9_high_31 (by decide) ?_
          refine tf_calli (va_runV (As := [.int (Int32.ofInt ((-2)))]) (rest := []) ⟨hx, hb, hml, hown, hts⟩ (c_X9_refuse l g T a0 ha0 ((-2)) ⟨by omega, by omega⟩) (cwV 1 hts gv_X9_75 rfl rfl rfl hd_X9_refuse ⟨Nat.le_trans (by decide) hR1, Nat.le_trans (by decide) hR2⟩) (tf_preV hk hW ha0 (ci := 9) rfl rfl trivial) rfl rfl hl.1 rfl (lv_room (Nat.le_of_ble_eq_true rfl)) dX9_high_33 ⟨Nat.zero_le _, Nat.zero_le _⟩) hW (by decide) (fun z38 H38 locs38 hW hF38 hp38 => ?_)
          have hs39 := tf_keepF hF38 ha0 rfl rfl (by decide) hs11
          have hs40 := tf_keepF hF38 had7 rfl rfl (by decide) hs12
          obtain ⟨hp38_0, hp38_1, hp38_2⟩ := hp38
          exact tf_reti (z := z38) hx hb hr hlocks hQ hW (show (-2147483648) ≤ (z38) ∧ (z38) ≤ 2147483647 by omega) dX9_high_36
    · exfalso; omega
  · refine tf_if_ne (tgt := 16) hx hb ⟨by decide, by decide⟩ dX9_high_7 (by decide) (fun h41 => ?_) (fun h41 => ?_)
    · exfalso; omega
    · refine lv_aload_n hx hb dX9_high_10 rfl (lv_at hl 0 rfl) ?_
      refine tf_iconst hx hb dX9_high_11 ?_
      refine tf_calli (va_runV (As := [.int (Int32.ofInt ((-1)))]) (rest := []) ⟨hx, hb, hml, hown, hts⟩ (c_X9_refuse l g T a0 ha0 ((-1)) ⟨by omega, by omega⟩) (cwV 1 hts gv_X9_75 rfl rfl rfl hd_X9_refuse ⟨Nat.le_trans (by decide) hR1, Nat.le_trans (by decide) hR2⟩) (tf_preV hk hW ha0 (ci := 9) rfl rfl trivial) rfl rfl hl.1 rfl (lv_room (Nat.le_of_ble_eq_true rfl)) dX9_high_12 ⟨Nat.zero_le _, Nat.zero_le _⟩) hW (by decide) (fun z42 H42 locs42 hW hF42 hp42 => ?_)
      obtain ⟨hp42_0, hp42_1, hp42_2⟩ := hp42
      exact tf_reti (z := z42) hx hb hr hlocks hQ hW (show (-2147483648) ≤ (z42) ∧ (z42) ≤ 2147483647 by omega) dX9_high_15

abbrev M_X9_at : List (Nat × Nat) := []
set_option maxHeartbeats 4000000 in
set_option maxRecDepth 100000 in
theorem c_X9_at (l : Launch) (g : tf_G) (T : tf_T) (a0 : Nat) (ha0 : T a0 = some (26, 0)) (x1 : Int) (hp1 : (-2147483648) ≤ x1 ∧ x1 ≤ 2147483647) : Met l yX9_at (cd_X9_at :: wsL_law) ({ frames := 2, cells := 0, slots := 0, locals := 48 }) (tf_P g T [.ref a0, .int (Int32.ofInt x1)] (fun H => True)) (tf_Qi g M_X9_at T (fun z _ _ => (-2147483648) ≤ z ∧ z ≤ 2147483647)) 0 0 (fun q => tf_B g ≤ q) := by
  refine Met.ofW (cc := cX9_at) (maxL := 2) (ret := (some .int)) (by decide) rfl ?_
  intro p e s m args below meth c s₁ B hml hv
  obtain ⟨hargs, hk, hW0, hB, hpre⟩ := hv
  have hx := B.exec
  have hb := B.bytes
  have hr := B.returns
  have hts : ∀ w ∈ wsL_law, w.before args s = true := fun w h => atoms_spec (ws := cd_X9_at :: wsL_law) B.pre w (List.mem_cons_of_mem _ h)
  have hown : s.vm.findClass RX9 = some m.cls := findClass_of_methodNamed B.named
  have hlocks := B.notSynchronized
  have hK := hk.1
  have hW := tf_n.start (M := M_X9_at) hW0 hB
  obtain ⟨Q, hQ⟩ : ∃ q, q = MQ below (tf_Qi g M_X9_at T (fun z _ _ => (-2147483648) ≤ z ∧ z ≤ 2147483647)) args s 0 0 (fun q => tf_B g ≤ q) := ⟨_, rfl⟩
  rw [← hQ]
  obtain ⟨R, hR⟩ : ∃ q, q = (headSpec (cd_X9_at :: wsL_law) ({ frames := 2, cells := 0, slots := 0, locals := 48 })).room := ⟨_, rfl⟩
  rw [← hR]
  have hR1 : 2 ≤ R.frames := by rw [hR]; exact Nat.le_refl _
  have hR2 : 48 ≤ R.locals := by rw [hR]; exact Nat.le_refl _
  have hR3 : 0 ≤ R.cells := by rw [hR]; exact Nat.le_refl _
  have hR4 : 0 ≤ R.slots := by rw [hR]; exact Nat.le_refl _
  have hin := (name_of_methodNamed B.named B.method).1
  clear hR B
  refine tf_enter (As := [.ref a0, .int (Int32.ofInt x1)]) hargs (Nat.le_of_ble_eq_true rfl) (fun ls hl => ?_)
  have hl : lv_has ls 2 [(0, .ref a0), (1, .int (Int32.ofInt x1))] := hl
  refine lv_iload_n hx hb dX9_at_0 rfl (lv_at hl 1 rfl) ?_
  refine tf_calli (va_runS (As := [.int (Int32.ofInt x1)]) (rest := []) ⟨hx, hb, hml, hown, hts⟩ (c_X9_isCell l g T (x1) ⟨by omega, by omega⟩) ⟨callB_of 1 hts (gw_ws cm_X9_isCell) rfl rfl rfl (hts _ (tw1 (i := 2) rfl)) (hts _ (tw14 (i := 14) rfl)) hd_X9_isCell.2 ⟨Nat.le_trans (by decide) hR1, Nat.le_trans (by decide) hR2⟩, hts _ (tw9 (i := 0) rfl)⟩ (tf_preS hk hW trivial) rfl rfl hl.1 rfl (lv_room (Nat.le_of_ble_eq_true rfl)) dX9_at_1 ⟨Nat.zero_le _, Nat.zero_le _⟩) hW (by decide) (fun z1 H1 locs1 hW hF1 hp1 => ?_)
  rcases hp1 with ⟨rfl, h2, h3⟩ | ⟨rfl, h4⟩
  · refine tf_if_eq (tgt := 21) hx hb ⟨by decide, by decide⟩ dX9_at_4 (by decide) (fun h5 => ?_) (fun h5 => ?_)
    · exfalso; omega
    · refine lv_aload_n hx hb dX9_at_7 rfl (lv_at hl 0 rfl) ?_
      refine tf_get hx hb hts inlX9 hown hK (ci := 9) rfl hW ha0 rfl 0 rfl (by decide) (hts _ fl_X9_10) dX9_at_8 (fun v6 hv6 hsv6 => ?_)
      obtain ⟨ad7, rfl, had7⟩ := tf_v1 hv6
      refine tf_get hx hb hts inlX3 hown hK (ci := 3) rfl hW had7 rfl 1 rfl (by decide) (hts _ fl_X9_89) dX9_at_11 (fun v8 hv8 hsv8 => ?_)
      obtain ⟨ad9, rfl, had9⟩ := tf_v1 hv8
      refine lv_iload_n hx hb dX9_at_14 rfl (lv_at hl 1 rfl) ?_
      refine tf_calli (va_runV (As := [.int (Int32.ofInt x1)]) (rest := []) ⟨hx, hb, hml, hown, hts⟩ (c_X5_in l g T ad9 had9 (x1) ⟨by omega, by omega⟩) (cwV 1 hts gv_X9_121 rfl rfl rfl hd_X5_in ⟨Nat.le_trans (by decide) hR1, Nat.le_trans (by decide) hR2⟩) (tf_preV hk hW had9 (ci := 5) rfl rfl trivial) rfl rfl hl.1 rfl (lv_room (Nat.le_of_ble_eq_true rfl)) dX9_at_15 ⟨Nat.zero_le _, Nat.zero_le _⟩) hW (by decide) (fun z10 H10 locs10 hW hF10 hp10 => ?_)
      obtain ⟨hp10_0, hp10_1⟩ := hp10
      refine lv_goto (tgt := 22) hx hb dX9_at_18 (by decide) ?_
      exact tf_reti (z := z10) hx hb hr hlocks hQ hW (show (-2147483648) ≤ (z10) ∧ (z10) ≤ 2147483647 by omega) dX9_at_22
  · refine tf_if_eq (tgt := 21) hx hb ⟨by decide, by decide⟩ dX9_at_4 (by decide) (fun h11 => ?_) (fun h11 => ?_)
    · refine tf_iconst hx hb dX9_at_21 ?_
      exact tf_reti (z := (-1)) hx hb hr hlocks hQ hW (show (-2147483648) ≤ ((-1)) ∧ ((-1)) ≤ 2147483647 by omega) dX9_at_22
    · exfalso; omega

abbrev M_X9_put : List (Nat × Nat) := [(1, 0), (12, 0), (23, 2), (23, 6), (23, 10), (26, 13)]
set_option maxHeartbeats 4000000 in
set_option maxRecDepth 100000 in
theorem c_X9_put (l : Launch) (g : tf_G) (T : tf_T) (a0 : Nat) (ha0 : T a0 = some (26, 0)) (x1 : Int) (hp1 : (-2147483648) ≤ x1 ∧ x1 ≤ 2147483647) (x2 : Int) (hp2 : (-2147483648) ≤ x2 ∧ x2 ≤ 2147483647) (x3 : Int) (hp3 : (-2147483648) ≤ x3 ∧ x3 ≤ 2147483647) : Met l yX9_put (cd_X9_put :: wsL_law) ({ frames := 4, cells := 0, slots := 0, locals := 86 }) (tf_P g T [.ref a0, .int (Int32.ofInt x1), .int (Int32.ofInt x2), .int (Int32.ofInt x3)] (fun H => True)) (tf_Qi g M_X9_put T (fun z _ _ => (-2147483648) ≤ z ∧ z ≤ 2147483647)) 0 0 (fun q => tf_B g ≤ q) := by
  refine Met.ofW (cc := cX9_put) (maxL := 8) (ret := (some .int)) (by decide) rfl ?_
  intro p e s m args below meth c s₁ B hml hv
  obtain ⟨hargs, hk, hW0, hB, hpre⟩ := hv
  have hx := B.exec
  have hb := B.bytes
  have hr := B.returns
  have hts : ∀ w ∈ wsL_law, w.before args s = true := fun w h => atoms_spec (ws := cd_X9_put :: wsL_law) B.pre w (List.mem_cons_of_mem _ h)
  have hown : s.vm.findClass RX9 = some m.cls := findClass_of_methodNamed B.named
  have hlocks := B.notSynchronized
  have hK := hk.1
  have hW := tf_n.start (M := M_X9_put) hW0 hB
  obtain ⟨Q, hQ⟩ : ∃ q, q = MQ below (tf_Qi g M_X9_put T (fun z _ _ => (-2147483648) ≤ z ∧ z ≤ 2147483647)) args s 0 0 (fun q => tf_B g ≤ q) := ⟨_, rfl⟩
  rw [← hQ]
  obtain ⟨R, hR⟩ : ∃ q, q = (headSpec (cd_X9_put :: wsL_law) ({ frames := 4, cells := 0, slots := 0, locals := 86 })).room := ⟨_, rfl⟩
  rw [← hR]
  have hR1 : 4 ≤ R.frames := by rw [hR]; exact Nat.le_refl _
  have hR2 : 86 ≤ R.locals := by rw [hR]; exact Nat.le_refl _
  have hR3 : 0 ≤ R.cells := by rw [hR]; exact Nat.le_refl _
  have hR4 : 0 ≤ R.slots := by rw [hR]; exact Nat.le_refl _
  have hin := (name_of_methodNamed B.named B.method).1
  clear hR B
  have j_39 : ∀ (H : Heap) (locs : List Loc), tf_n tf_kt g M_X9_put T s.heap T H locs → ∀ (ls : Array Slot), lv_has ls 8 [(0, .ref a0)] → W p l e R s m args below meth c H locs 0 0 Q (F0 m 39 ls []) := by
    intro  H locs hW  ls hl
    refine lv_aload_n hx hb dX9_put_39 rfl (lv_at hl 0 rfl) ?_
    refine tf_iconst hx hb dX9_put_40 ?_
    refine tf_calli (va_runV (As := [.int (Int32.ofInt ((-1)))]) (rest := []) ⟨hx, hb, hml, hown, hts⟩ (c_X9_refuse l g T a0 ha0 ((-1)) ⟨by omega, by omega⟩) (cwV 1 hts gv_X9_75 rfl rfl rfl hd_X9_refuse ⟨Nat.le_trans (by decide) hR1, Nat.le_trans (by decide) hR2⟩) (tf_preV hk hW ha0 (ci := 9) rfl rfl trivial) rfl rfl hl.1 rfl (lv_room (Nat.le_of_ble_eq_true rfl)) dX9_put_41 ⟨Nat.zero_le _, Nat.zero_le _⟩) hW (by decide) (fun z1 H1 locs1 hW hF1 hp1 => ?_)
    obtain ⟨hp1_0, hp1_1, hp1_2⟩ := hp1
    exact tf_reti (z := z1) hx hb hr hlocks hQ hW (show (-2147483648) ≤ (z1) ∧ (z1) ≤ 2147483647 by omega) dX9_put_44
  have j_11 : (-2147483648) ≤ x1 ∧ x1 ≤ 2147483647 → (-2147483648) ≤ x2 ∧ x2 ≤ 2147483647 → (-2147483648) ≤ x3 ∧ x3 ≤ 2147483647 → ∀ (y0_11 : Int), 3 ≤ y0_11 ∧ y0_11 ≤ 9 → ∀ (H : Heap) (locs : List Loc), tf_n tf_kt g M_X9_put T s.heap T H locs → ∀ (ls : Array Slot), lv_has ls 8 [(0, .ref a0), (1, .int (Int32.ofInt x1)), (2, .int (Int32.ofInt x2)), (3, .int (Int32.ofInt x3))] → W p l e R s m args below meth c H locs 0 0 Q (F0 m 11 ls [.int (Int32.ofInt y0_11)]) := by
    intro hx1_11 hx2_11 hx3_11 y0_11 hy0_11 H locs hW  ls hl
    refine lv_istore (lv' := [(4, .int (Int32.ofInt y0_11)), (0, .ref a0), (1, .int (Int32.ofInt x1)), (2, .int (Int32.ofInt x2)), (3, .int (Int32.ofInt x3))]) hx hb dX9_put_11 hl (by decide) rfl (fun ls hl => ?_)
    refine lv_iload_n hx hb dX9_put_13 rfl (lv_at hl 2 rfl) ?_
    refine tf_calli (va_runS (As := [.int (Int32.ofInt x1)]) (rest := []) ⟨hx, hb, hml, hown, hts⟩ (c_X9_isCell l g T (x1) ⟨by omega, by omega⟩) ⟨callB_of 1 hts (gw_ws cm_X9_isCell) rfl rfl rfl (hts _ (tw1 (i := 2) rfl)) (hts _ (tw14 (i := 14) rfl)) hd_X9_isCell.2 ⟨Nat.le_trans (by decide) hR1, Nat.le_trans (by decide) hR2⟩, hts _ (tw9 (i := 0) rfl)⟩ (tf_preS hk hW trivial) rfl rfl hl.1 rfl (lv_room (Nat.le_of_ble_eq_true rfl)) dX9_put_14 ⟨Nat.zero_le _, Nat.zero_le _⟩) hW (by decide) (fun z2 H2 locs2 hW hF2 hp2 => ?_)
    rcases hp2 with ⟨rfl, h3, h4⟩ | ⟨rfl, h5⟩
    · refine tf_if_eq (tgt := 39) hx hb ⟨by decide, by decide⟩ dX9_put_17 (by decide) (fun h6 => ?_) (fun h6 => ?_)
      · exfalso; omega
      · refine lv_iload_n hx hb dX9_put_20 rfl (lv_at hl 3 rfl) ?_
        refine tf_iconst hx hb dX9_put_21 ?_
        refine tf_iconst hx hb dX9_put_22 ?_
        refine tf_calli (va_runS (As := [.int (Int32.ofInt x2), .int (Int32.ofInt 0), .int (Int32.ofInt 2)]) (rest := []) ⟨hx, hb, hml, hown, hts⟩ (c_X9_isWithin l g T (x2) ⟨by omega, by omega⟩ (0) ⟨by omega, by omega⟩ (2) ⟨by omega, by omega⟩) ⟨callB_of 3 hts (gw_ws cm_X9_isWithin) rfl rfl rfl (hts _ (tw1 (i := 2) rfl)) (hts _ (tw9 (i := 19) rfl)) hd_X9_isWithin.2 ⟨Nat.le_trans (by decide) hR1, Nat.le_trans (by decide) hR2⟩, hts _ (tw8 (i := 17) rfl)⟩ (tf_preS hk hW trivial) rfl rfl hl.1 rfl (lv_room (Nat.le_of_ble_eq_true rfl)) dX9_put_23 ⟨Nat.zero_le _, Nat.zero_le _⟩) hW (by decide) (fun z7 H7 locs7 hW hF7 hp7 => ?_)
        rcases hp7 with ⟨rfl, h8, h9⟩ | ⟨rfl, h10⟩
        · refine tf_if_eq (tgt := 39) hx hb ⟨by decide, by decide⟩ dX9_put_26 (by decide) (fun h11 => ?_) (fun h11 => ?_)
          · exfalso; omega
          · refine lv_iload_n hx hb dX9_put_29 rfl (lv_at hl 4 rfl) ?_
            refine tf_iconst hx hb dX9_put_30 ?_
            refine lv_iload hx hb dX9_put_31 (lv_at hl 0 rfl) ?_
            refine tf_calli (va_runS (As := [.int (Int32.ofInt x3), .int (Int32.ofInt 0), .int (Int32.ofInt y0_11)]) (rest := []) ⟨hx, hb, hml, hown, hts⟩ (c_X9_isWithin l g T (x3) ⟨by omega, by omega⟩ (0) ⟨by omega, by omega⟩ (y0_11) ⟨by omega, by omega⟩) ⟨callB_of 3 hts (gw_ws cm_X9_isWithin) rfl rfl rfl (hts _ (tw1 (i := 2) rfl)) (hts _ (tw9 (i := 19) rfl)) hd_X9_isWithin.2 ⟨Nat.le_trans (by decide) hR1, Nat.le_trans (by decide) hR2⟩, hts _ (tw8 (i := 17) rfl)⟩ (tf_preS hk hW trivial) rfl rfl hl.1 rfl (lv_room (Nat.le_of_ble_eq_true rfl)) dX9_put_33 ⟨Nat.zero_le _, Nat.zero_le _⟩) hW (by decide) (fun z12 H12 locs12 hW hF12 hp12 => ?_)
            rcases hp12 with ⟨rfl, h13, h14⟩ | ⟨rfl, h15⟩
            · refine tf_if_ne (tgt := 45) hx hb ⟨by decide, by decide⟩ dX9_put_36 (by decide) (fun h16 => ?_) (fun h16 => ?_)
              · refine lv_aload_n hx hb dX9_put_45 rfl (lv_at hl 1 rfl) ?_
                refine tf_get hx hb hts inlX9 hown hK (ci := 9) rfl hW ha0 rfl 0 rfl (by decide) (hts _ fl_X9_10) dX9_put_46 (fun v17 hv17 hsv17 => ?_)
                obtain ⟨ad18, rfl, had18⟩ := tf_v1 hv17
                refine lv_iload_n hx hb dX9_put_49 rfl (lv_at hl 2 rfl) ?_
                refine tf_calli (va_runV (As := [.int (Int32.ofInt x1)]) (rest := []) ⟨hx, hb, hml, hown, hts⟩ (c_X3_isGround l g T ad18 had18 (x1) ⟨by omega, by omega⟩) (cwV 1 hts gv_X9_124 rfl rfl rfl hd_X3_isGround ⟨Nat.le_trans (by decide) hR1, Nat.le_trans (by decide) hR2⟩) (tf_preV hk hW had18 (ci := 3) rfl rfl trivial) rfl rfl hl.1 rfl (lv_room (Nat.le_of_ble_eq_true rfl)) dX9_put_50 ⟨Nat.zero_le _, Nat.zero_le _⟩) hW (by decide) (fun z19 H19 locs19 hW hF19 hp19 => ?_)
                have hs20 := tf_keepF hF19 ha0 rfl rfl (by decide) hsv17
                rcases hp19 with ⟨rfl, h21, h22⟩ | ⟨rfl⟩
                · refine tf_if_ne (tgt := 63) hx hb ⟨by decide, by decide⟩ dX9_put_53 (by decide) (fun h23 => ?_) (fun h23 => ?_)
                  · refine lv_aload_n hx hb dX9_put_63 rfl (lv_at hl 1 rfl) ?_
                    refine tf_get hx hb hts inlX9 hown hK (ci := 9) rfl hW ha0 rfl 0 rfl (by decide) (hts _ fl_X9_10) dX9_put_64 (fun v24 hv24 hsv24 => ?_)
                    obtain rfl : v24 = .ref ad18 := Option.some.inj (hsv24.symm.trans hs20)
                    refine tf_get hx hb hts inlX3 hown hK (ci := 3) rfl hW had18 rfl 0 rfl (by decide) (hts _ fl_X9_79) dX9_put_67 (fun v25 hv25 hsv25 => ?_)
                    obtain ⟨ad26, rfl, had26⟩ := tf_v1 hv25
                    refine lv_iload_n hx hb dX9_put_70 rfl (lv_at hl 3 rfl) ?_
                    refine tf_calla (va_runV (As := [.int (Int32.ofInt x2)]) (rest := []) ⟨hx, hb, hml, hown, hts⟩ (c_X0_rowOf l g T ad26 had26 (x2) ⟨by omega, by omega⟩) (cwV 1 hts gv_X9_127 rfl rfl rfl hd_X0_rowOf ⟨Nat.le_trans (by decide) hR1, Nat.le_trans (by decide) hR2⟩) (tf_preV hk hW had26 (ci := 0) rfl rfl trivial) rfl rfl hl.1 rfl (lv_room (Nat.le_of_ble_eq_true rfl)) dX9_put_71 ⟨Nat.zero_le _, Nat.zero_le _⟩) hW (by decide) (fun z27 H27 locs27 hW hF27 hp27 => ?_)
                    have hs28 := tf_keepF hF27 ha0 rfl rfl (by decide) hs20
                    have hv27 : tf_v T 0 (1, 1, 256, 0, 0) z27 := hp27
                    obtain ⟨ad29, rfl, had29⟩ := tf_v1 hv27
                    refine lv_astore (lv' := [(5, .ref ad29), (4, .int (Int32.ofInt y0_11)), (0, .ref a0), (1, .int (Int32.ofInt x1)), (2, .int (Int32.ofInt x2)), (3, .int (Int32.ofInt x3))]) hx hb dX9_put_74 hl (by decide) rfl (fun ls hl => ?_)
                    refine lv_iload_n hx hb dX9_put_76 rfl (lv_at hl 3 rfl) ?_
                    refine tf_calli (va_runS (As := [.int (Int32.ofInt x1)]) (rest := []) ⟨hx, hb, hml, hown, hts⟩ (c_X9_spotOf l g T (x1) ⟨by omega, by omega⟩) ⟨callB_of 1 hts (gw_ws cm_X9_spotOf) rfl rfl rfl (hts _ (tw1 (i := 2) rfl)) (hts _ (tw15 (i := 8) rfl)) hd_X9_spotOf.2 ⟨Nat.le_trans (by decide) hR1, Nat.le_trans (by decide) hR2⟩, hts _ (tw9 (i := 2) rfl)⟩ (tf_preS hk hW trivial) rfl rfl hl.1 rfl (lv_room (Nat.le_of_ble_eq_true rfl)) dX9_put_77 ⟨Nat.zero_le _, Nat.zero_le _⟩) hW (by decide) (fun z30 H30 locs30 hW hF30 hp30 => ?_)
                    have hs31 := tf_keepF hF30 ha0 rfl rfl (by decide) hs28
                    obtain ⟨hp30_0, hp30_1⟩ := hp30
                    refine lv_istore (lv' := [(6, .int (Int32.ofInt z30)), (5, .ref ad29), (4, .int (Int32.ofInt y0_11)), (0, .ref a0), (1, .int (Int32.ofInt x1)), (2, .int (Int32.ofInt x2)), (3, .int (Int32.ofInt x3))]) hx hb dX9_put_80 hl (by decide) rfl (fun ls hl => ?_)
                    refine lv_aload hx hb dX9_put_82 (lv_at hl 1 rfl) ?_
                    refine lv_iload hx hb dX9_put_84 (lv_at hl 0 rfl) ?_
                    refine tf_iald (t0 := 0) hx hb hK hW had29 rfl rfl (by omega) (by omega) dX9_put_86 (fun v32 hv32 hsv32 => ?_)
                    obtain ⟨z33, rfl, hz33⟩ := tf_v0 hv32
                    refine lv_istore (lv' := [(7, .int (Int32.ofInt z33)), (6, .int (Int32.ofInt z30)), (5, .ref ad29), (4, .int (Int32.ofInt y0_11)), (0, .ref a0), (1, .int (Int32.ofInt x1)), (2, .int (Int32.ofInt x2)), (3, .int (Int32.ofInt x3))]) hx hb dX9_put_87 hl (by decide) rfl (fun ls hl => ?_)
                    refine lv_aload hx hb dX9_put_89 (lv_at hl 2 rfl) ?_
                    refine lv_iload hx hb dX9_put_91 (lv_at hl 1 rfl) ?_
                    refine lv_iload_n hx hb dX9_put_93 rfl (lv_at hl 7 rfl) ?_
                    refine tf_iast (t0 := 0) hx hb hK hW had29 rfl rfl (by omega) (by omega) (by decide) (tf_u0 (by omega) (by omega)) dX9_put_94 (fun H34 locs34 hW hs34 ht34 hq34 => ?_)
                    have hs35 := tf_keepQ hs31 (hq34 _ (tf_ne ha0 had29 (by decide)))
                    refine lv_aload_n hx hb dX9_put_95 rfl (lv_at hl 4 rfl) ?_
                    refine lv_iload hx hb dX9_put_96 (lv_at hl 0 rfl) ?_
                    refine tf_calli (va_runV (As := [.int (Int32.ofInt z33)]) (rest := []) ⟨hx, hb, hml, hown, hts⟩ (c_X9_accept l g T a0 ha0 (z33) ⟨by omega, by omega⟩) (cwV 1 hts gv_X9_99 rfl rfl rfl hd_X9_accept ⟨Nat.le_trans (by decide) hR1, Nat.le_trans (by decide) hR2⟩) (tf_preV hk hW ha0 (ci := 9) rfl rfl trivial) rfl rfl hl.1 rfl (lv_room (Nat.le_of_ble_eq_true rfl)) dX9_put_98 ⟨Nat.zero_le _, Nat.zero_le _⟩) hW (by decide) (fun z36 H36 locs36 hW hF36 hp36 => ?_)
                    have hs37 := tf_keepF hF36 ha0 rfl rfl (by decide) hs35
                    obtain ⟨hp36_0, hp36_1, hp36_2⟩ := hp36
                    exact tf_reti (z := z36) hx hb hr hlocks hQ hW (show (-2147483648) ≤ (z36) ∧ (z36) ≤ 2147483647 by omega) dX9_put_101
                  · exfalso; omega
                · refine tf_if_ne (tgt := 63) hx hb ⟨by decide, by decide⟩ dX9_put_53 (by decide) (fun h38 => ?_) (fun h38 => ?_)
                  · exfalso; omega
                  · refine lv_aload_n hx hb dX9_put_56 rfl (lv_at hl 1 rfl) ?_
                    refine tf_bipush hx hb dX9_put_57 (by decide) ?_
                    refine tf_calli (va_runV (As := [.int (Int32.ofInt ((-3)))]) (rest := []) ⟨hx, hb, hml, hown, hts⟩ (c_X9_refuse l g T a0 ha0 ((-3)) ⟨by omega, by omega⟩) (cwV 1 hts gv_X9_75 rfl rfl rfl hd_X9_refuse ⟨Nat.le_trans (by decide) hR1, Nat.le_trans (by decide) hR2⟩) (tf_preV hk hW ha0 (ci := 9) rfl rfl trivial) rfl rfl hl.1 rfl (lv_room (Nat.le_of_ble_eq_true rfl)) dX9_put_59 ⟨Nat.zero_le _, Nat.zero_le _⟩) hW (by decide) (fun z39 H39 locs39 hW hF39 hp39 => ?_)
                    have hs40 := tf_keepF hF39 ha0 rfl rfl (by decide) hs20
                    obtain ⟨hp39_0, hp39_1, hp39_2⟩ := hp39
                    exact tf_reti (z := z39) hx hb hr hlocks hQ hW (show (-2147483648) ≤ (z39) ∧ (z39) ≤ 2147483647 by omega) dX9_put_62
              · exfalso; omega
            · refine tf_if_ne (tgt := 45) hx hb ⟨by decide, by decide⟩ dX9_put_36 (by decide) (fun h41 => ?_) (fun h41 => ?_)
              · exfalso; omega
              · exact j_39  _ _ hW  _ (lv_sub hl [1] rfl)
        · refine tf_if_eq (tgt := 39) hx hb ⟨by decide, by decide⟩ dX9_put_26 (by decide) (fun h42 => ?_) (fun h42 => ?_)
          · exact j_39  _ _ hW  _ (lv_sub hl [1] rfl)
          · exfalso; omega
    · refine tf_if_eq (tgt := 39) hx hb ⟨by decide, by decide⟩ dX9_put_17 (by decide) (fun h43 => ?_) (fun h43 => ?_)
      · exact j_39  _ _ hW  _ (lv_sub hl [1] rfl)
      · exfalso; omega
  refine tf_enter (As := [.ref a0, .int (Int32.ofInt x1), .int (Int32.ofInt x2), .int (Int32.ofInt x3)]) hargs (Nat.le_of_ble_eq_true rfl) (fun ls hl => ?_)
  have hl : lv_has ls 8 [(0, .ref a0), (1, .int (Int32.ofInt x1)), (2, .int (Int32.ofInt x2)), (3, .int (Int32.ofInt x3))] := hl
  refine lv_iload_n hx hb dX9_put_0 rfl (lv_at hl 2 rfl) ?_
  refine tf_iconst hx hb dX9_put_1 ?_
  refine tf_icmp_ne (tgt := 9) hx hb ⟨by omega, by omega⟩ ⟨by decide, by decide⟩ dX9_put_2 (by decide) (fun h44 => ?_) (fun h44 => ?_)
  · refine tf_bipush hx hb dX9_put_9 (by decide) ?_
    exact j_11 ⟨by omega, by omega⟩ ⟨by omega, by omega⟩ ⟨by omega, by omega⟩ (9) ⟨by omega, by omega⟩ _ _ hW  _ (lv_sub hl [0, 1, 2, 3] rfl)
  · refine tf_iconst hx hb dX9_put_5 ?_
    refine lv_goto (tgt := 11) hx hb dX9_put_6 (by decide) ?_
    exact j_11 ⟨by omega, by omega⟩ ⟨by omega, by omega⟩ ⟨by omega, by omega⟩ (3) ⟨by omega, by omega⟩ _ _ hW  _ (lv_sub hl [0, 1, 2, 3] rfl)

abbrev M_X9_of : List (Nat × Nat) := []
set_option maxHeartbeats 4000000 in
set_option maxRecDepth 100000 in
theorem c_X9_of (l : Launch) (g : tf_G) (T : tf_T) (a0 : Nat) (ha0 : T a0 = some (26, 0)) (x1 : Int) (hp1 : (-2147483648) ≤ x1 ∧ x1 ≤ 2147483647) (x2 : Int) (hp2 : (-2147483648) ≤ x2 ∧ x2 ≤ 2147483647) : Met l yX9_of (cd_X9_of :: wsL_law) ({ frames := 4, cells := 0, slots := 0, locals := 86 }) (tf_P g T [.ref a0, .int (Int32.ofInt x1), .int (Int32.ofInt x2)] (fun H => True)) (tf_Qi g M_X9_of T (fun z _ _ => (-2147483648) ≤ z ∧ z ≤ 2147483647)) 0 0 (fun q => tf_B g ≤ q) := by
  refine Met.ofW (cc := cX9_of) (maxL := 3) (ret := (some .int)) (by decide) rfl ?_
  intro p e s m args below meth c s₁ B hml hv
  obtain ⟨hargs, hk, hW0, hB, hpre⟩ := hv
  have hx := B.exec
  have hb := B.bytes
  have hr := B.returns
  have hts : ∀ w ∈ wsL_law, w.before args s = true := fun w h => atoms_spec (ws := cd_X9_of :: wsL_law) B.pre w (List.mem_cons_of_mem _ h)
  have hown : s.vm.findClass RX9 = some m.cls := findClass_of_methodNamed B.named
  have hlocks := B.notSynchronized
  have hK := hk.1
  have hW := tf_n.start (M := M_X9_of) hW0 hB
  obtain ⟨Q, hQ⟩ : ∃ q, q = MQ below (tf_Qi g M_X9_of T (fun z _ _ => (-2147483648) ≤ z ∧ z ≤ 2147483647)) args s 0 0 (fun q => tf_B g ≤ q) := ⟨_, rfl⟩
  rw [← hQ]
  obtain ⟨R, hR⟩ : ∃ q, q = (headSpec (cd_X9_of :: wsL_law) ({ frames := 4, cells := 0, slots := 0, locals := 86 })).room := ⟨_, rfl⟩
  rw [← hR]
  have hR1 : 4 ≤ R.frames := by rw [hR]; exact Nat.le_refl _
  have hR2 : 86 ≤ R.locals := by rw [hR]; exact Nat.le_refl _
  have hR3 : 0 ≤ R.cells := by rw [hR]; exact Nat.le_refl _
  have hR4 : 0 ≤ R.slots := by rw [hR]; exact Nat.le_refl _
  have hin := (name_of_methodNamed B.named B.method).1
  clear hR B
  refine tf_enter (As := [.ref a0, .int (Int32.ofInt x1), .int (Int32.ofInt x2)]) hargs (Nat.le_of_ble_eq_true rfl) (fun ls hl => ?_)
  have hl : lv_has ls 3 [(0, .ref a0), (1, .int (Int32.ofInt x1)), (2, .int (Int32.ofInt x2))] := hl
  refine lv_aload_n hx hb dX9_of_0 rfl (lv_at hl 0 rfl) ?_
  refine tf_get hx hb hts inlX9 hown hK (ci := 9) rfl hW ha0 rfl 0 rfl (by decide) (hts _ fl_X9_10) dX9_of_1 (fun v1 hv1 hsv1 => ?_)
  obtain ⟨ad2, rfl, had2⟩ := tf_v1 hv1
  refine lv_iload_n hx hb dX9_of_4 rfl (lv_at hl 1 rfl) ?_
  refine tf_calli (va_runV (As := [.int (Int32.ofInt x1)]) (rest := []) ⟨hx, hb, hml, hown, hts⟩ (c_X3_isGround l g T ad2 had2 (x1) ⟨by omega, by omega⟩) (cwV 1 hts gv_X9_124 rfl rfl rfl hd_X3_isGround ⟨Nat.le_trans (by decide) hR1, Nat.le_trans (by decide) hR2⟩) (tf_preV hk hW had2 (ci := 3) rfl rfl trivial) rfl rfl hl.1 rfl (lv_room (Nat.le_of_ble_eq_true rfl)) dX9_of_5 ⟨Nat.zero_le _, Nat.zero_le _⟩) hW (by decide) (fun z3 H3 locs3 hW hF3 hp3 => ?_)
  have hs4 := tf_keepF hF3 ha0 rfl rfl (by decide) hsv1
  rcases hp3 with ⟨rfl, h5, h6⟩ | ⟨rfl⟩
  · refine tf_if_eq (tgt := 20) hx hb ⟨by decide, by decide⟩ dX9_of_8 (by decide) (fun h7 => ?_) (fun h7 => ?_)
    · exfalso; omega
    · refine lv_iload_n hx hb dX9_of_11 rfl (lv_at hl 2 rfl) ?_
      refine tf_iconst hx hb dX9_of_12 ?_
      refine tf_iconst hx hb dX9_of_13 ?_
      refine tf_calli (va_runS (As := [.int (Int32.ofInt x2), .int (Int32.ofInt 0), .int (Int32.ofInt 2)]) (rest := []) ⟨hx, hb, hml, hown, hts⟩ (c_X9_isWithin l g T (x2) ⟨by omega, by omega⟩ (0) ⟨by omega, by omega⟩ (2) ⟨by omega, by omega⟩) ⟨callB_of 3 hts (gw_ws cm_X9_isWithin) rfl rfl rfl (hts _ (tw1 (i := 2) rfl)) (hts _ (tw9 (i := 19) rfl)) hd_X9_isWithin.2 ⟨Nat.le_trans (by decide) hR1, Nat.le_trans (by decide) hR2⟩, hts _ (tw8 (i := 17) rfl)⟩ (tf_preS hk hW trivial) rfl rfl hl.1 rfl (lv_room (Nat.le_of_ble_eq_true rfl)) dX9_of_14 ⟨Nat.zero_le _, Nat.zero_le _⟩) hW (by decide) (fun z8 H8 locs8 hW hF8 hp8 => ?_)
      have hs9 := tf_keepF hF8 ha0 rfl rfl (by decide) hs4
      rcases hp8 with ⟨rfl, h10, h11⟩ | ⟨rfl, h12⟩
      · refine tf_if_ne (tgt := 22) hx hb ⟨by decide, by decide⟩ dX9_of_17 (by decide) (fun h13 => ?_) (fun h13 => ?_)
        · refine lv_aload_n hx hb dX9_of_22 rfl (lv_at hl 0 rfl) ?_
          refine tf_get hx hb hts inlX9 hown hK (ci := 9) rfl hW ha0 rfl 0 rfl (by decide) (hts _ fl_X9_10) dX9_of_23 (fun v14 hv14 hsv14 => ?_)
          obtain rfl : v14 = .ref ad2 := Option.some.inj (hsv14.symm.trans hs9)
          refine tf_get hx hb hts inlX3 hown hK (ci := 3) rfl hW had2 rfl 0 rfl (by decide) (hts _ fl_X9_79) dX9_of_26 (fun v15 hv15 hsv15 => ?_)
          obtain ⟨ad16, rfl, had16⟩ := tf_v1 hv15
          refine lv_iload_n hx hb dX9_of_29 rfl (lv_at hl 2 rfl) ?_
          refine tf_calla (va_runV (As := [.int (Int32.ofInt x2)]) (rest := []) ⟨hx, hb, hml, hown, hts⟩ (c_X0_rowOf l g T ad16 had16 (x2) ⟨by omega, by omega⟩) (cwV 1 hts gv_X9_127 rfl rfl rfl hd_X0_rowOf ⟨Nat.le_trans (by decide) hR1, Nat.le_trans (by decide) hR2⟩) (tf_preV hk hW had16 (ci := 0) rfl rfl trivial) rfl rfl hl.1 rfl (lv_room (Nat.le_of_ble_eq_true rfl)) dX9_of_30 ⟨Nat.zero_le _, Nat.zero_le _⟩) hW (by decide) (fun z17 H17 locs17 hW hF17 hp17 => ?_)
          have hs18 := tf_keepF hF17 ha0 rfl rfl (by decide) hs9
          have hv17 : tf_v T 0 (1, 1, 256, 0, 0) z17 := hp17
          obtain ⟨ad19, rfl, had19⟩ := tf_v1 hv17
          refine lv_iload_n hx hb dX9_of_33 rfl (lv_at hl 1 rfl) ?_
          refine tf_calli (va_runS (As := [.int (Int32.ofInt x1)]) (rest := [.ref ad19]) ⟨hx, hb, hml, hown, hts⟩ (c_X9_spotOf l g T (x1) ⟨by omega, by omega⟩) ⟨callB_of 1 hts (gw_ws cm_X9_spotOf) rfl rfl rfl (hts _ (tw1 (i := 2) rfl)) (hts _ (tw15 (i := 8) rfl)) hd_X9_spotOf.2 ⟨Nat.le_trans (by decide) hR1, Nat.le_trans (by decide) hR2⟩, hts _ (tw9 (i := 2) rfl)⟩ (tf_preS hk hW trivial) rfl rfl hl.1 rfl (lv_room (Nat.le_of_ble_eq_true rfl)) dX9_of_34 ⟨Nat.zero_le _, Nat.zero_le _⟩) hW (by decide) (fun z20 H20 locs20 hW hF20 hp20 => ?_)
          have hs21 := tf_keepF hF20 ha0 rfl rfl (by decide) hs18
          obtain ⟨hp20_0, hp20_1⟩ := hp20
          refine tf_iald (t0 := 0) hx hb hK hW had19 rfl rfl (by omega) (by omega) dX9_of_37 (fun v22 hv22 hsv22 => ?_)
          obtain ⟨z23, rfl, hz23⟩ := tf_v0 hv22
          exact tf_reti (z := z23) hx hb hr hlocks hQ hW (show (-2147483648) ≤ (z23) ∧ (z23) ≤ 2147483647 by omega) dX9_of_38
        · exfalso; omega
      · refine tf_if_ne (tgt := 22) hx hb ⟨by decide, by decide⟩ dX9_of_17 (by decide) (fun h24 => ?_) (fun h24 => ?_)
        · exfalso; omega
        · refine tf_iconst hx hb dX9_of_20 ?_
          exact tf_reti (z := (-1)) hx hb hr hlocks hQ hW (show (-2147483648) ≤ ((-1)) ∧ ((-1)) ≤ 2147483647 by omega) dX9_of_21
  · refine tf_if_eq (tgt := 20) hx hb ⟨by decide, by decide⟩ dX9_of_8 (by decide) (fun h25 => ?_) (fun h25 => ?_)
    · refine tf_iconst hx hb dX9_of_20 ?_
      exact tf_reti (z := (-1)) hx hb hr hlocks hQ hW (show (-2147483648) ≤ ((-1)) ∧ ((-1)) ≤ 2147483647 by omega) dX9_of_21
    · exfalso; omega

abbrev M_X9_line : List (Nat × Nat) := [(5, 0), (12, 0), (23, 2), (23, 6), (23, 10), (26, 13)]
set_option maxHeartbeats 4000000 in
set_option maxRecDepth 100000 in
theorem c_X9_line (l : Launch) (g : tf_G) (T : tf_T) (a0 : Nat) (ha0 : T a0 = some (26, 0)) (x1 : Int) (hp1 : (-2147483648) ≤ x1 ∧ x1 ≤ 2147483647) (x2 : Int) (hp2 : (-2147483648) ≤ x2 ∧ x2 ≤ 2147483647) (x3 : Int) (hp3 : (-2147483648) ≤ x3 ∧ x3 ≤ 2147483647) : Met l yX9_line (cd_X9_line :: wsL_law) ({ frames := 3, cells := 0, slots := 0, locals := 67 }) (tf_P g T [.ref a0, .int (Int32.ofInt x1), .int (Int32.ofInt x2), .int (Int32.ofInt x3)] (fun H => True)) (tf_Qi g M_X9_line T (fun z _ _ => (-2147483648) ≤ z ∧ z ≤ 2147483647)) 0 0 (fun q => tf_B g ≤ q) := by
  refine Met.ofW (cc := cX9_line) (maxL := 7) (ret := (some .int)) (by decide) rfl ?_
  intro p e s m args below meth c s₁ B hml hv
  obtain ⟨hargs, hk, hW0, hB, hpre⟩ := hv
  have hx := B.exec
  have hb := B.bytes
  have hr := B.returns
  have hts : ∀ w ∈ wsL_law, w.before args s = true := fun w h => atoms_spec (ws := cd_X9_line :: wsL_law) B.pre w (List.mem_cons_of_mem _ h)
  have hown : s.vm.findClass RX9 = some m.cls := findClass_of_methodNamed B.named
  have hlocks := B.notSynchronized
  have hK := hk.1
  have hW := tf_n.start (M := M_X9_line) hW0 hB
  obtain ⟨Q, hQ⟩ : ∃ q, q = MQ below (tf_Qi g M_X9_line T (fun z _ _ => (-2147483648) ≤ z ∧ z ≤ 2147483647)) args s 0 0 (fun q => tf_B g ≤ q) := ⟨_, rfl⟩
  rw [← hQ]
  obtain ⟨R, hR⟩ : ∃ q, q = (headSpec (cd_X9_line :: wsL_law) ({ frames := 3, cells := 0, slots := 0, locals := 67 })).room := ⟨_, rfl⟩
  rw [← hR]
  have hR1 : 3 ≤ R.frames := by rw [hR]; exact Nat.le_refl _
  have hR2 : 67 ≤ R.locals := by rw [hR]; exact Nat.le_refl _
  have hR3 : 0 ≤ R.cells := by rw [hR]; exact Nat.le_refl _
  have hR4 : 0 ≤ R.slots := by rw [hR]; exact Nat.le_refl _
  have hin := (name_of_methodNamed B.named B.method).1
  clear hR B
  have j_42 : ∀ (H : Heap) (locs : List Loc), tf_n tf_kt g M_X9_line T s.heap T H locs → ∀ (ls : Array Slot), lv_has ls 7 [(0, .ref a0)] → W p l e R s m args below meth c H locs 0 0 Q (F0 m 42 ls []) := by
    intro  H locs hW  ls hl
    refine lv_aload_n hx hb dX9_line_42 rfl (lv_at hl 0 rfl) ?_
    refine tf_iconst hx hb dX9_line_43 ?_
    refine tf_calli (va_runV (As := [.int (Int32.ofInt ((-1)))]) (rest := []) ⟨hx, hb, hml, hown, hts⟩ (c_X9_refuse l g T a0 ha0 ((-1)) ⟨by omega, by omega⟩) (cwV 1 hts gv_X9_75 rfl rfl rfl hd_X9_refuse ⟨Nat.le_trans (by decide) hR1, Nat.le_trans (by decide) hR2⟩) (tf_preV hk hW ha0 (ci := 9) rfl rfl trivial) rfl rfl hl.1 rfl (lv_room (Nat.le_of_ble_eq_true rfl)) dX9_line_44 ⟨Nat.zero_le _, Nat.zero_le _⟩) hW (by decide) (fun z1 H1 locs1 hW hF1 hp1 => ?_)
    obtain ⟨hp1_0, hp1_1, hp1_2⟩ := hp1
    exact tf_reti (z := z1) hx hb hr hlocks hQ hW (show (-2147483648) ≤ (z1) ∧ (z1) ≤ 2147483647 by omega) dX9_line_47
  have j_69 : 1 ≤ x1 ∧ x1 ≤ 3 → 0 ≤ x3 ∧ x3 ≤ 9999 → ∀ (b0_69 : Nat), T b0_69 = some (5, 4) → ∀ (H : Heap) (locs : List Loc), tf_n tf_kt g M_X9_line T s.heap T H locs → ∀ (ls : Array Slot), lv_has ls 7 [(0, .ref a0), (1, .int (Int32.ofInt x1)), (3, .int (Int32.ofInt x3))] → W p l e R s m args below meth c H locs 0 0 Q (F0 m 69 ls [.ref b0_69]) := by
    intro hx1_69 hx3_69 b0_69 hb0_69 H locs hW  ls hl
    refine lv_astore (lv' := [(5, .ref b0_69), (0, .ref a0), (1, .int (Int32.ofInt x1)), (3, .int (Int32.ofInt x3))]) hx hb dX9_line_69 hl (by decide) rfl (fun ls hl => ?_)
    refine lv_aload hx hb dX9_line_71 (lv_at hl 0 rfl) ?_
    refine lv_iload_n hx hb dX9_line_73 rfl (lv_at hl 2 rfl) ?_
    refine tf_iald (t0 := 0) hx hb hK hW hb0_69 rfl rfl (by omega) (by omega) dX9_line_74 (fun v2 hv2 hsv2 => ?_)
    obtain ⟨z3, rfl, hz3⟩ := tf_v0 hv2
    refine lv_istore (lv' := [(6, .int (Int32.ofInt z3)), (5, .ref b0_69), (0, .ref a0), (1, .int (Int32.ofInt x1)), (3, .int (Int32.ofInt x3))]) hx hb dX9_line_75 hl (by decide) rfl (fun ls hl => ?_)
    refine lv_aload hx hb dX9_line_77 (lv_at hl 1 rfl) ?_
    refine lv_iload_n hx hb dX9_line_79 rfl (lv_at hl 3 rfl) ?_
    refine lv_iload_n hx hb dX9_line_80 rfl (lv_at hl 4 rfl) ?_
    refine tf_iast (t0 := 0) hx hb hK hW hb0_69 rfl rfl (by omega) (by omega) (by decide) (tf_u0 (by omega) (by omega)) dX9_line_81 (fun H4 locs4 hW hs4 ht4 hq4 => ?_)
    refine lv_aload_n hx hb dX9_line_82 rfl (lv_at hl 2 rfl) ?_
    refine lv_iload hx hb dX9_line_83 (lv_at hl 0 rfl) ?_
    refine tf_calli (va_runV (As := [.int (Int32.ofInt z3)]) (rest := []) ⟨hx, hb, hml, hown, hts⟩ (c_X9_accept l g T a0 ha0 (z3) ⟨by omega, by omega⟩) (cwV 1 hts gv_X9_99 rfl rfl rfl hd_X9_accept ⟨Nat.le_trans (by decide) hR1, Nat.le_trans (by decide) hR2⟩) (tf_preV hk hW ha0 (ci := 9) rfl rfl trivial) rfl rfl hl.1 rfl (lv_room (Nat.le_of_ble_eq_true rfl)) dX9_line_85 ⟨Nat.zero_le _, Nat.zero_le _⟩) hW (by decide) (fun z5 H5 locs5 hW hF5 hp5 => ?_)
    obtain ⟨hp5_0, hp5_1, hp5_2⟩ := hp5
    exact tf_reti (z := z5) hx hb hr hlocks hQ hW (show (-2147483648) ≤ (z5) ∧ (z5) ≤ 2147483647 by omega) dX9_line_88
  have j_12 : (-2147483648) ≤ x1 ∧ x1 ≤ 2147483647 → (-2147483648) ≤ x2 ∧ x2 ≤ 2147483647 → (-2147483648) ≤ x3 ∧ x3 ≤ 2147483647 → ∀ (y0_12 : Int), 99 ≤ y0_12 ∧ y0_12 ≤ 9999 → ∀ (H : Heap) (locs : List Loc), tf_n tf_kt g M_X9_line T s.heap T H locs → ∀ (ls : Array Slot), lv_has ls 7 [(0, .ref a0), (1, .int (Int32.ofInt x1)), (2, .int (Int32.ofInt x2)), (3, .int (Int32.ofInt x3))] → W p l e R s m args below meth c H locs 0 0 Q (F0 m 12 ls [.int (Int32.ofInt y0_12)]) := by
    intro hx1_12 hx2_12 hx3_12 y0_12 hy0_12 H locs hW  ls hl
    refine lv_istore (lv' := [(4, .int (Int32.ofInt y0_12)), (0, .ref a0), (1, .int (Int32.ofInt x1)), (2, .int (Int32.ofInt x2)), (3, .int (Int32.ofInt x3))]) hx hb dX9_line_12 hl (by decide) rfl (fun ls hl => ?_)
    refine lv_iload_n hx hb dX9_line_14 rfl (lv_at hl 2 rfl) ?_
    refine tf_iconst hx hb dX9_line_15 ?_
    refine tf_iconst hx hb dX9_line_16 ?_
    refine tf_calli (va_runS (As := [.int (Int32.ofInt x1), .int (Int32.ofInt 1), .int (Int32.ofInt 3)]) (rest := []) ⟨hx, hb, hml, hown, hts⟩ (c_X9_isWithin l g T (x1) ⟨by omega, by omega⟩ (1) ⟨by omega, by omega⟩ (3) ⟨by omega, by omega⟩) ⟨callB_of 3 hts (gw_ws cm_X9_isWithin) rfl rfl rfl (hts _ (tw1 (i := 2) rfl)) (hts _ (tw9 (i := 19) rfl)) hd_X9_isWithin.2 ⟨Nat.le_trans (by decide) hR1, Nat.le_trans (by decide) hR2⟩, hts _ (tw8 (i := 17) rfl)⟩ (tf_preS hk hW trivial) rfl rfl hl.1 rfl (lv_room (Nat.le_of_ble_eq_true rfl)) dX9_line_17 ⟨Nat.zero_le _, Nat.zero_le _⟩) hW (by decide) (fun z6 H6 locs6 hW hF6 hp6 => ?_)
    rcases hp6 with ⟨rfl, h7, h8⟩ | ⟨rfl, h9⟩
    · refine tf_if_eq (tgt := 42) hx hb ⟨by decide, by decide⟩ dX9_line_20 (by decide) (fun h10 => ?_) (fun h10 => ?_)
      · exfalso; omega
      · refine lv_iload_n hx hb dX9_line_23 rfl (lv_at hl 3 rfl) ?_
        refine tf_iconst hx hb dX9_line_24 ?_
        refine tf_iconst hx hb dX9_line_25 ?_
        refine tf_calli (va_runS (As := [.int (Int32.ofInt x2), .int (Int32.ofInt 0), .int (Int32.ofInt 1)]) (rest := []) ⟨hx, hb, hml, hown, hts⟩ (c_X9_isWithin l g T (x2) ⟨by omega, by omega⟩ (0) ⟨by omega, by omega⟩ (1) ⟨by omega, by omega⟩) ⟨callB_of 3 hts (gw_ws cm_X9_isWithin) rfl rfl rfl (hts _ (tw1 (i := 2) rfl)) (hts _ (tw9 (i := 19) rfl)) hd_X9_isWithin.2 ⟨Nat.le_trans (by decide) hR1, Nat.le_trans (by decide) hR2⟩, hts _ (tw8 (i := 17) rfl)⟩ (tf_preS hk hW trivial) rfl rfl hl.1 rfl (lv_room (Nat.le_of_ble_eq_true rfl)) dX9_line_26 ⟨Nat.zero_le _, Nat.zero_le _⟩) hW (by decide) (fun z11 H11 locs11 hW hF11 hp11 => ?_)
        rcases hp11 with ⟨rfl, h12, h13⟩ | ⟨rfl, h14⟩
        · refine tf_if_eq (tgt := 42) hx hb ⟨by decide, by decide⟩ dX9_line_29 (by decide) (fun h15 => ?_) (fun h15 => ?_)
          · exfalso; omega
          · refine lv_iload_n hx hb dX9_line_32 rfl (lv_at hl 4 rfl) ?_
            refine tf_iconst hx hb dX9_line_33 ?_
            refine lv_iload hx hb dX9_line_34 (lv_at hl 0 rfl) ?_
            refine tf_calli (va_runS (As := [.int (Int32.ofInt x3), .int (Int32.ofInt 0), .int (Int32.ofInt y0_12)]) (rest := []) ⟨hx, hb, hml, hown, hts⟩ (c_X9_isWithin l g T (x3) ⟨by omega, by omega⟩ (0) ⟨by omega, by omega⟩ (y0_12) ⟨by omega, by omega⟩) ⟨callB_of 3 hts (gw_ws cm_X9_isWithin) rfl rfl rfl (hts _ (tw1 (i := 2) rfl)) (hts _ (tw9 (i := 19) rfl)) hd_X9_isWithin.2 ⟨Nat.le_trans (by decide) hR1, Nat.le_trans (by decide) hR2⟩, hts _ (tw8 (i := 17) rfl)⟩ (tf_preS hk hW trivial) rfl rfl hl.1 rfl (lv_room (Nat.le_of_ble_eq_true rfl)) dX9_line_36 ⟨Nat.zero_le _, Nat.zero_le _⟩) hW (by decide) (fun z16 H16 locs16 hW hF16 hp16 => ?_)
            rcases hp16 with ⟨rfl, h17, h18⟩ | ⟨rfl, h19⟩
            · refine tf_if_ne (tgt := 48) hx hb ⟨by decide, by decide⟩ dX9_line_39 (by decide) (fun h20 => ?_) (fun h20 => ?_)
              · refine lv_iload_n hx hb dX9_line_48 rfl (lv_at hl 3 rfl) ?_
                refine tf_if_ne (tgt := 62) hx hb ⟨by omega, by omega⟩ dX9_line_49 (by decide) (fun h21 => ?_) (fun h21 => ?_)
                · refine lv_aload_n hx hb dX9_line_62 rfl (lv_at hl 1 rfl) ?_
                  refine tf_get hx hb hts inlX9 hown hK (ci := 9) rfl hW ha0 rfl 0 rfl (by decide) (hts _ fl_X9_10) dX9_line_63 (fun v22 hv22 hsv22 => ?_)
                  obtain ⟨ad23, rfl, had23⟩ := tf_v1 hv22
                  refine tf_get hx hb hts inlX3 hown hK (ci := 3) rfl hW had23 rfl 4 rfl (by decide) (hts _ fl_X9_137) dX9_line_66 (fun v24 hv24 hsv24 => ?_)
                  obtain ⟨ad25, rfl, had25⟩ := tf_v1 hv24
                  exact j_69 ⟨by omega, by omega⟩ ⟨by omega, by omega⟩ ad25 had25 _ _ hW  _ (lv_sub hl [1, 2, 4] rfl)
                · refine lv_aload_n hx hb dX9_line_52 rfl (lv_at hl 1 rfl) ?_
                  refine tf_get hx hb hts inlX9 hown hK (ci := 9) rfl hW ha0 rfl 0 rfl (by decide) (hts _ fl_X9_10) dX9_line_53 (fun v26 hv26 hsv26 => ?_)
                  obtain ⟨ad27, rfl, had27⟩ := tf_v1 hv26
                  refine tf_get hx hb hts inlX3 hown hK (ci := 3) rfl hW had27 rfl 3 rfl (by decide) (hts _ fl_X9_134) dX9_line_56 (fun v28 hv28 hsv28 => ?_)
                  obtain ⟨ad29, rfl, had29⟩ := tf_v1 hv28
                  refine lv_goto (tgt := 69) hx hb dX9_line_59 (by decide) ?_
                  exact j_69 ⟨by omega, by omega⟩ ⟨by omega, by omega⟩ ad29 had29 _ _ hW  _ (lv_sub hl [1, 2, 4] rfl)
              · exfalso; omega
            · refine tf_if_ne (tgt := 48) hx hb ⟨by decide, by decide⟩ dX9_line_39 (by decide) (fun h30 => ?_) (fun h30 => ?_)
              · exfalso; omega
              · exact j_42  _ _ hW  _ (lv_sub hl [1] rfl)
        · refine tf_if_eq (tgt := 42) hx hb ⟨by decide, by decide⟩ dX9_line_29 (by decide) (fun h31 => ?_) (fun h31 => ?_)
          · exact j_42  _ _ hW  _ (lv_sub hl [1] rfl)
          · exfalso; omega
    · refine tf_if_eq (tgt := 42) hx hb ⟨by decide, by decide⟩ dX9_line_20 (by decide) (fun h32 => ?_) (fun h32 => ?_)
      · exact j_42  _ _ hW  _ (lv_sub hl [1] rfl)
      · exfalso; omega
  refine tf_enter (As := [.ref a0, .int (Int32.ofInt x1), .int (Int32.ofInt x2), .int (Int32.ofInt x3)]) hargs (Nat.le_of_ble_eq_true rfl) (fun ls hl => ?_)
  have hl : lv_has ls 7 [(0, .ref a0), (1, .int (Int32.ofInt x1)), (2, .int (Int32.ofInt x2)), (3, .int (Int32.ofInt x3))] := hl
  refine lv_iload_n hx hb dX9_line_0 rfl (lv_at hl 2 rfl) ?_
  refine tf_if_ne (tgt := 9) hx hb ⟨by omega, by omega⟩ dX9_line_1 (by decide) (fun h33 => ?_) (fun h33 => ?_)
  · refine tf_sipush hx hb dX9_line_9 (by decide) ?_
    exact j_12 ⟨by omega, by omega⟩ ⟨by omega, by omega⟩ ⟨by omega, by omega⟩ (9999) ⟨by omega, by omega⟩ _ _ hW  _ (lv_sub hl [0, 1, 2, 3] rfl)
  · refine tf_bipush hx hb dX9_line_4 (by decide) ?_
    refine lv_goto (tgt := 12) hx hb dX9_line_6 (by decide) ?_
    exact j_12 ⟨by omega, by omega⟩ ⟨by omega, by omega⟩ ⟨by omega, by omega⟩ (99) ⟨by omega, by omega⟩ _ _ hW  _ (lv_sub hl [0, 1, 2, 3] rfl)

abbrev M_X9_hours : List (Nat × Nat) := [(6, 0), (7, 0), (12, 0), (23, 2), (23, 6), (23, 10), (26, 13)]
set_option maxHeartbeats 4000000 in
set_option maxRecDepth 100000 in
theorem c_X9_hours (l : Launch) (g : tf_G) (T : tf_T) (a0 : Nat) (ha0 : T a0 = some (26, 0)) (x1 : Int) (hp1 : (-2147483648) ≤ x1 ∧ x1 ≤ 2147483647) (x2 : Int) (hp2 : (-2147483648) ≤ x2 ∧ x2 ≤ 2147483647) (x3 : Int) (hp3 : (-2147483648) ≤ x3 ∧ x3 ≤ 2147483647) : Met l yX9_hours (cd_X9_hours :: wsL_law) ({ frames := 3, cells := 0, slots := 0, locals := 68 }) (tf_P g T [.ref a0, .int (Int32.ofInt x1), .int (Int32.ofInt x2), .int (Int32.ofInt x3)] (fun H => True)) (tf_Qi g M_X9_hours T (fun z _ _ => (-2147483648) ≤ z ∧ z ≤ 2147483647)) 0 0 (fun q => tf_B g ≤ q) := by
  refine Met.ofW (cc := cX9_hours) (maxL := 4) (ret := (some .int)) (by decide) rfl ?_
  intro p e s m args below meth c s₁ B hml hv
  obtain ⟨hargs, hk, hW0, hB, hpre⟩ := hv
  have hx := B.exec
  have hb := B.bytes
  have hr := B.returns
  have hts : ∀ w ∈ wsL_law, w.before args s = true := fun w h => atoms_spec (ws := cd_X9_hours :: wsL_law) B.pre w (List.mem_cons_of_mem _ h)
  have hown : s.vm.findClass RX9 = some m.cls := findClass_of_methodNamed B.named
  have hlocks := B.notSynchronized
  have hK := hk.1
  have hW := tf_n.start (M := M_X9_hours) hW0 hB
  obtain ⟨Q, hQ⟩ : ∃ q, q = MQ below (tf_Qi g M_X9_hours T (fun z _ _ => (-2147483648) ≤ z ∧ z ≤ 2147483647)) args s 0 0 (fun q => tf_B g ≤ q) := ⟨_, rfl⟩
  rw [← hQ]
  obtain ⟨R, hR⟩ : ∃ q, q = (headSpec (cd_X9_hours :: wsL_law) ({ frames := 3, cells := 0, slots := 0, locals := 68 })).room := ⟨_, rfl⟩
  rw [← hR]
  have hR1 : 3 ≤ R.frames := by rw [hR]; exact Nat.le_refl _
  have hR2 : 68 ≤ R.locals := by rw [hR]; exact Nat.le_refl _
  have hR3 : 0 ≤ R.cells := by rw [hR]; exact Nat.le_refl _
  have hR4 : 0 ≤ R.slots := by rw [hR]; exact Nat.le_refl _
  have hin := (name_of_methodNamed B.named B.method).1
  clear hR B
  have j_25 : ∀ (H : Heap) (locs : List Loc), tf_n tf_kt g M_X9_hours T s.heap T H locs → ∀ (ls : Array Slot), lv_has ls 4 [(0, .ref a0)] → W p l e R s m args below meth c H locs 0 0 Q (F0 m 25 ls []) := by
    intro  H locs hW  ls hl
    refine lv_aload_n hx hb dX9_hours_25 rfl (lv_at hl 0 rfl) ?_
    refine tf_iconst hx hb dX9_hours_26 ?_
    refine tf_calli (va_runV (As := [.int (Int32.ofInt ((-1)))]) (rest := []) ⟨hx, hb, hml, hown, hts⟩ (c_X9_refuse l g T a0 ha0 ((-1)) ⟨by omega, by omega⟩) (cwV 1 hts gv_X9_75 rfl rfl rfl hd_X9_refuse ⟨Nat.le_trans (by decide) hR1, Nat.le_trans (by decide) hR2⟩) (tf_preV hk hW ha0 (ci := 9) rfl rfl trivial) rfl rfl hl.1 rfl (lv_room (Nat.le_of_ble_eq_true rfl)) dX9_hours_27 ⟨Nat.zero_le _, Nat.zero_le _⟩) hW (by decide) (fun z1 H1 locs1 hW hF1 hp1 => ?_)
    obtain ⟨hp1_0, hp1_1, hp1_2⟩ := hp1
    exact tf_reti (z := z1) hx hb hr hlocks hQ hW (show (-2147483648) ≤ (z1) ∧ (z1) ≤ 2147483647 by omega) dX9_hours_30
  refine tf_enter (As := [.ref a0, .int (Int32.ofInt x1), .int (Int32.ofInt x2), .int (Int32.ofInt x3)]) hargs (Nat.le_of_ble_eq_true rfl) (fun ls hl => ?_)
  have hl : lv_has ls 4 [(0, .ref a0), (1, .int (Int32.ofInt x1)), (2, .int (Int32.ofInt x2)), (3, .int (Int32.ofInt x3))] := hl
  refine lv_iload_n hx hb dX9_hours_0 rfl (lv_at hl 1 rfl) ?_
  refine tf_calli (va_runS (As := [.int (Int32.ofInt x1)]) (rest := []) ⟨hx, hb, hml, hown, hts⟩ (c_X9_isWay l g T (x1) ⟨by omega, by omega⟩) ⟨callB_of 1 hts (gw_ws cm_X9_isWay) rfl rfl rfl (hts _ (tw1 (i := 2) rfl)) (hts _ (tw16 (i := 17) rfl)) hd_X9_isWay.2 ⟨Nat.le_trans (by decide) hR1, Nat.le_trans (by decide) hR2⟩, hts _ (tw16 (i := 18) rfl)⟩ (tf_preS hk hW trivial) rfl rfl hl.1 rfl (lv_room (Nat.le_of_ble_eq_true rfl)) dX9_hours_1 ⟨Nat.zero_le _, Nat.zero_le _⟩) hW (by decide) (fun z2 H2 locs2 hW hF2 hp2 => ?_)
  rcases hp2 with ⟨rfl, h3, h4⟩ | ⟨rfl, h5⟩
  · refine tf_if_eq (tgt := 25) hx hb ⟨by decide, by decide⟩ dX9_hours_4 (by decide) (fun h6 => ?_) (fun h6 => ?_)
    · exfalso; omega
    · refine lv_iload_n hx hb dX9_hours_7 rfl (lv_at hl 2 rfl) ?_
      refine tf_calli (va_runS (As := [.int (Int32.ofInt x2)]) (rest := []) ⟨hx, hb, hml, hown, hts⟩ (c_X9_isPace l g T (x2) ⟨by omega, by omega⟩) ⟨callB_of 1 hts (gw_ws cm_X9_isPace) rfl rfl rfl (hts _ (tw1 (i := 2) rfl)) (hts _ (tw16 (i := 20) rfl)) hd_X9_isPace.2 ⟨Nat.le_trans (by decide) hR1, Nat.le_trans (by decide) hR2⟩, hts _ (tw16 (i := 21) rfl)⟩ (tf_preS hk hW trivial) rfl rfl hl.1 rfl (lv_room (Nat.le_of_ble_eq_true rfl)) dX9_hours_8 ⟨Nat.zero_le _, Nat.zero_le _⟩) hW (by decide) (fun z7 H7 locs7 hW hF7 hp7 => ?_)
      rcases hp7 with ⟨rfl, h8, h9⟩ | ⟨rfl, h10⟩
      · refine tf_if_eq (tgt := 25) hx hb ⟨by decide, by decide⟩ dX9_hours_11 (by decide) (fun h11 => ?_) (fun h11 => ?_)
        · exfalso; omega
        · refine lv_iload_n hx hb dX9_hours_14 rfl (lv_at hl 3 rfl) ?_
          refine tf_iconst hx hb dX9_hours_15 ?_
          refine tf_sipush hx hb dX9_hours_16 (by decide) ?_
          refine tf_calli (va_runS (As := [.int (Int32.ofInt x3), .int (Int32.ofInt 0), .int (Int32.ofInt 999)]) (rest := []) ⟨hx, hb, hml, hown, hts⟩ (c_X9_isWithin l g T (x3) ⟨by omega, by omega⟩ (0) ⟨by omega, by omega⟩ (999) ⟨by omega, by omega⟩) ⟨callB_of 3 hts (gw_ws cm_X9_isWithin) rfl rfl rfl (hts _ (tw1 (i := 2) rfl)) (hts _ (tw9 (i := 19) rfl)) hd_X9_isWithin.2 ⟨Nat.le_trans (by decide) hR1, Nat.le_trans (by decide) hR2⟩, hts _ (tw8 (i := 17) rfl)⟩ (tf_preS hk hW trivial) rfl rfl hl.1 rfl (lv_room (Nat.le_of_ble_eq_true rfl)) dX9_hours_19 ⟨Nat.zero_le _, Nat.zero_le _⟩) hW (by decide) (fun z12 H12 locs12 hW hF12 hp12 => ?_)
          rcases hp12 with ⟨rfl, h13, h14⟩ | ⟨rfl, h15⟩
          · refine tf_if_ne (tgt := 31) hx hb ⟨by decide, by decide⟩ dX9_hours_22 (by decide) (fun h16 => ?_) (fun h16 => ?_)
            · refine lv_aload_n hx hb dX9_hours_31 rfl (lv_at hl 0 rfl) ?_
              refine lv_aload_n hx hb dX9_hours_32 rfl (lv_at hl 0 rfl) ?_
              refine tf_get hx hb hts inlX9 hown hK (ci := 9) rfl hW ha0 rfl 0 rfl (by decide) (hts _ fl_X9_10) dX9_hours_33 (fun v17 hv17 hsv17 => ?_)
              obtain ⟨ad18, rfl, had18⟩ := tf_v1 hv17
              refine lv_iload_n hx hb dX9_hours_36 rfl (lv_at hl 1 rfl) ?_
              refine lv_iload_n hx hb dX9_hours_37 rfl (lv_at hl 2 rfl) ?_
              refine lv_iload_n hx hb dX9_hours_38 rfl (lv_at hl 3 rfl) ?_
              refine tf_calli (va_runV (As := [.int (Int32.ofInt x1), .int (Int32.ofInt x2), .int (Int32.ofInt x3)]) (rest := [.ref a0]) ⟨hx, hb, hml, hown, hts⟩ (c_X3_setHours l g T ad18 had18 (x1) ⟨by omega, by omega⟩ (x2) ⟨by omega, by omega⟩ (x3) ⟨by omega, by omega⟩) (cwV 3 hts gv_X9_146 rfl rfl rfl hd_X3_setHours ⟨Nat.le_trans (by decide) hR1, Nat.le_trans (by decide) hR2⟩) (tf_preV hk hW had18 (ci := 3) rfl rfl trivial) rfl rfl hl.1 rfl (lv_room (Nat.le_of_ble_eq_true rfl)) dX9_hours_39 ⟨Nat.zero_le _, Nat.zero_le _⟩) hW (by decide) (fun z19 H19 locs19 hW hF19 hp19 => ?_)
              obtain ⟨hp19_0, hp19_1⟩ := hp19
              refine tf_calli (va_runV (As := [.int (Int32.ofInt z19)]) (rest := []) ⟨hx, hb, hml, hown, hts⟩ (c_X9_accept l g T a0 ha0 (z19) ⟨by omega, by omega⟩) (cwV 1 hts gv_X9_99 rfl rfl rfl hd_X9_accept ⟨Nat.le_trans (by decide) hR1, Nat.le_trans (by decide) hR2⟩) (tf_preV hk hW ha0 (ci := 9) rfl rfl trivial) rfl rfl hl.1 rfl (lv_room (Nat.le_of_ble_eq_true rfl)) dX9_hours_42 ⟨Nat.zero_le _, Nat.zero_le _⟩) hW (by decide) (fun z20 H20 locs20 hW hF20 hp20 => ?_)
              obtain ⟨hp20_0, hp20_1, hp20_2⟩ := hp20
              exact tf_reti (z := z20) hx hb hr hlocks hQ hW (show (-2147483648) ≤ (z20) ∧ (z20) ≤ 2147483647 by omega) dX9_hours_45
            · exfalso; omega
          · refine tf_if_ne (tgt := 31) hx hb ⟨by decide, by decide⟩ dX9_hours_22 (by decide) (fun h21 => ?_) (fun h21 => ?_)
            · exfalso; omega
            · exact j_25  _ _ hW  _ (lv_sub hl [0] rfl)
      · refine tf_if_eq (tgt := 25) hx hb ⟨by decide, by decide⟩ dX9_hours_11 (by decide) (fun h22 => ?_) (fun h22 => ?_)
        · exact j_25  _ _ hW  _ (lv_sub hl [0] rfl)
        · exfalso; omega
  · refine tf_if_eq (tgt := 25) hx hb ⟨by decide, by decide⟩ dX9_hours_4 (by decide) (fun h23 => ?_) (fun h23 => ?_)
    · exact j_25  _ _ hW  _ (lv_sub hl [0] rfl)
    · exfalso; omega

abbrev M_X9_feedOne : List (Nat × Nat) := [(3, 0), (26, 7)]
set_option maxHeartbeats 4000000 in
set_option maxRecDepth 100000 in
theorem c_X9_feedOne (l : Launch) (g : tf_G) (T : tf_T) (a0 : Nat) (ha0 : T a0 = some (26, 0)) (x1 : Int) (hp1 : (-2147483648) ≤ x1 ∧ x1 ≤ 2147483647) : Met l yX9_feedOne (cd_X9_feedOne :: wsL_law) ({ frames := 1, cells := 0, slots := 0, locals := 24 }) (tf_P g T [.ref a0, .int (Int32.ofInt x1)] (fun H => True)) (tf_Qv g M_X9_feedOne T (fun _ H => True)) 0 0 (fun q => tf_B g ≤ q) := by
  refine Met.ofW (cc := cX9_feedOne) (maxL := 3) (ret := none) (by decide) rfl ?_
  intro p e s m args below meth c s₁ B hml hv
  obtain ⟨hargs, hk, hW0, hB, hpre⟩ := hv
  have hx := B.exec
  have hb := B.bytes
  have hr := B.returns
  have hts : ∀ w ∈ wsL_law, w.before args s = true := fun w h => atoms_spec (ws := cd_X9_feedOne :: wsL_law) B.pre w (List.mem_cons_of_mem _ h)
  have hown : s.vm.findClass RX9 = some m.cls := findClass_of_methodNamed B.named
  have hlocks := B.notSynchronized
  have hK := hk.1
  have hW := tf_n.start (M := M_X9_feedOne) hW0 hB
  obtain ⟨Q, hQ⟩ : ∃ q, q = MQ below (tf_Qv g M_X9_feedOne T (fun _ H => True)) args s 0 0 (fun q => tf_B g ≤ q) := ⟨_, rfl⟩
  rw [← hQ]
  obtain ⟨R, hR⟩ : ∃ q, q = (headSpec (cd_X9_feedOne :: wsL_law) ({ frames := 1, cells := 0, slots := 0, locals := 24 })).room := ⟨_, rfl⟩
  rw [← hR]
  have hR1 : 1 ≤ R.frames := by rw [hR]; exact Nat.le_refl _
  have hR2 : 24 ≤ R.locals := by rw [hR]; exact Nat.le_refl _
  have hR3 : 0 ≤ R.cells := by rw [hR]; exact Nat.le_refl _
  have hR4 : 0 ≤ R.slots := by rw [hR]; exact Nat.le_refl _
  have hin := (name_of_methodNamed B.named B.method).1
  clear hR B
  have j_3 : ∀ (n_3 : Nat), (-2147483648) ≤ x1 ∧ x1 ≤ 2147483647 → ∀ (x2_3 : Int), (-10) ≤ x2_3 ∧ x2_3 ≤ 24 → (x2_3 - (-10) + 1 ≤ (n_3 : Int)) → ∀ (H : Heap) (locs : List Loc), tf_n tf_kt g M_X9_feedOne T s.heap T H locs → ∀ (ls : Array Slot), lv_has ls 3 [(0, .ref a0), (1, .int (Int32.ofInt x1)), (2, .int (Int32.ofInt x2_3))] → W p l e R s m args below meth c H locs 0 0 Q (F0 m 3 ls []) := by
    intro n_3
    induction n_3 with
    | zero =>
      intro hx1_3 x2_3 hx2_3 hm_3
      exfalso; omega
    | succ n_3 ih_3 =>
      intro hx1_3 x2_3 hx2_3 hm_3 H locs hW  ls hl
      refine lv_iload_n hx hb dX9_feedOne_3 rfl (lv_at hl 2 rfl) ?_
      refine tf_if_lt (tgt := 49) hx hb ⟨by omega, by omega⟩ dX9_feedOne_4 (by decide) (fun h1 => ?_) (fun h1 => ?_)
      · exact tf_retv hx hb hr hlocks hQ hW trivial dX9_feedOne_49
      · refine lv_aload_n hx hb dX9_feedOne_7 rfl (lv_at hl 0 rfl) ?_
        refine tf_get hx hb hts inlX9 hown hK (ci := 9) rfl hW ha0 rfl 7 rfl (by decide) (hts _ fl_X9_48) dX9_feedOne_8 (fun v2 hv2 hsv2 => ?_)
        obtain ⟨z3, rfl, hz3⟩ := tf_v0 hv2
        refine tf_sipush hx hb dX9_feedOne_11 (by decide) ?_
        refine tf_icmp_ge (tgt := 49) hx hb ⟨by omega, by omega⟩ ⟨by decide, by decide⟩ dX9_feedOne_14 (by decide) (fun h4 => ?_) (fun h4 => ?_)
        · exact tf_retv hx hb hr hlocks hQ hW trivial dX9_feedOne_49
        · refine lv_aload_n hx hb dX9_feedOne_17 rfl (lv_at hl 0 rfl) ?_
          refine tf_get hx hb hts inlX9 hown hK (ci := 9) rfl hW ha0 rfl 6 rfl (by decide) (hts _ fl_X9_45) dX9_feedOne_18 (fun v5 hv5 hsv5 => ?_)
          obtain ⟨ad6, rfl, had6⟩ := tf_v1 hv5
          refine lv_aload_n hx hb dX9_feedOne_21 rfl (lv_at hl 0 rfl) ?_
          refine tf_get hx hb hts inlX9 hown hK (ci := 9) rfl hW ha0 rfl 7 rfl (by decide) (hts _ fl_X9_48) dX9_feedOne_22 (fun v7 hv7 hsv7 => ?_)
          obtain rfl : v7 = .int (Int32.ofInt z3) := Option.some.inj (hsv7.symm.trans hsv2)
          refine lv_iload_n hx hb dX9_feedOne_25 rfl (lv_at hl 1 rfl) ?_
          refine lv_iload_n hx hb dX9_feedOne_26 rfl (lv_at hl 2 rfl) ?_
          refine tf_iushr_any hx hb dX9_feedOne_27 (fun z8 hz8 => ?_)
          refine tf_sipush hx hb dX9_feedOne_28 (by decide) ?_
          refine tf_iand_mask hx hb 8 (by decide) (by decide +kernel) dX9_feedOne_31 (fun z9 hz9 kz9 => ?_)
          refine tf_iast (t0 := 0) hx hb hK hW had6 rfl rfl (by omega) (by omega) (by decide) (tf_u0 (by omega) (by omega)) dX9_feedOne_32 (fun H10 locs10 hW hs10 ht10 hq10 => ?_)
          have hs11 := tf_keepQ hsv2 (hq10 _ (tf_ne ha0 had6 (by decide)))
          refine lv_aload_n hx hb dX9_feedOne_33 rfl (lv_at hl 0 rfl) ?_
          refine lv_dup hx hb dX9_feedOne_34 rfl ?_
          refine tf_get hx hb hts inlX9 hown hK (ci := 9) rfl hW ha0 rfl 7 rfl (by decide) (hts _ fl_X9_48) dX9_feedOne_35 (fun v12 hv12 hsv12 => ?_)
          obtain rfl : v12 = .int (Int32.ofInt z3) := Option.some.inj (hsv12.symm.trans hs11)
          refine tf_iconst hx hb dX9_feedOne_38 ?_
          refine tf_iadd hx hb dX9_feedOne_39 ?_
          refine tf_put hx hb hts inlX9 tyX9 tyX9_ok nmX9 hown hK (ci := 9) rfl hW ha0 rfl rfl 7 rfl (by decide) (by decide) (hts _ fl_X9_48) rfl (tf_u0 (by omega) (by omega)) rfl rfl dX9_feedOne_40 (fun H13 locs13 hW hs13 ht13 hq13 => ?_)
          refine lv_iinc (v := Int32.ofInt ((x2_3 + (-8)))) (lv' := [(2, .int (Int32.ofInt ((x2_3 + (-8))))), (0, .ref a0), (1, .int (Int32.ofInt x1))]) hx hb dX9_feedOne_43 hl (k := 2) rfl (Int32.ofInt_add _ _).symm (by decide) rfl (fun ls hl => ?_)
          refine lv_goto (tgt := 3) hx hb dX9_feedOne_46 (by decide) ?_
          exact ih_3 ⟨by omega, by omega⟩ ((x2_3 + (-8))) ⟨by omega, by omega⟩ (by omega) _ _ hW  _ (lv_sub hl [1, 2, 0] rfl)
  refine tf_enter (As := [.ref a0, .int (Int32.ofInt x1)]) hargs (Nat.le_of_ble_eq_true rfl) (fun ls hl => ?_)
  have hl : lv_has ls 3 [(0, .ref a0), (1, .int (Int32.ofInt x1))] := hl
  refine tf_bipush hx hb dX9_feedOne_0 (by decide) ?_
  refine lv_istore_n (lv' := [(2, .int (Int32.ofInt 24)), (0, .ref a0), (1, .int (Int32.ofInt x1))]) hx hb dX9_feedOne_2 rfl hl (by decide) rfl (fun ls hl => ?_)
  exact j_3 ((24 - (-10) + 1 : Int)).toNat ⟨by omega, by omega⟩ (24) ⟨by omega, by omega⟩ (by omega) _ _ hW  _ (lv_sub hl [1, 2, 0] rfl)

abbrev M_X9_feed : List (Nat × Nat) := [(3, 0), (26, 7)]
set_option maxHeartbeats 4000000 in
set_option maxRecDepth 100000 in
theorem c_X9_feed (l : Launch) (g : tf_G) (T : tf_T) (a0 : Nat) (ha0 : T a0 = some (26, 0)) (x1 : Int) (hp1 : (-2147483648) ≤ x1 ∧ x1 ≤ 2147483647) (x2 : Int) (hp2 : (-2147483648) ≤ x2 ∧ x2 ≤ 2147483647) (x3 : Int) (hp3 : (-2147483648) ≤ x3 ∧ x3 ≤ 2147483647) (x4 : Int) (hp4 : (-2147483648) ≤ x4 ∧ x4 ≤ 2147483647) (x5 : Int) (hp5 : (-2147483648) ≤ x5 ∧ x5 ≤ 2147483647) : Met l yX9_feed (cd_X9_feed :: wsL_law) ({ frames := 2, cells := 0, slots := 0, locals := 46 }) (tf_P g T [.ref a0, .int (Int32.ofInt x1), .int (Int32.ofInt x2), .int (Int32.ofInt x3), .int (Int32.ofInt x4), .int (Int32.ofInt x5)] (fun H => True)) (tf_Qi g M_X9_feed T (fun z _ _ => (-2147483648) ≤ z ∧ z ≤ 2147483647)) 0 0 (fun q => tf_B g ≤ q) := by
  refine Met.ofW (cc := cX9_feed) (maxL := 6) (ret := (some .int)) (by decide) rfl ?_
  intro p e s m args below meth c s₁ B hml hv
  obtain ⟨hargs, hk, hW0, hB, hpre⟩ := hv
  have hx := B.exec
  have hb := B.bytes
  have hr := B.returns
  have hts : ∀ w ∈ wsL_law, w.before args s = true := fun w h => atoms_spec (ws := cd_X9_feed :: wsL_law) B.pre w (List.mem_cons_of_mem _ h)
  have hown : s.vm.findClass RX9 = some m.cls := findClass_of_methodNamed B.named
  have hlocks := B.notSynchronized
  have hK := hk.1
  have hW := tf_n.start (M := M_X9_feed) hW0 hB
  obtain ⟨Q, hQ⟩ : ∃ q, q = MQ below (tf_Qi g M_X9_feed T (fun z _ _ => (-2147483648) ≤ z ∧ z ≤ 2147483647)) args s 0 0 (fun q => tf_B g ≤ q) := ⟨_, rfl⟩
  rw [← hQ]
  obtain ⟨R, hR⟩ : ∃ q, q = (headSpec (cd_X9_feed :: wsL_law) ({ frames := 2, cells := 0, slots := 0, locals := 46 })).room := ⟨_, rfl⟩
  rw [← hR]
  have hR1 : 2 ≤ R.frames := by rw [hR]; exact Nat.le_refl _
  have hR2 : 46 ≤ R.locals := by rw [hR]; exact Nat.le_refl _
  have hR3 : 0 ≤ R.cells := by rw [hR]; exact Nat.le_refl _
  have hR4 : 0 ≤ R.slots := by rw [hR]; exact Nat.le_refl _
  have hin := (name_of_methodNamed B.named B.method).1
  clear hR B
  refine tf_enter (As := [.ref a0, .int (Int32.ofInt x1), .int (Int32.ofInt x2), .int (Int32.ofInt x3), .int (Int32.ofInt x4), .int (Int32.ofInt x5)]) hargs (Nat.le_of_ble_eq_true rfl) (fun ls hl => ?_)
  have hl : lv_has ls 6 [(0, .ref a0), (1, .int (Int32.ofInt x1)), (2, .int (Int32.ofInt x2)), (3, .int (Int32.ofInt x3)), (4, .int (Int32.ofInt x4)), (5, .int (Int32.ofInt x5))] := hl
  refine lv_aload_n hx hb dX9_feed_0 rfl (lv_at hl 0 rfl) ?_
  refine tf_get hx hb hts inlX9 hown hK (ci := 9) rfl hW ha0 rfl 7 rfl (by decide) (hts _ fl_X9_48) dX9_feed_1 (fun v1 hv1 hsv1 => ?_)
  obtain ⟨z2, rfl, hz2⟩ := tf_v0 hv1
  refine tf_bipush hx hb dX9_feed_4 (by decide) ?_
  refine tf_iadd hx hb dX9_feed_6 ?_
  refine tf_sipush hx hb dX9_feed_7 (by decide) ?_
  refine tf_icmp_le (tgt := 15) hx hb ⟨by omega, by omega⟩ ⟨by decide, by decide⟩ dX9_feed_10 (by decide) (fun h3 => ?_) (fun h3 => ?_)
  · refine lv_aload_n hx hb dX9_feed_15 rfl (lv_at hl 0 rfl) ?_
    refine lv_iload_n hx hb dX9_feed_16 rfl (lv_at hl 1 rfl) ?_
    refine tf_callv (va_runV (As := [.int (Int32.ofInt x1)]) (rest := []) ⟨hx, hb, hml, hown, hts⟩ (c_X9_feedOne l g T a0 ha0 (x1) ⟨by omega, by omega⟩) (cwV 1 hts gv_X9_150 rfl rfl rfl hd_X9_feedOne ⟨Nat.le_trans (by decide) hR1, Nat.le_trans (by decide) hR2⟩) (tf_preV hk hW ha0 (ci := 9) rfl rfl trivial) rfl rfl hl.1 rfl (lv_room (Nat.le_of_ble_eq_true rfl)) dX9_feed_17 ⟨Nat.zero_le _, Nat.zero_le _⟩) hW (by decide) (fun H4 locs4 hW hF4 hp4 => ?_)
    refine lv_aload_n hx hb dX9_feed_20 rfl (lv_at hl 0 rfl) ?_
    refine lv_iload_n hx hb dX9_feed_21 rfl (lv_at hl 2 rfl) ?_
    refine tf_callv (va_runV (As := [.int (Int32.ofInt x2)]) (rest := []) ⟨hx, hb, hml, hown, hts⟩ (c_X9_feedOne l g T a0 ha0 (x2) ⟨by omega, by omega⟩) (cwV 1 hts gv_X9_150 rfl rfl rfl hd_X9_feedOne ⟨Nat.le_trans (by decide) hR1, Nat.le_trans (by decide) hR2⟩) (tf_preV hk hW ha0 (ci := 9) rfl rfl trivial) rfl rfl hl.1 rfl (lv_room (Nat.le_of_ble_eq_true rfl)) dX9_feed_22 ⟨Nat.zero_le _, Nat.zero_le _⟩) hW (by decide) (fun H5 locs5 hW hF5 hp5 => ?_)
    refine lv_aload_n hx hb dX9_feed_25 rfl (lv_at hl 0 rfl) ?_
    refine lv_iload_n hx hb dX9_feed_26 rfl (lv_at hl 3 rfl) ?_
    refine tf_callv (va_runV (As := [.int (Int32.ofInt x3)]) (rest := []) ⟨hx, hb, hml, hown, hts⟩ (c_X9_feedOne l g T a0 ha0 (x3) ⟨by omega, by omega⟩) (cwV 1 hts gv_X9_150 rfl rfl rfl hd_X9_feedOne ⟨Nat.le_trans (by decide) hR1, Nat.le_trans (by decide) hR2⟩) (tf_preV hk hW ha0 (ci := 9) rfl rfl trivial) rfl rfl hl.1 rfl (lv_room (Nat.le_of_ble_eq_true rfl)) dX9_feed_27 ⟨Nat.zero_le _, Nat.zero_le _⟩) hW (by decide) (fun H6 locs6 hW hF6 hp6 => ?_)
    refine lv_aload_n hx hb dX9_feed_30 rfl (lv_at hl 0 rfl) ?_
    refine lv_iload hx hb dX9_feed_31 (lv_at hl 4 rfl) ?_
    refine tf_callv (va_runV (As := [.int (Int32.ofInt x4)]) (rest := []) ⟨hx, hb, hml, hown, hts⟩ (c_X9_feedOne l g T a0 ha0 (x4) ⟨by omega, by omega⟩) (cwV 1 hts gv_X9_150 rfl rfl rfl hd_X9_feedOne ⟨Nat.le_trans (by decide) hR1, Nat.le_trans (by decide) hR2⟩) (tf_preV hk hW ha0 (ci := 9) rfl rfl trivial) rfl rfl hl.1 rfl (lv_room (Nat.le_of_ble_eq_true rfl)) dX9_feed_33 ⟨Nat.zero_le _, Nat.zero_le _⟩) hW (by decide) (fun H7 locs7 hW hF7 hp7 => ?_)
    refine lv_aload_n hx hb dX9_feed_36 rfl (lv_at hl 0 rfl) ?_
    refine lv_iload hx hb dX9_feed_37 (lv_at hl 5 rfl) ?_
    refine tf_callv (va_runV (As := [.int (Int32.ofInt x5)]) (rest := []) ⟨hx, hb, hml, hown, hts⟩ (c_X9_feedOne l g T a0 ha0 (x5) ⟨by omega, by omega⟩) (cwV 1 hts gv_X9_150 rfl rfl rfl hd_X9_feedOne ⟨Nat.le_trans (by decide) hR1, Nat.le_trans (by decide) hR2⟩) (tf_preV hk hW ha0 (ci := 9) rfl rfl trivial) rfl rfl hl.1 rfl (lv_room (Nat.le_of_ble_eq_true rfl)) dX9_feed_39 ⟨Nat.zero_le _, Nat.zero_le _⟩) hW (by decide) (fun H8 locs8 hW hF8 hp8 => ?_)
    refine lv_aload_n hx hb dX9_feed_42 rfl (lv_at hl 0 rfl) ?_
    refine tf_get hx hb hts inlX9 hown hK (ci := 9) rfl hW ha0 rfl 7 rfl (by decide) (hts _ fl_X9_48) dX9_feed_43 (fun v9 hv9 hsv9 => ?_)
    obtain ⟨z10, rfl, hz10⟩ := tf_v0 hv9
    exact tf_reti (z := z10) hx hb hr hlocks hQ hW (show (-2147483648) ≤ (z10) ∧ (z10) ≤ 2147483647 by omega) dX9_feed_46
  · refine tf_iconst hx hb dX9_feed_13 ?_
    exact tf_reti (z := (-1)) hx hb hr hlocks hQ hW (show (-2147483648) ≤ ((-1)) ∧ ((-1)) ≤ 2147483647 by omega) dX9_feed_14

abbrev M_X9_end : List (Nat × Nat) := [(26, 7)]
set_option maxHeartbeats 4000000 in
set_option maxRecDepth 100000 in
theorem c_X9_end (l : Launch) (g : tf_G) (T : tf_T) (a0 : Nat) (ha0 : T a0 = some (26, 0)) (x1 : Int) (hp1 : (-2147483648) ≤ x1 ∧ x1 ≤ 2147483647) : Met l yX9_end (cd_X9_end :: wsL_law) ({ frames := 2, cells := 0, slots := 0, locals := 46 }) (tf_P g T [.ref a0, .int (Int32.ofInt x1)] (fun H => True)) (tf_Qi g M_X9_end T (fun z _ _ => (-2147483648) ≤ z ∧ z ≤ 2147483647)) 0 0 (fun q => tf_B g ≤ q) := by
  refine Met.ofW (cc := cX9_end) (maxL := 2) (ret := (some .int)) (by decide) rfl ?_
  intro p e s m args below meth c s₁ B hml hv
  obtain ⟨hargs, hk, hW0, hB, hpre⟩ := hv
  have hx := B.exec
  have hb := B.bytes
  have hr := B.returns
  have hts : ∀ w ∈ wsL_law, w.before args s = true := fun w h => atoms_spec (ws := cd_X9_end :: wsL_law) B.pre w (List.mem_cons_of_mem _ h)
  have hown : s.vm.findClass RX9 = some m.cls := findClass_of_methodNamed B.named
  have hlocks := B.notSynchronized
  have hK := hk.1
  have hW := tf_n.start (M := M_X9_end) hW0 hB
  obtain ⟨Q, hQ⟩ : ∃ q, q = MQ below (tf_Qi g M_X9_end T (fun z _ _ => (-2147483648) ≤ z ∧ z ≤ 2147483647)) args s 0 0 (fun q => tf_B g ≤ q) := ⟨_, rfl⟩
  rw [← hQ]
  obtain ⟨R, hR⟩ : ∃ q, q = (headSpec (cd_X9_end :: wsL_law) ({ frames := 2, cells := 0, slots := 0, locals := 46 })).room := ⟨_, rfl⟩
  rw [← hR]
  have hR1 : 2 ≤ R.frames := by rw [hR]; exact Nat.le_refl _
  have hR2 : 46 ≤ R.locals := by rw [hR]; exact Nat.le_refl _
  have hR3 : 0 ≤ R.cells := by rw [hR]; exact Nat.le_refl _
  have hR4 : 0 ≤ R.slots := by rw [hR]; exact Nat.le_refl _
  have hin := (name_of_methodNamed B.named B.method).1
  clear hR B
  refine tf_enter (As := [.ref a0, .int (Int32.ofInt x1)]) hargs (Nat.le_of_ble_eq_true rfl) (fun ls hl => ?_)
  have hl : lv_has ls 2 [(0, .ref a0), (1, .int (Int32.ofInt x1))] := hl
  refine lv_iload_n hx hb dX9_end_0 rfl (lv_at hl 1 rfl) ?_
  refine tf_iconst hx hb dX9_end_1 ?_
  refine lv_aload_n hx hb dX9_end_2 rfl (lv_at hl 0 rfl) ?_
  refine tf_get hx hb hts inlX9 hown hK (ci := 9) rfl hW ha0 rfl 7 rfl (by decide) (hts _ fl_X9_48) dX9_end_3 (fun v1 hv1 hsv1 => ?_)
  obtain ⟨z2, rfl, hz2⟩ := tf_v0 hv1
  refine tf_calli (va_runS (As := [.int (Int32.ofInt x1), .int (Int32.ofInt 0), .int (Int32.ofInt z2)]) (rest := []) ⟨hx, hb, hml, hown, hts⟩ (c_X9_isWithin l g T (x1) ⟨by omega, by omega⟩ (0) ⟨by omega, by omega⟩ (z2) ⟨by omega, by omega⟩) ⟨callB_of 3 hts (gw_ws cm_X9_isWithin) rfl rfl rfl (hts _ (tw1 (i := 2) rfl)) (hts _ (tw9 (i := 19) rfl)) hd_X9_isWithin.2 ⟨Nat.le_trans (by decide) hR1, Nat.le_trans (by decide) hR2⟩, hts _ (tw8 (i := 17) rfl)⟩ (tf_preS hk hW trivial) rfl rfl hl.1 rfl (lv_room (Nat.le_of_ble_eq_true rfl)) dX9_end_6 ⟨Nat.zero_le _, Nat.zero_le _⟩) hW (by decide) (fun z3 H3 locs3 hW hF3 hp3 => ?_)
  rcases hp3 with ⟨rfl, h4, h5⟩ | ⟨rfl, h6⟩
  · refine tf_if_ne (tgt := 14) hx hb ⟨by decide, by decide⟩ dX9_end_9 (by decide) (fun h7 => ?_) (fun h7 => ?_)
    · refine lv_aload_n hx hb dX9_end_14 rfl (lv_at hl 0 rfl) ?_
      refine lv_iload_n hx hb dX9_end_15 rfl (lv_at hl 1 rfl) ?_
      refine tf_put hx hb hts inlX9 tyX9 tyX9_ok nmX9 hown hK (ci := 9) rfl hW ha0 rfl rfl 7 rfl (by decide) (by decide) (hts _ fl_X9_48) rfl (tf_u0 (by omega) (by omega)) rfl rfl dX9_end_16 (fun H8 locs8 hW hs8 ht8 hq8 => ?_)
      refine lv_iload_n hx hb dX9_end_19 rfl (lv_at hl 1 rfl) ?_
      exact tf_reti (z := x1) hx hb hr hlocks hQ hW (show (-2147483648) ≤ (x1) ∧ (x1) ≤ 2147483647 by omega) dX9_end_20
    · exfalso; omega
  · refine tf_if_ne (tgt := 14) hx hb ⟨by decide, by decide⟩ dX9_end_9 (by decide) (fun h9 => ?_) (fun h9 => ?_)
    · exfalso; omega
    · refine tf_iconst hx hb dX9_end_12 ?_
      exact tf_reti (z := (-1)) hx hb hr hlocks hQ hW (show (-2147483648) ≤ ((-1)) ∧ ((-1)) ≤ 2147483647 by omega) dX9_end_13

abbrev M_X9_row : List (Nat × Nat) := [(6, 0), (7, 0), (12, 0), (23, 2), (23, 6), (23, 10), (26, 7), (26, 8), (26, 13)]
set_option maxHeartbeats 4000000 in
set_option maxRecDepth 100000 in
theorem c_X9_row (l : Launch) (g : tf_G) (T : tf_T) (a0 : Nat) (ha0 : T a0 = some (26, 0)) : Met l yX9_row (cd_X9_row :: wsL_law) ({ frames := 3, cells := 0, slots := 0, locals := 68 }) (tf_P g T [.ref a0] (fun H => True)) (tf_Qi g M_X9_row T (fun z _ _ => (-2147483648) ≤ z ∧ z ≤ 2147483647)) 0 0 (fun q => tf_B g ≤ q) := by
  refine Met.ofW (cc := cX9_row) (maxL := 4) (ret := (some .int)) (by decide) rfl ?_
  intro p e s m args below meth c s₁ B hml hv
  obtain ⟨hargs, hk, hW0, hB, hpre⟩ := hv
  have hx := B.exec
  have hb := B.bytes
  have hr := B.returns
  have hts : ∀ w ∈ wsL_law, w.before args s = true := fun w h => atoms_spec (ws := cd_X9_row :: wsL_law) B.pre w (List.mem_cons_of_mem _ h)
  have hown : s.vm.findClass RX9 = some m.cls := findClass_of_methodNamed B.named
  have hlocks := B.notSynchronized
  have hK := hk.1
  have hW := tf_n.start (M := M_X9_row) hW0 hB
  obtain ⟨Q, hQ⟩ : ∃ q, q = MQ below (tf_Qi g M_X9_row T (fun z _ _ => (-2147483648) ≤ z ∧ z ≤ 2147483647)) args s 0 0 (fun q => tf_B g ≤ q) := ⟨_, rfl⟩
  rw [← hQ]
  obtain ⟨R, hR⟩ : ∃ q, q = (headSpec (cd_X9_row :: wsL_law) ({ frames := 3, cells := 0, slots := 0, locals := 68 })).room := ⟨_, rfl⟩
  rw [← hR]
  have hR1 : 3 ≤ R.frames := by rw [hR]; exact Nat.le_refl _
  have hR2 : 68 ≤ R.locals := by rw [hR]; exact Nat.le_refl _
  have hR3 : 0 ≤ R.cells := by rw [hR]; exact Nat.le_refl _
  have hR4 : 0 ≤ R.slots := by rw [hR]; exact Nat.le_refl _
  have hin := (name_of_methodNamed B.named B.method).1
  clear hR B
  have j_28 : ∀ (n_28 : Nat), ∀ (x1_28 : Int), 0 ≤ x1_28 ∧ x1_28 ≤ 40 → ∀ (x2_28 : Int), 0 ≤ x2_28 ∧ x2_28 ≤ 40 → ∀ (f7_28 : Int), 1 ≤ f7_28 ∧ f7_28 ≤ 400 → (40 - x2_28 + 1 ≤ (n_28 : Int)) → ∀ (H : Heap) (locs : List Loc), tf_n tf_kt g M_X9_row T s.heap T H locs → tf_s H a0 (g.1.2 9 7) = some (.int (Int32.ofInt f7_28)) → ∀ (ls : Array Slot), lv_has ls 4 [(0, .ref a0), (1, .int (Int32.ofInt x1_28)), (2, .int (Int32.ofInt x2_28))] → W p l e R s m args below meth c H locs 0 0 Q (F0 m 28 ls []) := by
    intro n_28
    induction n_28 with
    | zero =>
      intro x1_28 hx1_28 x2_28 hx2_28 f7_28 hf7_28 hm_28
      exfalso; omega
    | succ n_28 ih_28 =>
      intro x1_28 hx1_28 x2_28 hx2_28 f7_28 hf7_28 hm_28 H locs hW hs7_28 ls hl
      refine lv_iload_n hx hb dX9_row_28 rfl (lv_at hl 2 rfl) ?_
      refine lv_iload_n hx hb dX9_row_29 rfl (lv_at hl 1 rfl) ?_
      refine tf_icmp_ge (tgt := 86) hx hb ⟨by omega, by omega⟩ ⟨by omega, by omega⟩ dX9_row_30 (by decide) (fun h1 => ?_) (fun h1 => ?_)
      · refine lv_aload_n hx hb dX9_row_86 rfl (lv_at hl 0 rfl) ?_
        refine lv_aload_n hx hb dX9_row_87 rfl (lv_at hl 0 rfl) ?_
        refine tf_get hx hb hts inlX9 hown hK (ci := 9) rfl hW ha0 rfl 7 rfl (by decide) (hts _ fl_X9_48) dX9_row_88 (fun v2 hv2 hsv2 => ?_)
        obtain rfl : v2 = .int (Int32.ofInt f7_28) := Option.some.inj (hsv2.symm.trans hs7_28)
        refine tf_iconst hx hb dX9_row_91 ?_
        refine lv_iload_n hx hb dX9_row_92 rfl (lv_at hl 1 rfl) ?_
        refine tf_imul hx hb dX9_row_93 ?_
        refine tf_isub hx hb dX9_row_94 ?_
        refine tf_put hx hb hts inlX9 tyX9 tyX9_ok nmX9 hown hK (ci := 9) rfl hW ha0 rfl rfl 8 rfl (by decide) (by decide) (hts _ fl_X9_52) rfl (tf_u0 (by omega) (by omega)) rfl rfl dX9_row_95 (fun H3 locs3 hW hs3 ht3 hq3 => ?_)
        have hs4 := (ht3 7 (by decide) (by decide)).trans hs7_28
        refine lv_aload_n hx hb dX9_row_98 rfl (lv_at hl 0 rfl) ?_
        refine tf_iconst hx hb dX9_row_99 ?_
        refine tf_put hx hb hts inlX9 tyX9 tyX9_ok nmX9 hown hK (ci := 9) rfl hW ha0 rfl rfl 7 rfl (by decide) (by decide) (hts _ fl_X9_48) rfl (tf_u0 (by omega) (by omega)) rfl rfl dX9_row_100 (fun H5 locs5 hW hs5 ht5 hq5 => ?_)
        refine lv_aload_n hx hb dX9_row_103 rfl (lv_at hl 0 rfl) ?_
        refine lv_aload_n hx hb dX9_row_104 rfl (lv_at hl 0 rfl) ?_
        refine tf_get hx hb hts inlX9 hown hK (ci := 9) rfl hW ha0 rfl 0 rfl (by decide) (hts _ fl_X9_10) dX9_row_105 (fun v6 hv6 hsv6 => ?_)
        obtain ⟨ad7, rfl, had7⟩ := tf_v1 hv6
        refine tf_calli (va_runV (As := []) (rest := [.ref a0]) ⟨hx, hb, hml, hown, hts⟩ (c_X3_allHours l g T ad7 had7) (cwV 0 hts gv_X9_160 rfl rfl rfl hd_X3_allHours ⟨Nat.le_trans (by decide) hR1, Nat.le_trans (by decide) hR2⟩) (tf_preV hk hW had7 (ci := 3) rfl rfl trivial) rfl rfl hl.1 rfl (lv_room (Nat.le_of_ble_eq_true rfl)) dX9_row_108 ⟨Nat.zero_le _, Nat.zero_le _⟩) hW (by decide) (fun z8 H8 locs8 hW hF8 hp8 => ?_)
        obtain ⟨hp8_0, hp8_1⟩ := hp8
        refine tf_calli (va_runV (As := [.int (Int32.ofInt z8)]) (rest := []) ⟨hx, hb, hml, hown, hts⟩ (c_X9_accept l g T a0 ha0 (z8) ⟨by omega, by omega⟩) (cwV 1 hts gv_X9_99 rfl rfl rfl hd_X9_accept ⟨Nat.le_trans (by decide) hR1, Nat.le_trans (by decide) hR2⟩) (tf_preV hk hW ha0 (ci := 9) rfl rfl trivial) rfl rfl hl.1 rfl (lv_room (Nat.le_of_ble_eq_true rfl)) dX9_row_111 ⟨Nat.zero_le _, Nat.zero_le _⟩) hW (by decide) (fun z9 H9 locs9 hW hF9 hp9 => ?_)
        obtain ⟨hp9_0, hp9_1, hp9_2⟩ := hp9
        exact tf_reti (z := z9) hx hb hr hlocks hQ hW (show (-2147483648) ≤ (z9) ∧ (z9) ≤ 2147483647 by omega) dX9_row_114
      · refine lv_aload_n hx hb dX9_row_33 rfl (lv_at hl 0 rfl) ?_
        refine tf_get hx hb hts inlX9 hown hK (ci := 9) rfl hW ha0 rfl 6 rfl (by decide) (hts _ fl_X9_45) dX9_row_34 (fun v10 hv10 hsv10 => ?_)
        obtain ⟨ad11, rfl, had11⟩ := tf_v1 hv10
        refine tf_iconst hx hb dX9_row_37 ?_
        refine lv_iload_n hx hb dX9_row_38 rfl (lv_at hl 2 rfl) ?_
        refine tf_imul hx hb dX9_row_39 ?_
        refine tf_iald (t0 := 0) hx hb hK hW had11 rfl rfl (by omega) (by omega) dX9_row_40 (fun v12 hv12 hsv12 => ?_)
        obtain ⟨z13, rfl, hz13⟩ := tf_v0 hv12
        refine tf_sipush hx hb dX9_row_41 (by decide) ?_
        refine tf_imul hx hb dX9_row_44 ?_
        refine lv_aload_n hx hb dX9_row_45 rfl (lv_at hl 0 rfl) ?_
        refine tf_get hx hb hts inlX9 hown hK (ci := 9) rfl hW ha0 rfl 6 rfl (by decide) (hts _ fl_X9_45) dX9_row_46 (fun v14 hv14 hsv14 => ?_)
        obtain rfl : v14 = .ref ad11 := Option.some.inj (hsv14.symm.trans hsv10)
        refine tf_iconst hx hb dX9_row_49 ?_
        refine lv_iload_n hx hb dX9_row_50 rfl (lv_at hl 2 rfl) ?_
        refine tf_imul hx hb dX9_row_51 ?_
        refine tf_iconst hx hb dX9_row_52 ?_
        refine tf_iadd hx hb dX9_row_53 ?_
        refine tf_iald (t0 := 0) hx hb hK hW had11 rfl rfl (by omega) (by omega) dX9_row_54 (fun v15 hv15 hsv15 => ?_)
        obtain ⟨z16, rfl, hz16⟩ := tf_v0 hv15
        refine tf_iadd hx hb dX9_row_55 ?_
        refine lv_istore_n (lv' := [(3, .int (Int32.ofInt (((z13 * 256) + z16)))), (0, .ref a0), (1, .int (Int32.ofInt x1_28)), (2, .int (Int32.ofInt x2_28))]) hx hb dX9_row_56 rfl hl (by decide) rfl (fun ls hl => ?_)
        refine lv_aload_n hx hb dX9_row_57 rfl (lv_at hl 1 rfl) ?_
        refine tf_get hx hb hts inlX9 hown hK (ci := 9) rfl hW ha0 rfl 0 rfl (by decide) (hts _ fl_X9_10) dX9_row_58 (fun v17 hv17 hsv17 => ?_)
        obtain ⟨ad18, rfl, had18⟩ := tf_v1 hv17
        refine lv_iload_n hx hb dX9_row_61 rfl (lv_at hl 3 rfl) ?_
        refine tf_bipush hx hb dX9_row_62 (by decide) ?_
        refine tf_idiv hx hb ⟨by omega, by omega⟩ (by omega) ⟨by decide, by decide⟩ (by decide) dX9_row_64 ?_
        refine tf_name (fun z19 ez19 => ?_)
        refine lv_iload_n hx hb dX9_row_65 rfl (lv_at hl 3 rfl) ?_
        refine tf_bipush hx hb dX9_row_66 (by decide) ?_
        refine tf_irem hx hb ⟨by omega, by omega⟩ (by omega) ⟨by decide, by decide⟩ (by decide) dX9_row_68 ?_
        refine tf_name (fun z20 ez20 => ?_)
        refine lv_iload_n hx hb dX9_row_69 rfl (lv_at hl 0 rfl) ?_
        refine tf_sipush hx hb dX9_row_70 (by decide) ?_
        refine tf_mmin hx hb hml hl hown (hts _ (tw18 (i := 16) rfl)) (hts _ (tw18 (i := 17) rfl)) (hts _ (tw10 (i := 2) rfl)) (hts _ (tw18 (i := 18) rfl)) ⟨by omega, by omega⟩ ⟨by decide, by decide⟩ (Nat.le_of_ble_eq_true rfl) (Nat.le_trans (by decide) hR1) (Nat.le_trans (by decide) hR2) (Nat.zero_le _) (Nat.zero_le _) dX9_row_73 (fun z21 hz21 => ?_)
        refine tf_calli (va_runV (As := [.int (Int32.ofInt z19), .int (Int32.ofInt z20), .int (Int32.ofInt z21)]) (rest := []) ⟨hx, hb, hml, hown, hts⟩ (c_X3_setHours l g T ad18 had18 (z19) ⟨by omega, by omega⟩ (z20) ⟨by omega, by omega⟩ (z21) ⟨by omega, by omega⟩) (cwV 3 hts gv_X9_146 rfl rfl rfl hd_X3_setHours ⟨Nat.le_trans (by decide) hR1, Nat.le_trans (by decide) hR2⟩) (tf_preV hk hW had18 (ci := 3) rfl rfl trivial) rfl rfl hl.1 rfl (lv_room (Nat.le_of_ble_eq_true rfl)) dX9_row_76 ⟨Nat.zero_le _, Nat.zero_le _⟩) hW (by decide) (fun z22 H22 locs22 hW hF22 hp22 => ?_)
        have hs23 := tf_keepF hF22 ha0 rfl rfl (by decide) hs7_28
        have hs24 := tf_keepF hF22 ha0 rfl rfl (by decide) hsv10
        obtain ⟨hp22_0, hp22_1⟩ := hp22
        refine lv_pop hx hb dX9_row_79 rfl ?_
        refine lv_iinc (v := Int32.ofInt ((x2_28 + 1))) (lv' := [(2, .int (Int32.ofInt ((x2_28 + 1)))), (3, .int (Int32.ofInt (((z13 * 256) + z16)))), (0, .ref a0), (1, .int (Int32.ofInt x1_28))]) hx hb dX9_row_80 hl (k := 3) rfl (Int32.ofInt_add _ _).symm (by decide) rfl (fun ls hl => ?_)
        refine lv_goto (tgt := 28) hx hb dX9_row_83 (by decide) ?_
        exact ih_28 (x1_28) ⟨by omega, by omega⟩ ((x2_28 + 1)) ⟨by omega, by omega⟩ (f7_28) ⟨by omega, by omega⟩ (by omega) _ _ hW hs23 _ (lv_sub hl [2, 3, 0] rfl)
  refine tf_enter (As := [.ref a0]) hargs (Nat.le_of_ble_eq_true rfl) (fun ls hl => ?_)
  have hl : lv_has ls 4 [(0, .ref a0)] := hl
  refine lv_aload_n hx hb dX9_row_0 rfl (lv_at hl 0 rfl) ?_
  refine tf_get hx hb hts inlX9 hown hK (ci := 9) rfl hW ha0 rfl 7 rfl (by decide) (hts _ fl_X9_48) dX9_row_1 (fun v25 hv25 hsv25 => ?_)
  obtain ⟨z26, rfl, hz26⟩ := tf_v0 hv25
  refine tf_if_ne (tgt := 14) hx hb ⟨by omega, by omega⟩ dX9_row_4 (by decide) (fun h27 => ?_) (fun h27 => ?_)
  · refine lv_aload_n hx hb dX9_row_14 rfl (lv_at hl 0 rfl) ?_
    refine tf_get hx hb hts inlX9 hown hK (ci := 9) rfl hW ha0 rfl 7 rfl (by decide) (hts _ fl_X9_48) dX9_row_15 (fun v28 hv28 hsv28 => ?_)
    obtain rfl : v28 = .int (Int32.ofInt z26) := Option.some.inj (hsv28.symm.trans hsv25)
    refine tf_iconst hx hb dX9_row_18 ?_
    refine tf_idiv hx hb ⟨by omega, by omega⟩ (by omega) ⟨by decide, by decide⟩ (by decide) dX9_row_19 ?_
    refine tf_name (fun z29 ez29 => ?_)
    refine tf_bipush hx hb dX9_row_20 (by decide) ?_
    refine tf_mmin hx hb hml hl hown (hts _ (tw18 (i := 16) rfl)) (hts _ (tw18 (i := 17) rfl)) (hts _ (tw10 (i := 2) rfl)) (hts _ (tw18 (i := 18) rfl)) ⟨by omega, by omega⟩ ⟨by decide, by decide⟩ (Nat.le_of_ble_eq_true rfl) (Nat.le_trans (by decide) hR1) (Nat.le_trans (by decide) hR2) (Nat.zero_le _) (Nat.zero_le _) dX9_row_22 (fun z30 hz30 => ?_)
    refine lv_istore_n (lv' := [(1, .int (Int32.ofInt z30)), (0, .ref a0)]) hx hb dX9_row_25 rfl hl (by decide) rfl (fun ls hl => ?_)
    refine tf_iconst hx hb dX9_row_26 ?_
    refine lv_istore_n (lv' := [(2, .int (Int32.ofInt 0)), (1, .int (Int32.ofInt z30)), (0, .ref a0)]) hx hb dX9_row_27 rfl hl (by decide) rfl (fun ls hl => ?_)
    exact j_28 ((40 - 0 + 1 : Int)).toNat (z30) ⟨by omega, by omega⟩ (0) ⟨by omega, by omega⟩ (z26) ⟨by omega, by omega⟩ (by omega) _ _ hW hsv25 _ (lv_sub hl [2, 1, 0] rfl)
  · refine lv_aload_n hx hb dX9_row_7 rfl (lv_at hl 0 rfl) ?_
    refine tf_bipush hx hb dX9_row_8 (by decide) ?_
    refine tf_calli (va_runV (As := [.int (Int32.ofInt ((-6)))]) (rest := []) ⟨hx, hb, hml, hown, hts⟩ (c_X9_refuse l g T a0 ha0 ((-6)) ⟨by omega, by omega⟩) (cwV 1 hts gv_X9_75 rfl rfl rfl hd_X9_refuse ⟨Nat.le_trans (by decide) hR1, Nat.le_trans (by decide) hR2⟩) (tf_preV hk hW ha0 (ci := 9) rfl rfl trivial) rfl rfl hl.1 rfl (lv_room (Nat.le_of_ble_eq_true rfl)) dX9_row_10 ⟨Nat.zero_le _, Nat.zero_le _⟩) hW (by decide) (fun z31 H31 locs31 hW hF31 hp31 => ?_)
    have hs32 := tf_keepF hF31 ha0 rfl rfl (by decide) hsv25
    obtain ⟨hp31_0, hp31_1, hp31_2⟩ := hp31
    exact tf_reti (z := z31) hx hb hr hlocks hQ hW (show (-2147483648) ≤ (z31) ∧ (z31) ≤ 2147483647 by omega) dX9_row_13

abbrev M_X9_torn : List (Nat × Nat) := []
set_option maxHeartbeats 4000000 in
set_option maxRecDepth 100000 in
theorem c_X9_torn (l : Launch) (g : tf_G) (T : tf_T) (a0 : Nat) (ha0 : T a0 = some (26, 0)) : Met l yX9_torn (cd_X9_torn :: wsL_law) ({ frames := 1, cells := 0, slots := 0, locals := 24 }) (tf_P g T [.ref a0] (fun H => True)) (tf_Qi g M_X9_torn T (fun z _ _ => (-2147483648) ≤ z ∧ z ≤ 2147483647)) 0 0 (fun q => tf_B g ≤ q) := by
  refine Met.ofW (cc := cX9_torn) (maxL := 1) (ret := (some .int)) (by decide) rfl ?_
  intro p e s m args below meth c s₁ B hml hv
  obtain ⟨hargs, hk, hW0, hB, hpre⟩ := hv
  have hx := B.exec
  have hb := B.bytes
  have hr := B.returns
  have hts : ∀ w ∈ wsL_law, w.before args s = true := fun w h => atoms_spec (ws := cd_X9_torn :: wsL_law) B.pre w (List.mem_cons_of_mem _ h)
  have hown : s.vm.findClass RX9 = some m.cls := findClass_of_methodNamed B.named
  have hlocks := B.notSynchronized
  have hK := hk.1
  have hW := tf_n.start (M := M_X9_torn) hW0 hB
  obtain ⟨Q, hQ⟩ : ∃ q, q = MQ below (tf_Qi g M_X9_torn T (fun z _ _ => (-2147483648) ≤ z ∧ z ≤ 2147483647)) args s 0 0 (fun q => tf_B g ≤ q) := ⟨_, rfl⟩
  rw [← hQ]
  obtain ⟨R, hR⟩ : ∃ q, q = (headSpec (cd_X9_torn :: wsL_law) ({ frames := 1, cells := 0, slots := 0, locals := 24 })).room := ⟨_, rfl⟩
  rw [← hR]
  have hR1 : 1 ≤ R.frames := by rw [hR]; exact Nat.le_refl _
  have hR2 : 24 ≤ R.locals := by rw [hR]; exact Nat.le_refl _
  have hR3 : 0 ≤ R.cells := by rw [hR]; exact Nat.le_refl _
  have hR4 : 0 ≤ R.slots := by rw [hR]; exact Nat.le_refl _
  have hin := (name_of_methodNamed B.named B.method).1
  clear hR B
  refine tf_enter (As := [.ref a0]) hargs (Nat.le_of_ble_eq_true rfl) (fun ls hl => ?_)
  have hl : lv_has ls 1 [(0, .ref a0)] := hl
  refine lv_aload_n hx hb dX9_torn_0 rfl (lv_at hl 0 rfl) ?_
  refine tf_get hx hb hts inlX9 hown hK (ci := 9) rfl hW ha0 rfl 8 rfl (by decide) (hts _ fl_X9_52) dX9_torn_1 (fun v1 hv1 hsv1 => ?_)
  obtain ⟨z2, rfl, hz2⟩ := tf_v0 hv1
  exact tf_reti (z := z2) hx hb hr hlocks hQ hW (show (-2147483648) ≤ (z2) ∧ (z2) ≤ 2147483647 by omega) dX9_torn_4

abbrev M_X9_fault : List (Nat × Nat) := []
set_option maxHeartbeats 4000000 in
set_option maxRecDepth 100000 in
theorem c_X9_fault (l : Launch) (g : tf_G) (T : tf_T) (a0 : Nat) (ha0 : T a0 = some (26, 0)) : Met l yX9_fault (cd_X9_fault :: wsL_law) ({ frames := 1, cells := 0, slots := 0, locals := 24 }) (tf_P g T [.ref a0] (fun H => True)) (tf_Qi g M_X9_fault T (fun z _ _ => (-2147483648) ≤ z ∧ z ≤ 2147483647)) 0 0 (fun q => tf_B g ≤ q) := by
  refine Met.ofW (cc := cX9_fault) (maxL := 1) (ret := (some .int)) (by decide) rfl ?_
  intro p e s m args below meth c s₁ B hml hv
  obtain ⟨hargs, hk, hW0, hB, hpre⟩ := hv
  have hx := B.exec
  have hb := B.bytes
  have hr := B.returns
  have hts : ∀ w ∈ wsL_law, w.before args s = true := fun w h => atoms_spec (ws := cd_X9_fault :: wsL_law) B.pre w (List.mem_cons_of_mem _ h)
  have hown : s.vm.findClass RX9 = some m.cls := findClass_of_methodNamed B.named
  have hlocks := B.notSynchronized
  have hK := hk.1
  have hW := tf_n.start (M := M_X9_fault) hW0 hB
  obtain ⟨Q, hQ⟩ : ∃ q, q = MQ below (tf_Qi g M_X9_fault T (fun z _ _ => (-2147483648) ≤ z ∧ z ≤ 2147483647)) args s 0 0 (fun q => tf_B g ≤ q) := ⟨_, rfl⟩
  rw [← hQ]
  obtain ⟨R, hR⟩ : ∃ q, q = (headSpec (cd_X9_fault :: wsL_law) ({ frames := 1, cells := 0, slots := 0, locals := 24 })).room := ⟨_, rfl⟩
  rw [← hR]
  have hR1 : 1 ≤ R.frames := by rw [hR]; exact Nat.le_refl _
  have hR2 : 24 ≤ R.locals := by rw [hR]; exact Nat.le_refl _
  have hR3 : 0 ≤ R.cells := by rw [hR]; exact Nat.le_refl _
  have hR4 : 0 ≤ R.slots := by rw [hR]; exact Nat.le_refl _
  have hin := (name_of_methodNamed B.named B.method).1
  clear hR B
  refine tf_enter (As := [.ref a0]) hargs (Nat.le_of_ble_eq_true rfl) (fun ls hl => ?_)
  have hl : lv_has ls 1 [(0, .ref a0)] := hl
  refine lv_aload_n hx hb dX9_fault_0 rfl (lv_at hl 0 rfl) ?_
  refine tf_get hx hb hts inlX9 hown hK (ci := 9) rfl hW ha0 rfl 9 rfl (by decide) (hts _ fl_X9_55) dX9_fault_1 (fun v1 hv1 hsv1 => ?_)
  obtain ⟨z2, rfl, hz2⟩ := tf_v0 hv1
  exact tf_reti (z := z2) hx hb hr hlocks hQ hW (show (-2147483648) ≤ (z2) ∧ (z2) ≤ 2147483647 by omega) dX9_fault_4

abbrev M_X9_force : List (Nat × Nat) := [(12, 0), (20, 9), (23, 2), (23, 6), (23, 10), (26, 13)]
set_option maxHeartbeats 4000000 in
set_option maxRecDepth 100000 in
theorem c_X9_force (l : Launch) (g : tf_G) (T : tf_T) (a0 : Nat) (ha0 : T a0 = some (26, 0)) (x1 : Int) (hp1 : (-2147483648) ≤ x1 ∧ x1 ≤ 2147483647) : Met l yX9_force (cd_X9_force :: wsL_law) ({ frames := 3, cells := 0, slots := 0, locals := 67 }) (tf_P g T [.ref a0, .int (Int32.ofInt x1)] (fun H => True)) (tf_Qi g M_X9_force T (fun z _ _ => (-2147483648) ≤ z ∧ z ≤ 2147483647)) 0 0 (fun q => tf_B g ≤ q) := by
  refine Met.ofW (cc := cX9_force) (maxL := 3) (ret := (some .int)) (by decide) rfl ?_
  intro p e s m args below meth c s₁ B hml hv
  obtain ⟨hargs, hk, hW0, hB, hpre⟩ := hv
  have hx := B.exec
  have hb := B.bytes
  have hr := B.returns
  have hts : ∀ w ∈ wsL_law, w.before args s = true := fun w h => atoms_spec (ws := cd_X9_force :: wsL_law) B.pre w (List.mem_cons_of_mem _ h)
  have hown : s.vm.findClass RX9 = some m.cls := findClass_of_methodNamed B.named
  have hlocks := B.notSynchronized
  have hK := hk.1
  have hW := tf_n.start (M := M_X9_force) hW0 hB
  obtain ⟨Q, hQ⟩ : ∃ q, q = MQ below (tf_Qi g M_X9_force T (fun z _ _ => (-2147483648) ≤ z ∧ z ≤ 2147483647)) args s 0 0 (fun q => tf_B g ≤ q) := ⟨_, rfl⟩
  rw [← hQ]
  obtain ⟨R, hR⟩ : ∃ q, q = (headSpec (cd_X9_force :: wsL_law) ({ frames := 3, cells := 0, slots := 0, locals := 67 })).room := ⟨_, rfl⟩
  rw [← hR]
  have hR1 : 3 ≤ R.frames := by rw [hR]; exact Nat.le_refl _
  have hR2 : 67 ≤ R.locals := by rw [hR]; exact Nat.le_refl _
  have hR3 : 0 ≤ R.cells := by rw [hR]; exact Nat.le_refl _
  have hR4 : 0 ≤ R.slots := by rw [hR]; exact Nat.le_refl _
  have hin := (name_of_methodNamed B.named B.method).1
  clear hR B
  refine tf_enter (As := [.ref a0, .int (Int32.ofInt x1)]) hargs (Nat.le_of_ble_eq_true rfl) (fun ls hl => ?_)
  have hl : lv_has ls 3 [(0, .ref a0), (1, .int (Int32.ofInt x1))] := hl
  refine lv_iload_n hx hb dX9_force_0 rfl (lv_at hl 1 rfl) ?_
  refine tf_iconst hx hb dX9_force_1 ?_
  refine lv_aload_n hx hb dX9_force_2 rfl (lv_at hl 0 rfl) ?_
  refine tf_get hx hb hts inlX9 hown hK (ci := 9) rfl hW ha0 rfl 0 rfl (by decide) (hts _ fl_X9_10) dX9_force_3 (fun v1 hv1 hsv1 => ?_)
  obtain ⟨ad2, rfl, had2⟩ := tf_v1 hv1
  refine tf_get hx hb hts inlX3 hown hK (ci := 3) rfl hW had2 rfl 8 rfl (by decide) (hts _ fl_X9_164) dX9_force_6 (fun v3 hv3 hsv3 => ?_)
  obtain ⟨z4, rfl, hz4⟩ := tf_v0 hv3
  refine tf_iconst hx hb dX9_force_9 ?_
  refine tf_isub hx hb dX9_force_10 ?_
  refine tf_calli (va_runS (As := [.int (Int32.ofInt x1), .int (Int32.ofInt ((-1))), .int (Int32.ofInt ((z4 - 1)))]) (rest := []) ⟨hx, hb, hml, hown, hts⟩ (c_X9_isWithin l g T (x1) ⟨by omega, by omega⟩ ((-1)) ⟨by omega, by omega⟩ ((z4 - 1)) ⟨by omega, by omega⟩) ⟨callB_of 3 hts (gw_ws cm_X9_isWithin) rfl rfl rfl (hts _ (tw1 (i := 2) rfl)) (hts _ (tw9 (i := 19) rfl)) hd_X9_isWithin.2 ⟨Nat.le_trans (by decide) hR1, Nat.le_trans (by decide) hR2⟩, hts _ (tw8 (i := 17) rfl)⟩ (tf_preS hk hW trivial) rfl rfl hl.1 rfl (lv_room (Nat.le_of_ble_eq_true rfl)) dX9_force_11 ⟨Nat.zero_le _, Nat.zero_le _⟩) hW (by decide) (fun z5 H5 locs5 hW hF5 hp5 => ?_)
  have hs6 := tf_keepF hF5 ha0 rfl rfl (by decide) hsv1
  rcases hp5 with ⟨rfl, h7, h8⟩ | ⟨rfl, h9⟩
  · refine tf_if_ne (tgt := 24) hx hb ⟨by decide, by decide⟩ dX9_force_14 (by decide) (fun h10 => ?_) (fun h10 => ?_)
    · refine lv_aload_n hx hb dX9_force_24 rfl (lv_at hl 0 rfl) ?_
      refine tf_get hx hb hts inlX9 hown hK (ci := 9) rfl hW ha0 rfl 0 rfl (by decide) (hts _ fl_X9_10) dX9_force_25 (fun v11 hv11 hsv11 => ?_)
      obtain rfl : v11 = .ref ad2 := Option.some.inj (hsv11.symm.trans hs6)
      refine tf_get hx hb hts inlX3 hown hK (ci := 3) rfl hW had2 rfl 9 rfl (by decide) (hts _ fl_X9_176) dX9_force_28 (fun v12 hv12 hsv12 => ?_)
      obtain ⟨z13, rfl, hz13⟩ := tf_v0 hv12
      refine lv_istore_n (lv' := [(2, .int (Int32.ofInt z13)), (0, .ref a0), (1, .int (Int32.ofInt x1))]) hx hb dX9_force_31 rfl hl (by decide) rfl (fun ls hl => ?_)
      refine lv_aload_n hx hb dX9_force_32 rfl (lv_at hl 1 rfl) ?_
      refine tf_get hx hb hts inlX9 hown hK (ci := 9) rfl hW ha0 rfl 0 rfl (by decide) (hts _ fl_X9_10) dX9_force_33 (fun v14 hv14 hsv14 => ?_)
      obtain rfl : v14 = .ref ad2 := Option.some.inj (hsv14.symm.trans hs6)
      refine lv_iload_n hx hb dX9_force_36 rfl (lv_at hl 2 rfl) ?_
      refine tf_put hx hb hts inlX3 tyX3 tyX3_ok nmX3 hown hK (ci := 3) rfl hW had2 rfl rfl 9 rfl (by decide) (by decide) (hts _ fl_X9_176) rfl (tf_u0 (by omega) (by omega)) rfl rfl dX9_force_37 (fun H15 locs15 hW hs15 ht15 hq15 => ?_)
      have hs16 := tf_keepQ hs6 (hq15 _ (tf_ne ha0 had2 (by decide)))
      refine lv_aload_n hx hb dX9_force_40 rfl (lv_at hl 1 rfl) ?_
      refine lv_iload_n hx hb dX9_force_41 rfl (lv_at hl 0 rfl) ?_
      refine tf_calli (va_runV (As := [.int (Int32.ofInt z13)]) (rest := []) ⟨hx, hb, hml, hown, hts⟩ (c_X9_accept l g T a0 ha0 (z13) ⟨by omega, by omega⟩) (cwV 1 hts gv_X9_99 rfl rfl rfl hd_X9_accept ⟨Nat.le_trans (by decide) hR1, Nat.le_trans (by decide) hR2⟩) (tf_preV hk hW ha0 (ci := 9) rfl rfl trivial) rfl rfl hl.1 rfl (lv_room (Nat.le_of_ble_eq_true rfl)) dX9_force_42 ⟨Nat.zero_le _, Nat.zero_le _⟩) hW (by decide) (fun z17 H17 locs17 hW hF17 hp17 => ?_)
      have hs18 := tf_keepF hF17 ha0 rfl rfl (by decide) hs16
      obtain ⟨hp17_0, hp17_1, hp17_2⟩ := hp17
      exact tf_reti (z := z17) hx hb hr hlocks hQ hW (show (-2147483648) ≤ (z17) ∧ (z17) ≤ 2147483647 by omega) dX9_force_45
    · exfalso; omega
  · refine tf_if_ne (tgt := 24) hx hb ⟨by decide, by decide⟩ dX9_force_14 (by decide) (fun h19 => ?_) (fun h19 => ?_)
    · exfalso; omega
    · refine lv_aload_n hx hb dX9_force_17 rfl (lv_at hl 0 rfl) ?_
      refine tf_bipush hx hb dX9_force_18 (by decide) ?_
      refine tf_calli (va_runV (As := [.int (Int32.ofInt ((-2)))]) (rest := []) ⟨hx, hb, hml, hown, hts⟩ (c_X9_refuse l g T a0 ha0 ((-2)) ⟨by omega, by omega⟩) (cwV 1 hts gv_X9_75 rfl rfl rfl hd_X9_refuse ⟨Nat.le_trans (by decide) hR1, Nat.le_trans (by decide) hR2⟩) (tf_preV hk hW ha0 (ci := 9) rfl rfl trivial) rfl rfl hl.1 rfl (lv_room (Nat.le_of_ble_eq_true rfl)) dX9_force_20 ⟨Nat.zero_le _, Nat.zero_le _⟩) hW (by decide) (fun z20 H20 locs20 hW hF20 hp20 => ?_)
      have hs21 := tf_keepF hF20 ha0 rfl rfl (by decide) hs6
      obtain ⟨hp20_0, hp20_1, hp20_2⟩ := hp20
      exact tf_reti (z := z20) hx hb hr hlocks hQ hW (show (-2147483648) ≤ (z20) ∧ (z20) ≤ 2147483647 by omega) dX9_force_23

abbrev M_X9_kind : List (Nat × Nat) := [(0, 0), (4, 0), (24, 5)]
set_option maxHeartbeats 4000000 in
set_option maxRecDepth 100000 in
theorem c_X9_kind (l : Launch) (g : tf_G) (T : tf_T) (a0 : Nat) (ha0 : T a0 = some (26, 0)) (x1 : Int) (hp1 : (-2147483648) ≤ x1 ∧ x1 ≤ 2147483647) (x2 : Int) (hp2 : (-2147483648) ≤ x2 ∧ x2 ≤ 2147483647) (x3 : Int) (hp3 : (-2147483648) ≤ x3 ∧ x3 ≤ 2147483647) (hE : tf_E g T) : Met l yX9_kind (cd_X9_kind :: wsL_law) ({ frames := 5, cells := 0, slots := 0, locals := 131 }) (tf_P g T [.ref a0, .int (Int32.ofInt x1), .int (Int32.ofInt x2), .int (Int32.ofInt x3)] (fun H => True)) (tf_Qi g M_X9_kind T (fun z _ _ => (-2147483648) ≤ z ∧ z ≤ 2147483647)) 0 0 (fun q => tf_B g ≤ q) := by
  refine Met.ofW (cc := cX9_kind) (maxL := 4) (ret := (some .int)) (by decide) rfl ?_
  intro p e s m args below meth c s₁ B hml hv
  obtain ⟨hargs, hk, hW0, hB, hpre⟩ := hv
  have hx := B.exec
  have hb := B.bytes
  have hr := B.returns
  have hts : ∀ w ∈ wsL_law, w.before args s = true := fun w h => atoms_spec (ws := cd_X9_kind :: wsL_law) B.pre w (List.mem_cons_of_mem _ h)
  have hown : s.vm.findClass RX9 = some m.cls := findClass_of_methodNamed B.named
  have hlocks := B.notSynchronized
  have hK := hk.1
  have hW := tf_n.start (M := M_X9_kind) hW0 hB
  obtain ⟨Q, hQ⟩ : ∃ q, q = MQ below (tf_Qi g M_X9_kind T (fun z _ _ => (-2147483648) ≤ z ∧ z ≤ 2147483647)) args s 0 0 (fun q => tf_B g ≤ q) := ⟨_, rfl⟩
  rw [← hQ]
  obtain ⟨R, hR⟩ : ∃ q, q = (headSpec (cd_X9_kind :: wsL_law) ({ frames := 5, cells := 0, slots := 0, locals := 131 })).room := ⟨_, rfl⟩
  rw [← hR]
  have hR1 : 5 ≤ R.frames := by rw [hR]; exact Nat.le_refl _
  have hR2 : 131 ≤ R.locals := by rw [hR]; exact Nat.le_refl _
  have hR3 : 0 ≤ R.cells := by rw [hR]; exact Nat.le_refl _
  have hR4 : 0 ≤ R.slots := by rw [hR]; exact Nat.le_refl _
  have hin := (name_of_methodNamed B.named B.method).1
  clear hR B
  refine tf_enter (As := [.ref a0, .int (Int32.ofInt x1), .int (Int32.ofInt x2), .int (Int32.ofInt x3)]) hargs (Nat.le_of_ble_eq_true rfl) (fun ls hl => ?_)
  have hl : lv_has ls 4 [(0, .ref a0), (1, .int (Int32.ofInt x1)), (2, .int (Int32.ofInt x2)), (3, .int (Int32.ofInt x3))] := hl
  refine lv_aload_n hx hb dX9_kind_0 rfl (lv_at hl 0 rfl) ?_
  refine tf_get hx hb hts inlX9 hown hK (ci := 9) rfl hW ha0 rfl 0 rfl (by decide) (hts _ fl_X9_10) dX9_kind_1 (fun v1 hv1 hsv1 => ?_)
  obtain ⟨ad2, rfl, had2⟩ := tf_v1 hv1
  refine lv_iload_n hx hb dX9_kind_4 rfl (lv_at hl 1 rfl) ?_
  refine tf_calli (va_runV (As := [.int (Int32.ofInt x1)]) (rest := []) ⟨hx, hb, hml, hown, hts⟩ (c_X3_isGround l g T ad2 had2 (x1) ⟨by omega, by omega⟩) (cwV 1 hts gv_X9_124 rfl rfl rfl hd_X3_isGround ⟨Nat.le_trans (by decide) hR1, Nat.le_trans (by decide) hR2⟩) (tf_preV hk hW had2 (ci := 3) rfl rfl trivial) rfl rfl hl.1 rfl (lv_room (Nat.le_of_ble_eq_true rfl)) dX9_kind_5 ⟨Nat.zero_le _, Nat.zero_le _⟩) hW (by decide) (fun z3 H3 locs3 hW hF3 hp3 => ?_)
  have hs4 := tf_keepF hF3 ha0 rfl rfl (by decide) hsv1
  rcases hp3 with ⟨rfl, h5, h6⟩ | ⟨rfl⟩
  · refine tf_if_eq (tgt := 28) hx hb ⟨by decide, by decide⟩ dX9_kind_8 (by decide) (fun h7 => ?_) (fun h7 => ?_)
    · exfalso; omega
    · refine lv_iload_n hx hb dX9_kind_11 rfl (lv_at hl 2 rfl) ?_
      refine tf_calli (va_runS (As := [.int (Int32.ofInt x2)]) (rest := []) ⟨hx, hb, hml, hown, hts⟩ (c_X9_isWay l g T (x2) ⟨by omega, by omega⟩) ⟨callB_of 1 hts (gw_ws cm_X9_isWay) rfl rfl rfl (hts _ (tw1 (i := 2) rfl)) (hts _ (tw16 (i := 17) rfl)) hd_X9_isWay.2 ⟨Nat.le_trans (by decide) hR1, Nat.le_trans (by decide) hR2⟩, hts _ (tw16 (i := 18) rfl)⟩ (tf_preS hk hW trivial) rfl rfl hl.1 rfl (lv_room (Nat.le_of_ble_eq_true rfl)) dX9_kind_12 ⟨Nat.zero_le _, Nat.zero_le _⟩) hW (by decide) (fun z8 H8 locs8 hW hF8 hp8 => ?_)
      have hs9 := tf_keepF hF8 ha0 rfl rfl (by decide) hs4
      rcases hp8 with ⟨rfl, h10, h11⟩ | ⟨rfl, h12⟩
      · refine tf_if_eq (tgt := 28) hx hb ⟨by decide, by decide⟩ dX9_kind_15 (by decide) (fun h13 => ?_) (fun h13 => ?_)
        · exfalso; omega
        · refine lv_iload_n hx hb dX9_kind_18 rfl (lv_at hl 3 rfl) ?_
          refine tf_iconst hx hb dX9_kind_19 ?_
          refine tf_bipush hx hb dX9_kind_20 (by decide) ?_
          refine tf_calli (va_runS (As := [.int (Int32.ofInt x3), .int (Int32.ofInt 0), .int (Int32.ofInt 6)]) (rest := []) ⟨hx, hb, hml, hown, hts⟩ (c_X9_isWithin l g T (x3) ⟨by omega, by omega⟩ (0) ⟨by omega, by omega⟩ (6) ⟨by omega, by omega⟩) ⟨callB_of 3 hts (gw_ws cm_X9_isWithin) rfl rfl rfl (hts _ (tw1 (i := 2) rfl)) (hts _ (tw9 (i := 19) rfl)) hd_X9_isWithin.2 ⟨Nat.le_trans (by decide) hR1, Nat.le_trans (by decide) hR2⟩, hts _ (tw8 (i := 17) rfl)⟩ (tf_preS hk hW trivial) rfl rfl hl.1 rfl (lv_room (Nat.le_of_ble_eq_true rfl)) dX9_kind_22 ⟨Nat.zero_le _, Nat.zero_le _⟩) hW (by decide) (fun z14 H14 locs14 hW hF14 hp14 => ?_)
          have hs15 := tf_keepF hF14 ha0 rfl rfl (by decide) hs9
          rcases hp14 with ⟨rfl, h16, h17⟩ | ⟨rfl, h18⟩
          · refine tf_if_ne (tgt := 30) hx hb ⟨by decide, by decide⟩ dX9_kind_25 (by decide) (fun h19 => ?_) (fun h19 => ?_)
            · refine lv_iload_n hx hb dX9_kind_30 rfl (lv_at hl 3 rfl) ?_
              refine tf_bipush hx hb dX9_kind_31 (by decide) ?_
              refine tf_icmp_ne (tgt := 60) hx hb ⟨by omega, by omega⟩ ⟨by decide, by decide⟩ dX9_kind_33 (by decide) (fun h20 => ?_) (fun h20 => ?_)
              · refine lv_aload_n hx hb dX9_kind_60 rfl (lv_at hl 0 rfl) ?_
                refine tf_get hx hb hts inlX9 hown hK (ci := 9) rfl hW ha0 rfl 2 rfl (by decide) (hts _ fl_X9_23) dX9_kind_61 (fun v21 hv21 hsv21 => ?_)
                obtain ⟨ad22, rfl, had22⟩ := tf_v1 hv21
                refine lv_aload_n hx hb dX9_kind_64 rfl (lv_at hl 0 rfl) ?_
                refine tf_get hx hb hts inlX9 hown hK (ci := 9) rfl hW ha0 rfl 0 rfl (by decide) (hts _ fl_X9_10) dX9_kind_65 (fun v23 hv23 hsv23 => ?_)
                obtain rfl : v23 = .ref ad2 := Option.some.inj (hsv23.symm.trans hs15)
                refine tf_get hx hb hts inlX3 hown hK (ci := 3) rfl hW had2 rfl 0 rfl (by decide) (hts _ fl_X9_79) dX9_kind_68 (fun v24 hv24 hsv24 => ?_)
                obtain ⟨ad25, rfl, had25⟩ := tf_v1 hv24
                refine lv_iload_n hx hb dX9_kind_71 rfl (lv_at hl 1 rfl) ?_
                refine tf_calli (va_runS (As := [.int (Int32.ofInt x1)]) (rest := [.ref ad25, .ref ad22]) ⟨hx, hb, hml, hown, hts⟩ (c_X9_spotOf l g T (x1) ⟨by omega, by omega⟩) ⟨callB_of 1 hts (gw_ws cm_X9_spotOf) rfl rfl rfl (hts _ (tw1 (i := 2) rfl)) (hts _ (tw15 (i := 8) rfl)) hd_X9_spotOf.2 ⟨Nat.le_trans (by decide) hR1, Nat.le_trans (by decide) hR2⟩, hts _ (tw9 (i := 2) rfl)⟩ (tf_preS hk hW trivial) rfl rfl hl.1 rfl (lv_room (Nat.le_of_ble_eq_true rfl)) dX9_kind_72 ⟨Nat.zero_le _, Nat.zero_le _⟩) hW (by decide) (fun z26 H26 locs26 hW hF26 hp26 => ?_)
                have hs27 := tf_keepF hF26 ha0 rfl rfl (by decide) hs15
                have hs28 := tf_keepF hF26 ha0 rfl rfl (by decide) hsv21
                obtain ⟨hp26_0, hp26_1⟩ := hp26
                refine lv_iload_n hx hb dX9_kind_75 rfl (lv_at hl 2 rfl) ?_
                refine tf_callv (va_runV (As := [.ref ad25, .int (Int32.ofInt z26), .int (Int32.ofInt x2)]) (rest := []) ⟨hx, hb, hml, hown, hts⟩ (c_X7_look l g T ad22 had22 ad25 had25 (z26) ⟨by omega, by omega⟩ (x2) ⟨by omega, by omega⟩ hE) (cwV 3 hts gv_X9_183 rfl rfl rfl hd_X7_look ⟨Nat.le_trans (by decide) hR1, Nat.le_trans (by decide) hR2⟩) (tf_preV hk hW had22 (ci := 7) rfl rfl trivial) rfl rfl hl.1 rfl (lv_room (Nat.le_of_ble_eq_true rfl)) dX9_kind_76 ⟨Nat.zero_le _, Nat.zero_le _⟩) hW (by decide) (fun H29 locs29 hW hF29 hp29 => ?_)
                have hs30 := tf_keepF hF29 ha0 rfl rfl (by decide) hs27
                have hs31 := tf_keepF hF29 ha0 rfl rfl (by decide) hs28
                refine lv_aload_n hx hb dX9_kind_79 rfl (lv_at hl 0 rfl) ?_
                refine tf_get hx hb hts inlX9 hown hK (ci := 9) rfl hW ha0 rfl 2 rfl (by decide) (hts _ fl_X9_23) dX9_kind_80 (fun v32 hv32 hsv32 => ?_)
                obtain rfl : v32 = .ref ad22 := Option.some.inj (hsv32.symm.trans hs31)
                refine tf_get hx hb hts inlX7 hown hK (ci := 7) rfl hW had22 rfl 0 rfl (by decide) (hts _ fl_X9_187) dX9_kind_83 (fun v33 hv33 hsv33 => ?_)
                obtain ⟨ad34, rfl, had34⟩ := tf_v1 hv33
                refine lv_iload_n hx hb dX9_kind_86 rfl (lv_at hl 3 rfl) ?_
                refine tf_iald (t0 := 0) hx hb hK hW had34 rfl rfl (by omega) (by omega) dX9_kind_87 (fun v35 hv35 hsv35 => ?_)
                obtain ⟨z36, rfl, hz36⟩ := tf_v0 hv35
                exact tf_reti (z := z36) hx hb hr hlocks hQ hW (show (-2147483648) ≤ (z36) ∧ (z36) ≤ 2147483647 by omega) dX9_kind_88
              · refine lv_aload_n hx hb dX9_kind_36 rfl (lv_at hl 0 rfl) ?_
                refine tf_get hx hb hts inlX9 hown hK (ci := 9) rfl hW ha0 rfl 2 rfl (by decide) (hts _ fl_X9_23) dX9_kind_37 (fun v37 hv37 hsv37 => ?_)
                obtain ⟨ad38, rfl, had38⟩ := tf_v1 hv37
                refine lv_aload_n hx hb dX9_kind_40 rfl (lv_at hl 0 rfl) ?_
                refine tf_get hx hb hts inlX9 hown hK (ci := 9) rfl hW ha0 rfl 0 rfl (by decide) (hts _ fl_X9_10) dX9_kind_41 (fun v39 hv39 hsv39 => ?_)
                obtain rfl : v39 = .ref ad2 := Option.some.inj (hsv39.symm.trans hs15)
                refine lv_aload_n hx hb dX9_kind_44 rfl (lv_at hl 0 rfl) ?_
                refine tf_get hx hb hts inlX9 hown hK (ci := 9) rfl hW ha0 rfl 0 rfl (by decide) (hts _ fl_X9_10) dX9_kind_45 (fun v40 hv40 hsv40 => ?_)
                obtain rfl : v40 = .ref ad2 := Option.some.inj (hsv40.symm.trans hs15)
                refine tf_get hx hb hts inlX3 hown hK (ci := 3) rfl hW had2 rfl 0 rfl (by decide) (hts _ fl_X9_79) dX9_kind_48 (fun v41 hv41 hsv41 => ?_)
                obtain ⟨ad42, rfl, had42⟩ := tf_v1 hv41
                refine lv_iload_n hx hb dX9_kind_51 rfl (lv_at hl 1 rfl) ?_
                refine tf_calli (va_runS (As := [.int (Int32.ofInt x1)]) (rest := [.ref ad42, .ref ad2, .ref ad38]) ⟨hx, hb, hml, hown, hts⟩ (c_X9_spotOf l g T (x1) ⟨by omega, by omega⟩) ⟨callB_of 1 hts (gw_ws cm_X9_spotOf) rfl rfl rfl (hts _ (tw1 (i := 2) rfl)) (hts _ (tw15 (i := 8) rfl)) hd_X9_spotOf.2 ⟨Nat.le_trans (by decide) hR1, Nat.le_trans (by decide) hR2⟩, hts _ (tw9 (i := 2) rfl)⟩ (tf_preS hk hW trivial) rfl rfl hl.1 rfl (lv_room (Nat.le_of_ble_eq_true rfl)) dX9_kind_52 ⟨Nat.zero_le _, Nat.zero_le _⟩) hW (by decide) (fun z43 H43 locs43 hW hF43 hp43 => ?_)
                have hs44 := tf_keepF hF43 ha0 rfl rfl (by decide) hs15
                obtain ⟨hp43_0, hp43_1⟩ := hp43
                refine lv_iload_n hx hb dX9_kind_55 rfl (lv_at hl 2 rfl) ?_
                refine tf_calli (va_runV (As := [.ref ad2, .ref ad42, .int (Int32.ofInt z43), .int (Int32.ofInt x2)]) (rest := []) ⟨hx, hb, hml, hown, hts⟩ (c_X7_quick l g T ad38 had38 ad2 had2 ad42 had42 (z43) ⟨by omega, by omega⟩ (x2) ⟨by omega, by omega⟩ hE) (cwV 4 hts gv_X9_179 rfl rfl rfl hd_X7_quick ⟨Nat.le_trans (by decide) hR1, Nat.le_trans (by decide) hR2⟩) (tf_preV hk hW had38 (ci := 7) rfl rfl trivial) rfl rfl hl.1 rfl (lv_room (Nat.le_of_ble_eq_true rfl)) dX9_kind_56 ⟨Nat.zero_le _, Nat.zero_le _⟩) hW (by decide) (fun z45 H45 locs45 hW hF45 hp45 => ?_)
                have hs46 := tf_keepF hF45 ha0 rfl rfl (by decide) hs44
                obtain ⟨hp45_0, hp45_1⟩ := hp45
                exact tf_reti (z := z45) hx hb hr hlocks hQ hW (show (-2147483648) ≤ (z45) ∧ (z45) ≤ 2147483647 by omega) dX9_kind_59
            · exfalso; omega
          · refine tf_if_ne (tgt := 30) hx hb ⟨by decide, by decide⟩ dX9_kind_25 (by decide) (fun h47 => ?_) (fun h47 => ?_)
            · exfalso; omega
            · refine tf_iconst hx hb dX9_kind_28 ?_
              exact tf_reti (z := (-1)) hx hb hr hlocks hQ hW (show (-2147483648) ≤ ((-1)) ∧ ((-1)) ≤ 2147483647 by omega) dX9_kind_29
      · refine tf_if_eq (tgt := 28) hx hb ⟨by decide, by decide⟩ dX9_kind_15 (by decide) (fun h48 => ?_) (fun h48 => ?_)
        · refine tf_iconst hx hb dX9_kind_28 ?_
          exact tf_reti (z := (-1)) hx hb hr hlocks hQ hW (show (-2147483648) ≤ ((-1)) ∧ ((-1)) ≤ 2147483647 by omega) dX9_kind_29
        · exfalso; omega
  · refine tf_if_eq (tgt := 28) hx hb ⟨by decide, by decide⟩ dX9_kind_8 (by decide) (fun h49 => ?_) (fun h49 => ?_)
    · refine tf_iconst hx hb dX9_kind_28 ?_
      exact tf_reti (z := (-1)) hx hb hr hlocks hQ hW (show (-2147483648) ≤ ((-1)) ∧ ((-1)) ≤ 2147483647 by omega) dX9_kind_29
    · exfalso; omega

abbrev M_X9_above : List (Nat × Nat) := [(0, 0), (4, 0), (24, 5)]
set_option maxHeartbeats 4000000 in
set_option maxRecDepth 100000 in
theorem c_X9_above (l : Launch) (g : tf_G) (T : tf_T) (a0 : Nat) (ha0 : T a0 = some (26, 0)) (x1 : Int) (hp1 : (-2147483648) ≤ x1 ∧ x1 ≤ 2147483647) (x2 : Int) (hp2 : (-2147483648) ≤ x2 ∧ x2 ≤ 2147483647) (hE : tf_E g T) : Met l yX9_above (cd_X9_above :: wsL_law) ({ frames := 6, cells := 0, slots := 0, locals := 159 }) (tf_P g T [.ref a0, .int (Int32.ofInt x1), .int (Int32.ofInt x2)] (fun H => True)) (tf_Qi g M_X9_above T (fun z _ _ => (-2147483648) ≤ z ∧ z ≤ 2147483647)) 0 0 (fun q => tf_B g ≤ q) := by
  refine Met.ofW (cc := cX9_above) (maxL := 3) (ret := (some .int)) (by decide) rfl ?_
  intro p e s m args below meth c s₁ B hml hv
  obtain ⟨hargs, hk, hW0, hB, hpre⟩ := hv
  have hx := B.exec
  have hb := B.bytes
  have hr := B.returns
  have hts : ∀ w ∈ wsL_law, w.before args s = true := fun w h => atoms_spec (ws := cd_X9_above :: wsL_law) B.pre w (List.mem_cons_of_mem _ h)
  have hown : s.vm.findClass RX9 = some m.cls := findClass_of_methodNamed B.named
  have hlocks := B.notSynchronized
  have hK := hk.1
  have hW := tf_n.start (M := M_X9_above) hW0 hB
  obtain ⟨Q, hQ⟩ : ∃ q, q = MQ below (tf_Qi g M_X9_above T (fun z _ _ => (-2147483648) ≤ z ∧ z ≤ 2147483647)) args s 0 0 (fun q => tf_B g ≤ q) := ⟨_, rfl⟩
  rw [← hQ]
  obtain ⟨R, hR⟩ : ∃ q, q = (headSpec (cd_X9_above :: wsL_law) ({ frames := 6, cells := 0, slots := 0, locals := 159 })).room := ⟨_, rfl⟩
  rw [← hR]
  have hR1 : 6 ≤ R.frames := by rw [hR]; exact Nat.le_refl _
  have hR2 : 159 ≤ R.locals := by rw [hR]; exact Nat.le_refl _
  have hR3 : 0 ≤ R.cells := by rw [hR]; exact Nat.le_refl _
  have hR4 : 0 ≤ R.slots := by rw [hR]; exact Nat.le_refl _
  have hin := (name_of_methodNamed B.named B.method).1
  clear hR B
  refine tf_enter (As := [.ref a0, .int (Int32.ofInt x1), .int (Int32.ofInt x2)]) hargs (Nat.le_of_ble_eq_true rfl) (fun ls hl => ?_)
  have hl : lv_has ls 3 [(0, .ref a0), (1, .int (Int32.ofInt x1)), (2, .int (Int32.ofInt x2))] := hl
  refine lv_aload_n hx hb dX9_above_0 rfl (lv_at hl 0 rfl) ?_
  refine tf_get hx hb hts inlX9 hown hK (ci := 9) rfl hW ha0 rfl 0 rfl (by decide) (hts _ fl_X9_10) dX9_above_1 (fun v1 hv1 hsv1 => ?_)
  obtain ⟨ad2, rfl, had2⟩ := tf_v1 hv1
  refine lv_iload_n hx hb dX9_above_4 rfl (lv_at hl 1 rfl) ?_
  refine tf_calli (va_runV (As := [.int (Int32.ofInt x1)]) (rest := []) ⟨hx, hb, hml, hown, hts⟩ (c_X3_isGround l g T ad2 had2 (x1) ⟨by omega, by omega⟩) (cwV 1 hts gv_X9_124 rfl rfl rfl hd_X3_isGround ⟨Nat.le_trans (by decide) hR1, Nat.le_trans (by decide) hR2⟩) (tf_preV hk hW had2 (ci := 3) rfl rfl trivial) rfl rfl hl.1 rfl (lv_room (Nat.le_of_ble_eq_true rfl)) dX9_above_5 ⟨Nat.zero_le _, Nat.zero_le _⟩) hW (by decide) (fun z3 H3 locs3 hW hF3 hp3 => ?_)
  have hs4 := tf_keepF hF3 ha0 rfl rfl (by decide) hsv1
  rcases hp3 with ⟨rfl, h5, h6⟩ | ⟨rfl⟩
  · refine tf_if_eq (tgt := 22) hx hb ⟨by decide, by decide⟩ dX9_above_8 (by decide) (fun h7 => ?_) (fun h7 => ?_)
    · exfalso; omega
    · refine lv_iload_n hx hb dX9_above_11 rfl (lv_at hl 2 rfl) ?_
      refine tf_iconst hx hb dX9_above_12 ?_
      refine tf_sipush hx hb dX9_above_13 (by decide) ?_
      refine tf_calli (va_runS (As := [.int (Int32.ofInt x2), .int (Int32.ofInt 0), .int (Int32.ofInt 9999)]) (rest := []) ⟨hx, hb, hml, hown, hts⟩ (c_X9_isWithin l g T (x2) ⟨by omega, by omega⟩ (0) ⟨by omega, by omega⟩ (9999) ⟨by omega, by omega⟩) ⟨callB_of 3 hts (gw_ws cm_X9_isWithin) rfl rfl rfl (hts _ (tw1 (i := 2) rfl)) (hts _ (tw9 (i := 19) rfl)) hd_X9_isWithin.2 ⟨Nat.le_trans (by decide) hR1, Nat.le_trans (by decide) hR2⟩, hts _ (tw8 (i := 17) rfl)⟩ (tf_preS hk hW trivial) rfl rfl hl.1 rfl (lv_room (Nat.le_of_ble_eq_true rfl)) dX9_above_16 ⟨Nat.zero_le _, Nat.zero_le _⟩) hW (by decide) (fun z8 H8 locs8 hW hF8 hp8 => ?_)
      have hs9 := tf_keepF hF8 ha0 rfl rfl (by decide) hs4
      rcases hp8 with ⟨rfl, h10, h11⟩ | ⟨rfl, h12⟩
      · refine tf_if_ne (tgt := 24) hx hb ⟨by decide, by decide⟩ dX9_above_19 (by decide) (fun h13 => ?_) (fun h13 => ?_)
        · refine lv_aload_n hx hb dX9_above_24 rfl (lv_at hl 0 rfl) ?_
          refine tf_get hx hb hts inlX9 hown hK (ci := 9) rfl hW ha0 rfl 2 rfl (by decide) (hts _ fl_X9_23) dX9_above_25 (fun v14 hv14 hsv14 => ?_)
          obtain ⟨ad15, rfl, had15⟩ := tf_v1 hv14
          refine lv_aload_n hx hb dX9_above_28 rfl (lv_at hl 0 rfl) ?_
          refine tf_get hx hb hts inlX9 hown hK (ci := 9) rfl hW ha0 rfl 0 rfl (by decide) (hts _ fl_X9_10) dX9_above_29 (fun v16 hv16 hsv16 => ?_)
          obtain rfl : v16 = .ref ad2 := Option.some.inj (hsv16.symm.trans hs9)
          refine lv_aload_n hx hb dX9_above_32 rfl (lv_at hl 0 rfl) ?_
          refine tf_get hx hb hts inlX9 hown hK (ci := 9) rfl hW ha0 rfl 0 rfl (by decide) (hts _ fl_X9_10) dX9_above_33 (fun v17 hv17 hsv17 => ?_)
          obtain rfl : v17 = .ref ad2 := Option.some.inj (hsv17.symm.trans hs9)
          refine tf_get hx hb hts inlX3 hown hK (ci := 3) rfl hW had2 rfl 0 rfl (by decide) (hts _ fl_X9_79) dX9_above_36 (fun v18 hv18 hsv18 => ?_)
          obtain ⟨ad19, rfl, had19⟩ := tf_v1 hv18
          refine lv_iload_n hx hb dX9_above_39 rfl (lv_at hl 1 rfl) ?_
          refine tf_calli (va_runS (As := [.int (Int32.ofInt x1)]) (rest := [.ref ad19, .ref ad2, .ref ad15]) ⟨hx, hb, hml, hown, hts⟩ (c_X9_spotOf l g T (x1) ⟨by omega, by omega⟩) ⟨callB_of 1 hts (gw_ws cm_X9_spotOf) rfl rfl rfl (hts _ (tw1 (i := 2) rfl)) (hts _ (tw15 (i := 8) rfl)) hd_X9_spotOf.2 ⟨Nat.le_trans (by decide) hR1, Nat.le_trans (by decide) hR2⟩, hts _ (tw9 (i := 2) rfl)⟩ (tf_preS hk hW trivial) rfl rfl hl.1 rfl (lv_room (Nat.le_of_ble_eq_true rfl)) dX9_above_40 ⟨Nat.zero_le _, Nat.zero_le _⟩) hW (by decide) (fun z20 H20 locs20 hW hF20 hp20 => ?_)
          have hs21 := tf_keepF hF20 ha0 rfl rfl (by decide) hs9
          obtain ⟨hp20_0, hp20_1⟩ := hp20
          refine lv_iload_n hx hb dX9_above_43 rfl (lv_at hl 2 rfl) ?_
          refine tf_calli (va_runV (As := [.ref ad2, .ref ad19, .int (Int32.ofInt z20), .int (Int32.ofInt x2)]) (rest := []) ⟨hx, hb, hml, hown, hts⟩ (c_X7_hoursAbove l g T ad15 had15 ad2 had2 ad19 had19 (z20) ⟨by omega, by omega⟩ (x2) ⟨by omega, by omega⟩ hE) (cwV 4 hts gv_X9_190 rfl rfl rfl hd_X7_hoursAbove ⟨Nat.le_trans (by decide) hR1, Nat.le_trans (by decide) hR2⟩) (tf_preV hk hW had15 (ci := 7) rfl rfl trivial) rfl rfl hl.1 rfl (lv_room (Nat.le_of_ble_eq_true rfl)) dX9_above_44 ⟨Nat.zero_le _, Nat.zero_le _⟩) hW (by decide) (fun z22 H22 locs22 hW hF22 hp22 => ?_)
          have hs23 := tf_keepF hF22 ha0 rfl rfl (by decide) hs21
          obtain ⟨hp22_0, hp22_1⟩ := hp22
          exact tf_reti (z := z22) hx hb hr hlocks hQ hW (show (-2147483648) ≤ (z22) ∧ (z22) ≤ 2147483647 by omega) dX9_above_47
        · exfalso; omega
      · refine tf_if_ne (tgt := 24) hx hb ⟨by decide, by decide⟩ dX9_above_19 (by decide) (fun h24 => ?_) (fun h24 => ?_)
        · exfalso; omega
        · refine tf_iconst hx hb dX9_above_22 ?_
          exact tf_reti (z := (-1)) hx hb hr hlocks hQ hW (show (-2147483648) ≤ ((-1)) ∧ ((-1)) ≤ 2147483647 by omega) dX9_above_23
  · refine tf_if_eq (tgt := 22) hx hb ⟨by decide, by decide⟩ dX9_above_8 (by decide) (fun h25 => ?_) (fun h25 => ?_)
    · refine tf_iconst hx hb dX9_above_22 ?_
      exact tf_reti (z := (-1)) hx hb hr hlocks hQ hW (show (-2147483648) ≤ ((-1)) ∧ ((-1)) ≤ 2147483647 by omega) dX9_above_23
    · exfalso; omega

abbrev M_X9_over : List (Nat × Nat) := [(0, 0), (4, 0), (24, 5)]
set_option maxHeartbeats 4000000 in
set_option maxRecDepth 100000 in
theorem c_X9_over (l : Launch) (g : tf_G) (T : tf_T) (a0 : Nat) (ha0 : T a0 = some (26, 0)) (x1 : Int) (hp1 : (-2147483648) ≤ x1 ∧ x1 ≤ 2147483647) (hE : tf_E g T) : Met l yX9_over (cd_X9_over :: wsL_law) ({ frames := 7, cells := 0, slots := 0, locals := 187 }) (tf_P g T [.ref a0, .int (Int32.ofInt x1)] (fun H => True)) (tf_Qi g M_X9_over T (fun z _ _ => (-2147483648) ≤ z ∧ z ≤ 2147483647)) 0 0 (fun q => tf_B g ≤ q) := by
  refine Met.ofW (cc := cX9_over) (maxL := 3) (ret := (some .int)) (by decide) rfl ?_
  intro p e s m args below meth c s₁ B hml hv
  obtain ⟨hargs, hk, hW0, hB, hpre⟩ := hv
  have hx := B.exec
  have hb := B.bytes
  have hr := B.returns
  have hts : ∀ w ∈ wsL_law, w.before args s = true := fun w h => atoms_spec (ws := cd_X9_over :: wsL_law) B.pre w (List.mem_cons_of_mem _ h)
  have hown : s.vm.findClass RX9 = some m.cls := findClass_of_methodNamed B.named
  have hlocks := B.notSynchronized
  have hK := hk.1
  have hW := tf_n.start (M := M_X9_over) hW0 hB
  obtain ⟨Q, hQ⟩ : ∃ q, q = MQ below (tf_Qi g M_X9_over T (fun z _ _ => (-2147483648) ≤ z ∧ z ≤ 2147483647)) args s 0 0 (fun q => tf_B g ≤ q) := ⟨_, rfl⟩
  rw [← hQ]
  obtain ⟨R, hR⟩ : ∃ q, q = (headSpec (cd_X9_over :: wsL_law) ({ frames := 7, cells := 0, slots := 0, locals := 187 })).room := ⟨_, rfl⟩
  rw [← hR]
  have hR1 : 7 ≤ R.frames := by rw [hR]; exact Nat.le_refl _
  have hR2 : 187 ≤ R.locals := by rw [hR]; exact Nat.le_refl _
  have hR3 : 0 ≤ R.cells := by rw [hR]; exact Nat.le_refl _
  have hR4 : 0 ≤ R.slots := by rw [hR]; exact Nat.le_refl _
  have hin := (name_of_methodNamed B.named B.method).1
  clear hR B
  have j_18 : (-1) ≤ x1 ∧ x1 ≤ 99 → ∀ (H : Heap) (locs : List Loc), tf_n tf_kt g M_X9_over T s.heap T H locs → ∀ (ls : Array Slot), lv_has ls 3 [(0, .ref a0), (1, .int (Int32.ofInt x1))] → W p l e R s m args below meth c H locs 0 0 Q (F0 m 18 ls []) := by
    intro hx1_18 H locs hW  ls hl
    refine lv_aload_n hx hb dX9_over_18 rfl (lv_at hl 0 rfl) ?_
    refine tf_get hx hb hts inlX9 hown hK (ci := 9) rfl hW ha0 rfl 2 rfl (by decide) (hts _ fl_X9_23) dX9_over_19 (fun v1 hv1 hsv1 => ?_)
    obtain ⟨ad2, rfl, had2⟩ := tf_v1 hv1
    refine lv_aload_n hx hb dX9_over_22 rfl (lv_at hl 0 rfl) ?_
    refine tf_get hx hb hts inlX9 hown hK (ci := 9) rfl hW ha0 rfl 0 rfl (by decide) (hts _ fl_X9_10) dX9_over_23 (fun v3 hv3 hsv3 => ?_)
    obtain ⟨ad4, rfl, had4⟩ := tf_v1 hv3
    refine lv_aload_n hx hb dX9_over_26 rfl (lv_at hl 0 rfl) ?_
    refine tf_get hx hb hts inlX9 hown hK (ci := 9) rfl hW ha0 rfl 0 rfl (by decide) (hts _ fl_X9_10) dX9_over_27 (fun v5 hv5 hsv5 => ?_)
    obtain rfl : v5 = .ref ad4 := Option.some.inj (hsv5.symm.trans hsv3)
    refine tf_get hx hb hts inlX3 hown hK (ci := 3) rfl hW had4 rfl 0 rfl (by decide) (hts _ fl_X9_79) dX9_over_30 (fun v6 hv6 hsv6 => ?_)
    obtain ⟨ad7, rfl, had7⟩ := tf_v1 hv6
    refine tf_calli (va_runV (As := [.ref ad4, .ref ad7]) (rest := []) ⟨hx, hb, hml, hown, hts⟩ (c_X7_allOver l g T ad2 had2 ad4 had4 ad7 had7 hE) (cwV 2 hts gv_X9_193 rfl rfl rfl hd_X7_allOver ⟨Nat.le_trans (by decide) hR1, Nat.le_trans (by decide) hR2⟩) (tf_preV hk hW had2 (ci := 7) rfl rfl trivial) rfl rfl hl.1 rfl (lv_room (Nat.le_of_ble_eq_true rfl)) dX9_over_33 ⟨Nat.zero_le _, Nat.zero_le _⟩) hW (by decide) (fun z8 H8 locs8 hW hF8 hp8 => ?_)
    have hs9 := tf_keepF hF8 ha0 rfl rfl (by decide) hsv1
    have hs10 := tf_keepF hF8 ha0 rfl rfl (by decide) hsv3
    obtain ⟨hp8_0, hp8_1⟩ := hp8
    refine lv_istore_n (lv' := [(2, .int (Int32.ofInt z8)), (0, .ref a0), (1, .int (Int32.ofInt x1))]) hx hb dX9_over_36 rfl hl (by decide) rfl (fun ls hl => ?_)
    refine lv_iload_n hx hb dX9_over_37 rfl (lv_at hl 2 rfl) ?_
    refine tf_iconst hx hb dX9_over_38 ?_
    refine tf_icmp_ne (tgt := 46) hx hb ⟨by omega, by omega⟩ ⟨by decide, by decide⟩ dX9_over_39 (by decide) (fun h11 => ?_) (fun h11 => ?_)
    · refine lv_aload_n hx hb dX9_over_46 rfl (lv_at hl 1 rfl) ?_
      refine tf_get hx hb hts inlX9 hown hK (ci := 9) rfl hW ha0 rfl 2 rfl (by decide) (hts _ fl_X9_23) dX9_over_47 (fun v12 hv12 hsv12 => ?_)
      obtain rfl : v12 = .ref ad2 := Option.some.inj (hsv12.symm.trans hs9)
      refine tf_get hx hb hts inlX7 hown hK (ci := 7) rfl hW had2 rfl 1 rfl (by decide) (hts _ fl_X9_197) dX9_over_50 (fun v13 hv13 hsv13 => ?_)
      obtain ⟨ad14, rfl, had14⟩ := tf_v1 hv13
      refine lv_iload_n hx hb dX9_over_53 rfl (lv_at hl 2 rfl) ?_
      refine tf_iald (t0 := 0) hx hb hK hW had14 rfl rfl (by omega) (by omega) dX9_over_54 (fun v15 hv15 hsv15 => ?_)
      obtain ⟨z16, rfl, hz16⟩ := tf_v0 hv15
      exact tf_reti (z := z16) hx hb hr hlocks hQ hW (show (-2147483648) ≤ (z16) ∧ (z16) ≤ 2147483647 by omega) dX9_over_55
    · refine lv_iload_n hx hb dX9_over_42 rfl (lv_at hl 0 rfl) ?_
      refine lv_goto (tgt := 55) hx hb dX9_over_43 (by decide) ?_
      exact tf_reti (z := z8) hx hb hr hlocks hQ hW (show (-2147483648) ≤ (z8) ∧ (z8) ≤ 2147483647 by omega) dX9_over_55
  refine tf_enter (As := [.ref a0, .int (Int32.ofInt x1)]) hargs (Nat.le_of_ble_eq_true rfl) (fun ls hl => ?_)
  have hl : lv_has ls 3 [(0, .ref a0), (1, .int (Int32.ofInt x1))] := hl
  refine lv_iload_n hx hb dX9_over_0 rfl (lv_at hl 1 rfl) ?_
  refine tf_iconst hx hb dX9_over_1 ?_
  refine tf_icmp_eq (tgt := 18) hx hb ⟨by omega, by omega⟩ ⟨by decide, by decide⟩ dX9_over_2 (by decide) (fun h17 => ?_) (fun h17 => ?_)
  · exact j_18 ⟨by omega, by omega⟩ _ _ hW  _ (lv_sub hl [0, 1] rfl)
  · refine lv_aload_n hx hb dX9_over_5 rfl (lv_at hl 0 rfl) ?_
    refine tf_get hx hb hts inlX9 hown hK (ci := 9) rfl hW ha0 rfl 0 rfl (by decide) (hts _ fl_X9_10) dX9_over_6 (fun v18 hv18 hsv18 => ?_)
    obtain ⟨ad19, rfl, had19⟩ := tf_v1 hv18
    refine lv_iload_n hx hb dX9_over_9 rfl (lv_at hl 1 rfl) ?_
    refine tf_calli (va_runV (As := [.int (Int32.ofInt x1)]) (rest := []) ⟨hx, hb, hml, hown, hts⟩ (c_X3_isGround l g T ad19 had19 (x1) ⟨by omega, by omega⟩) (cwV 1 hts gv_X9_124 rfl rfl rfl hd_X3_isGround ⟨Nat.le_trans (by decide) hR1, Nat.le_trans (by decide) hR2⟩) (tf_preV hk hW had19 (ci := 3) rfl rfl trivial) rfl rfl hl.1 rfl (lv_room (Nat.le_of_ble_eq_true rfl)) dX9_over_10 ⟨Nat.zero_le _, Nat.zero_le _⟩) hW (by decide) (fun z20 H20 locs20 hW hF20 hp20 => ?_)
    rcases hp20 with ⟨rfl, h21, h22⟩ | ⟨rfl⟩
    · refine tf_if_ne (tgt := 18) hx hb ⟨by decide, by decide⟩ dX9_over_13 (by decide) (fun h23 => ?_) (fun h23 => ?_)
      · exact j_18 ⟨by omega, by omega⟩ _ _ hW  _ (lv_sub hl [0, 1] rfl)
      · exfalso; omega
    · refine tf_if_ne (tgt := 18) hx hb ⟨by decide, by decide⟩ dX9_over_13 (by decide) (fun h24 => ?_) (fun h24 => ?_)
      · exfalso; omega
      · refine tf_iconst hx hb dX9_over_16 ?_
        exact tf_reti (z := (-1)) hx hb hr hlocks hQ hW (show (-2147483648) ≤ ((-1)) ∧ ((-1)) ≤ 2147483647 by omega) dX9_over_17

abbrev M_X9_keysAhead : List (Nat × Nat) := []
set_option maxHeartbeats 4000000 in
set_option maxRecDepth 100000 in
theorem c_X9_keysAhead (l : Launch) (g : tf_G) (T : tf_T) (a0 : Nat) (ha0 : T a0 = some (26, 0)) (x1 : Int) (hp1 : 0 ≤ x1 ∧ x1 ≤ 99) : Met l yX9_keysAhead (cd_X9_keysAhead :: wsL_law) ({ frames := 1, cells := 0, slots := 0, locals := 24 }) (tf_P g T [.ref a0, .int (Int32.ofInt x1)] (fun H => True)) (tf_Qi g M_X9_keysAhead T (fun z _ _ => (-2147483648) ≤ z ∧ z ≤ 2147483647)) 0 0 (fun q => tf_B g ≤ q) := by
  refine Met.ofW (cc := cX9_keysAhead) (maxL := 4) (ret := (some .int)) (by decide) rfl ?_
  intro p e s m args below meth c s₁ B hml hv
  obtain ⟨hargs, hk, hW0, hB, hpre⟩ := hv
  have hx := B.exec
  have hb := B.bytes
  have hr := B.returns
  have hts : ∀ w ∈ wsL_law, w.before args s = true := fun w h => atoms_spec (ws := cd_X9_keysAhead :: wsL_law) B.pre w (List.mem_cons_of_mem _ h)
  have hown : s.vm.findClass RX9 = some m.cls := findClass_of_methodNamed B.named
  have hlocks := B.notSynchronized
  have hK := hk.1
  have hW := tf_n.start (M := M_X9_keysAhead) hW0 hB
  obtain ⟨Q, hQ⟩ : ∃ q, q = MQ below (tf_Qi g M_X9_keysAhead T (fun z _ _ => (-2147483648) ≤ z ∧ z ≤ 2147483647)) args s 0 0 (fun q => tf_B g ≤ q) := ⟨_, rfl⟩
  rw [← hQ]
  obtain ⟨R, hR⟩ : ∃ q, q = (headSpec (cd_X9_keysAhead :: wsL_law) ({ frames := 1, cells := 0, slots := 0, locals := 24 })).room := ⟨_, rfl⟩
  rw [← hR]
  have hR1 : 1 ≤ R.frames := by rw [hR]; exact Nat.le_refl _
  have hR2 : 24 ≤ R.locals := by rw [hR]; exact Nat.le_refl _
  have hR3 : 0 ≤ R.cells := by rw [hR]; exact Nat.le_refl _
  have hR4 : 0 ≤ R.slots := by rw [hR]; exact Nat.le_refl _
  have hin := (name_of_methodNamed B.named B.method).1
  clear hR B
  have j_4 : ∀ (n_4 : Nat), 0 ≤ x1 ∧ x1 ≤ 99 → ∀ (x2_4 : Int), (-2147483648) ≤ x2_4 ∧ x2_4 ≤ 2147483647 → ∀ (x3_4 : Int), 0 ≤ x3_4 ∧ x3_4 ≤ 100 → (100 - x3_4 + 1 ≤ (n_4 : Int)) → ∀ (H : Heap) (locs : List Loc), tf_n tf_kt g M_X9_keysAhead T s.heap T H locs → ∀ (ls : Array Slot), lv_has ls 4 [(0, .ref a0), (1, .int (Int32.ofInt x1)), (2, .int (Int32.ofInt x2_4)), (3, .int (Int32.ofInt x3_4))] → W p l e R s m args below meth c H locs 0 0 Q (F0 m 4 ls []) := by
    intro n_4
    induction n_4 with
    | zero =>
      intro hx1_4 x2_4 hx2_4 x3_4 hx3_4 hm_4
      exfalso; omega
    | succ n_4 ih_4 =>
      intro hx1_4 x2_4 hx2_4 x3_4 hx3_4 hm_4 H locs hW  ls hl
      have j_48 : 0 ≤ x1 ∧ x1 ≤ 99 → ∀ (x2_48 : Int), (-2147483648) ≤ x2_48 ∧ x2_48 ≤ 2147483647 → 0 ≤ x3_4 ∧ x3_4 ≤ 99 → ∀ (H : Heap) (locs : List Loc), tf_n tf_kt g M_X9_keysAhead T s.heap T H locs → ∀ (ls : Array Slot), lv_has ls 4 [(0, .ref a0), (1, .int (Int32.ofInt x1)), (2, .int (Int32.ofInt x2_48)), (3, .int (Int32.ofInt x3_4))] → W p l e R s m args below meth c H locs 0 0 Q (F0 m 48 ls []) := by
        intro hx1_48 x2_48 hx2_48 hx3_48 H locs hW  ls hl
        refine lv_iinc (v := Int32.ofInt ((x3_4 + 1))) (lv' := [(3, .int (Int32.ofInt ((x3_4 + 1)))), (0, .ref a0), (1, .int (Int32.ofInt x1)), (2, .int (Int32.ofInt x2_48))]) hx hb dX9_keysAhead_48 hl (k := 3) rfl (Int32.ofInt_add _ _).symm (by decide) rfl (fun ls hl => ?_)
        refine lv_goto (tgt := 4) hx hb dX9_keysAhead_51 (by decide) ?_
        exact ih_4 ⟨by omega, by omega⟩ (x2_48) ⟨by omega, by omega⟩ ((x3_4 + 1)) ⟨by omega, by omega⟩ (by omega) _ _ hW  _ (lv_sub hl [1, 2, 3, 0] rfl)
      have j_45 : 0 ≤ x1 ∧ x1 ≤ 99 → (-2147483648) ≤ x2_4 ∧ x2_4 ≤ 2147483647 → 0 ≤ x3_4 ∧ x3_4 ≤ 99 → ∀ (H : Heap) (locs : List Loc), tf_n tf_kt g M_X9_keysAhead T s.heap T H locs → ∀ (ls : Array Slot), lv_has ls 4 [(0, .ref a0), (1, .int (Int32.ofInt x1)), (2, .int (Int32.ofInt x2_4)), (3, .int (Int32.ofInt x3_4))] → W p l e R s m args below meth c H locs 0 0 Q (F0 m 45 ls []) := by
        intro hx1_45 hx2_45 hx3_45 H locs hW  ls hl
        obtain ⟨z1, ez1, hz1⟩ := tf_any (Int32.ofInt (x2_4) + Int32.ofInt 1)
        refine lv_iinc (v := Int32.ofInt (z1)) (lv' := [(2, .int (Int32.ofInt z1)), (0, .ref a0), (1, .int (Int32.ofInt x1)), (3, .int (Int32.ofInt x3_4))]) hx hb dX9_keysAhead_45 hl (k := 2) rfl ez1 (by decide) rfl (fun ls hl => ?_)
        exact j_48 ⟨by omega, by omega⟩ (z1) ⟨by omega, by omega⟩ ⟨by omega, by omega⟩ _ _ hW  _ (lv_sub hl [1, 2, 0, 3] rfl)
      refine lv_iload_n hx hb dX9_keysAhead_4 rfl (lv_at hl 3 rfl) ?_
      refine tf_bipush hx hb dX9_keysAhead_5 (by decide) ?_
      refine tf_icmp_ge (tgt := 54) hx hb ⟨by omega, by omega⟩ ⟨by decide, by decide⟩ dX9_keysAhead_7 (by decide) (fun h2 => ?_) (fun h2 => ?_)
      · refine lv_iload_n hx hb dX9_keysAhead_54 rfl (lv_at hl 2 rfl) ?_
        exact tf_reti (z := x2_4) hx hb hr hlocks hQ hW (show (-2147483648) ≤ (x2_4) ∧ (x2_4) ≤ 2147483647 by omega) dX9_keysAhead_55
      · refine lv_aload_n hx hb dX9_keysAhead_10 rfl (lv_at hl 0 rfl) ?_
        refine tf_get hx hb hts inlX9 hown hK (ci := 9) rfl hW ha0 rfl 5 rfl (by decide) (hts _ fl_X9_41) dX9_keysAhead_11 (fun v3 hv3 hsv3 => ?_)
        obtain ⟨ad4, rfl, had4⟩ := tf_v1 hv3
        refine lv_iload_n hx hb dX9_keysAhead_14 rfl (lv_at hl 3 rfl) ?_
        refine tf_iald (t0 := 0) hx hb hK hW had4 rfl rfl (by omega) (by omega) dX9_keysAhead_15 (fun v5 hv5 hsv5 => ?_)
        obtain ⟨z6, rfl, hz6⟩ := tf_v0 hv5
        refine lv_aload_n hx hb dX9_keysAhead_16 rfl (lv_at hl 0 rfl) ?_
        refine tf_get hx hb hts inlX9 hown hK (ci := 9) rfl hW ha0 rfl 5 rfl (by decide) (hts _ fl_X9_41) dX9_keysAhead_17 (fun v7 hv7 hsv7 => ?_)
        obtain rfl : v7 = .ref ad4 := Option.some.inj (hsv7.symm.trans hsv3)
        refine lv_iload_n hx hb dX9_keysAhead_20 rfl (lv_at hl 1 rfl) ?_
        refine tf_iald (t0 := 0) hx hb hK hW had4 rfl rfl (by omega) (by omega) dX9_keysAhead_21 (fun v8 hv8 hsv8 => ?_)
        obtain ⟨z9, rfl, hz9⟩ := tf_v0 hv8
        refine tf_icmp_gt (tgt := 45) hx hb ⟨by omega, by omega⟩ ⟨by omega, by omega⟩ dX9_keysAhead_22 (by decide) (fun h10 => ?_) (fun h10 => ?_)
        · exact j_45 ⟨by omega, by omega⟩ ⟨by omega, by omega⟩ ⟨by omega, by omega⟩ _ _ hW  _ (lv_sub hl [0, 1, 2, 3] rfl)
        · refine lv_aload_n hx hb dX9_keysAhead_25 rfl (lv_at hl 0 rfl) ?_
          refine tf_get hx hb hts inlX9 hown hK (ci := 9) rfl hW ha0 rfl 5 rfl (by decide) (hts _ fl_X9_41) dX9_keysAhead_26 (fun v11 hv11 hsv11 => ?_)
          obtain rfl : v11 = .ref ad4 := Option.some.inj (hsv11.symm.trans hsv3)
          refine lv_iload_n hx hb dX9_keysAhead_29 rfl (lv_at hl 3 rfl) ?_
          refine tf_iald (t0 := 0) hx hb hK hW had4 rfl rfl (by omega) (by omega) dX9_keysAhead_30 (fun v12 hv12 hsv12 => ?_)
          obtain ⟨z13, rfl, hz13⟩ := tf_v0 hv12
          refine lv_aload_n hx hb dX9_keysAhead_31 rfl (lv_at hl 0 rfl) ?_
          refine tf_get hx hb hts inlX9 hown hK (ci := 9) rfl hW ha0 rfl 5 rfl (by decide) (hts _ fl_X9_41) dX9_keysAhead_32 (fun v14 hv14 hsv14 => ?_)
          obtain rfl : v14 = .ref ad4 := Option.some.inj (hsv14.symm.trans hsv3)
          refine lv_iload_n hx hb dX9_keysAhead_35 rfl (lv_at hl 1 rfl) ?_
          refine tf_iald (t0 := 0) hx hb hK hW had4 rfl rfl (by omega) (by omega) dX9_keysAhead_36 (fun v15 hv15 hsv15 => ?_)
          obtain ⟨z16, rfl, hz16⟩ := tf_v0 hv15
          refine tf_icmp_ne (tgt := 48) hx hb ⟨by omega, by omega⟩ ⟨by omega, by omega⟩ dX9_keysAhead_37 (by decide) (fun h17 => ?_) (fun h17 => ?_)
          · exact j_48 ⟨by omega, by omega⟩ (x2_4) ⟨by omega, by omega⟩ ⟨by omega, by omega⟩ _ _ hW  _ (lv_sub hl [0, 1, 2, 3] rfl)
          · refine lv_iload_n hx hb dX9_keysAhead_40 rfl (lv_at hl 3 rfl) ?_
            refine lv_iload_n hx hb dX9_keysAhead_41 rfl (lv_at hl 1 rfl) ?_
            refine tf_icmp_ge (tgt := 48) hx hb ⟨by omega, by omega⟩ ⟨by omega, by omega⟩ dX9_keysAhead_42 (by decide) (fun h18 => ?_) (fun h18 => ?_)
            · exact j_48 ⟨by omega, by omega⟩ (x2_4) ⟨by omega, by omega⟩ ⟨by omega, by omega⟩ _ _ hW  _ (lv_sub hl [0, 1, 2, 3] rfl)
            · exact j_45 ⟨by omega, by omega⟩ ⟨by omega, by omega⟩ ⟨by omega, by omega⟩ _ _ hW  _ (lv_sub hl [0, 1, 2, 3] rfl)
  refine tf_enter (As := [.ref a0, .int (Int32.ofInt x1)]) hargs (Nat.le_of_ble_eq_true rfl) (fun ls hl => ?_)
  have hl : lv_has ls 4 [(0, .ref a0), (1, .int (Int32.ofInt x1))] := hl
  refine tf_iconst hx hb dX9_keysAhead_0 ?_
  refine lv_istore_n (lv' := [(2, .int (Int32.ofInt 0)), (0, .ref a0), (1, .int (Int32.ofInt x1))]) hx hb dX9_keysAhead_1 rfl hl (by decide) rfl (fun ls hl => ?_)
  refine tf_iconst hx hb dX9_keysAhead_2 ?_
  refine lv_istore_n (lv' := [(3, .int (Int32.ofInt 0)), (2, .int (Int32.ofInt 0)), (0, .ref a0), (1, .int (Int32.ofInt x1))]) hx hb dX9_keysAhead_3 rfl hl (by decide) rfl (fun ls hl => ?_)
  exact j_4 ((100 - 0 + 1 : Int)).toNat ⟨by omega, by omega⟩ (0) ⟨by omega, by omega⟩ (0) ⟨by omega, by omega⟩ (by omega) _ _ hW  _ (lv_sub hl [2, 3, 1, 0] rfl)

abbrev M_X9_greatestKey : List (Nat × Nat) := []
set_option maxHeartbeats 4000000 in
set_option maxRecDepth 100000 in
theorem c_X9_greatestKey (l : Launch) (g : tf_G) (T : tf_T) (a0 : Nat) (ha0 : T a0 = some (26, 0)) (x1 : Int) (hp1 : (-2147483648) ≤ x1 ∧ x1 ≤ 2147483647) : Met l yX9_greatestKey (cd_X9_greatestKey :: wsL_law) ({ frames := 2, cells := 0, slots := 0, locals := 47 }) (tf_P g T [.ref a0, .int (Int32.ofInt x1)] (fun H => True)) (tf_Qi g M_X9_greatestKey T (fun z _ _ => (-2147483648) ≤ z ∧ z ≤ 2147483647)) 0 0 (fun q => tf_B g ≤ q) := by
  refine Met.ofW (cc := cX9_greatestKey) (maxL := 3) (ret := (some .int)) (by decide) rfl ?_
  intro p e s m args below meth c s₁ B hml hv
  obtain ⟨hargs, hk, hW0, hB, hpre⟩ := hv
  have hx := B.exec
  have hb := B.bytes
  have hr := B.returns
  have hts : ∀ w ∈ wsL_law, w.before args s = true := fun w h => atoms_spec (ws := cd_X9_greatestKey :: wsL_law) B.pre w (List.mem_cons_of_mem _ h)
  have hown : s.vm.findClass RX9 = some m.cls := findClass_of_methodNamed B.named
  have hlocks := B.notSynchronized
  have hK := hk.1
  have hW := tf_n.start (M := M_X9_greatestKey) hW0 hB
  obtain ⟨Q, hQ⟩ : ∃ q, q = MQ below (tf_Qi g M_X9_greatestKey T (fun z _ _ => (-2147483648) ≤ z ∧ z ≤ 2147483647)) args s 0 0 (fun q => tf_B g ≤ q) := ⟨_, rfl⟩
  rw [← hQ]
  obtain ⟨R, hR⟩ : ∃ q, q = (headSpec (cd_X9_greatestKey :: wsL_law) ({ frames := 2, cells := 0, slots := 0, locals := 47 })).room := ⟨_, rfl⟩
  rw [← hR]
  have hR1 : 2 ≤ R.frames := by rw [hR]; exact Nat.le_refl _
  have hR2 : 47 ≤ R.locals := by rw [hR]; exact Nat.le_refl _
  have hR3 : 0 ≤ R.cells := by rw [hR]; exact Nat.le_refl _
  have hR4 : 0 ≤ R.slots := by rw [hR]; exact Nat.le_refl _
  have hin := (name_of_methodNamed B.named B.method).1
  clear hR B
  have j_2 : ∀ (n_2 : Nat), (-2147483648) ≤ x1 ∧ x1 ≤ 2147483647 → ∀ (x2_2 : Int), 0 ≤ x2_2 ∧ x2_2 ≤ 100 → (100 - x2_2 + 1 ≤ (n_2 : Int)) → ∀ (H : Heap) (locs : List Loc), tf_n tf_kt g M_X9_greatestKey T s.heap T H locs → ∀ (ls : Array Slot), lv_has ls 3 [(0, .ref a0), (1, .int (Int32.ofInt x1)), (2, .int (Int32.ofInt x2_2))] → W p l e R s m args below meth c H locs 0 0 Q (F0 m 2 ls []) := by
    intro n_2
    induction n_2 with
    | zero =>
      intro hx1_2 x2_2 hx2_2 hm_2
      exfalso; omega
    | succ n_2 ih_2 =>
      intro hx1_2 x2_2 hx2_2 hm_2 H locs hW  ls hl
      have j_30 : (-2147483648) ≤ x1 ∧ x1 ≤ 2147483647 → 0 ≤ x2_2 ∧ x2_2 ≤ 99 → ∀ (H : Heap) (locs : List Loc), tf_n tf_kt g M_X9_greatestKey T s.heap T H locs → ∀ (ls : Array Slot), lv_has ls 3 [(0, .ref a0), (1, .int (Int32.ofInt x1)), (2, .int (Int32.ofInt x2_2))] → W p l e R s m args below meth c H locs 0 0 Q (F0 m 30 ls []) := by
        intro hx1_30 hx2_30 H locs hW  ls hl
        refine lv_iinc (v := Int32.ofInt ((x2_2 + 1))) (lv' := [(2, .int (Int32.ofInt ((x2_2 + 1)))), (0, .ref a0), (1, .int (Int32.ofInt x1))]) hx hb dX9_greatestKey_30 hl (k := 2) rfl (Int32.ofInt_add _ _).symm (by decide) rfl (fun ls hl => ?_)
        refine lv_goto (tgt := 2) hx hb dX9_greatestKey_33 (by decide) ?_
        exact ih_2 ⟨by omega, by omega⟩ ((x2_2 + 1)) ⟨by omega, by omega⟩ (by omega) _ _ hW  _ (lv_sub hl [1, 2, 0] rfl)
      refine lv_iload_n hx hb dX9_greatestKey_2 rfl (lv_at hl 2 rfl) ?_
      refine tf_bipush hx hb dX9_greatestKey_3 (by decide) ?_
      refine tf_icmp_ge (tgt := 36) hx hb ⟨by omega, by omega⟩ ⟨by decide, by decide⟩ dX9_greatestKey_5 (by decide) (fun h1 => ?_) (fun h1 => ?_)
      · refine tf_iconst hx hb dX9_greatestKey_36 ?_
        exact tf_reti (z := (-1)) hx hb hr hlocks hQ hW (show (-2147483648) ≤ ((-1)) ∧ ((-1)) ≤ 2147483647 by omega) dX9_greatestKey_37
      · refine lv_aload_n hx hb dX9_greatestKey_8 rfl (lv_at hl 0 rfl) ?_
        refine tf_get hx hb hts inlX9 hown hK (ci := 9) rfl hW ha0 rfl 5 rfl (by decide) (hts _ fl_X9_41) dX9_greatestKey_9 (fun v2 hv2 hsv2 => ?_)
        obtain ⟨ad3, rfl, had3⟩ := tf_v1 hv2
        refine lv_iload_n hx hb dX9_greatestKey_12 rfl (lv_at hl 2 rfl) ?_
        refine tf_iald (t0 := 0) hx hb hK hW had3 rfl rfl (by omega) (by omega) dX9_greatestKey_13 (fun v4 hv4 hsv4 => ?_)
        obtain ⟨z5, rfl, hz5⟩ := tf_v0 hv4
        refine tf_ldc (z := -1000000001) hx hb hown (hts _ kc_X9_200) (by decide) dX9_greatestKey_14 ?_
        refine tf_icmp_eq (tgt := 30) hx hb ⟨by omega, by omega⟩ ⟨by decide, by decide⟩ dX9_greatestKey_16 (by decide) (fun h6 => ?_) (fun h6 => ?_)
        · exact j_30 ⟨by omega, by omega⟩ ⟨by omega, by omega⟩ _ _ hW  _ (lv_sub hl [0, 1, 2] rfl)
        · refine lv_aload_n hx hb dX9_greatestKey_19 rfl (lv_at hl 0 rfl) ?_
          refine lv_iload_n hx hb dX9_greatestKey_20 rfl (lv_at hl 2 rfl) ?_
          refine tf_calli (va_runV (As := [.int (Int32.ofInt x2_2)]) (rest := []) ⟨hx, hb, hml, hown, hts⟩ (c_X9_keysAhead l g T a0 ha0 (x2_2) ⟨by omega, by omega⟩) (cwV 1 hts gv_X9_204 rfl rfl rfl hd_X9_keysAhead ⟨Nat.le_trans (by decide) hR1, Nat.le_trans (by decide) hR2⟩) (tf_preV hk hW ha0 (ci := 9) rfl rfl trivial) rfl rfl hl.1 rfl (lv_room (Nat.le_of_ble_eq_true rfl)) dX9_greatestKey_21 ⟨Nat.zero_le _, Nat.zero_le _⟩) hW (by decide) (fun z7 H7 locs7 hW hF7 hp7 => ?_)
          obtain ⟨hp7_0, hp7_1⟩ := hp7
          refine lv_iload_n hx hb dX9_greatestKey_24 rfl (lv_at hl 1 rfl) ?_
          refine tf_icmp_ne (tgt := 30) hx hb ⟨by omega, by omega⟩ ⟨by omega, by omega⟩ dX9_greatestKey_25 (by decide) (fun h8 => ?_) (fun h8 => ?_)
          · exact j_30 ⟨by omega, by omega⟩ ⟨by omega, by omega⟩ _ _ hW  _ (lv_sub hl [0, 1, 2] rfl)
          · refine lv_iload_n hx hb dX9_greatestKey_28 rfl (lv_at hl 2 rfl) ?_
            exact tf_reti (z := x2_2) hx hb hr hlocks hQ hW (show (-2147483648) ≤ (x2_2) ∧ (x2_2) ≤ 2147483647 by omega) dX9_greatestKey_29
  refine tf_enter (As := [.ref a0, .int (Int32.ofInt x1)]) hargs (Nat.le_of_ble_eq_true rfl) (fun ls hl => ?_)
  have hl : lv_has ls 3 [(0, .ref a0), (1, .int (Int32.ofInt x1))] := hl
  refine tf_iconst hx hb dX9_greatestKey_0 ?_
  refine lv_istore_n (lv' := [(2, .int (Int32.ofInt 0)), (0, .ref a0), (1, .int (Int32.ofInt x1))]) hx hb dX9_greatestKey_1 rfl hl (by decide) rfl (fun ls hl => ?_)
  exact j_2 ((100 - 0 + 1 : Int)).toNat ⟨by omega, by omega⟩ (0) ⟨by omega, by omega⟩ (by omega) _ _ hW  _ (lv_sub hl [1, 2, 0] rfl)

abbrev M_X9_bad : List (Nat × Nat) := [(0, 0), (4, 0), (24, 5)]
set_option maxHeartbeats 4000000 in
set_option maxRecDepth 100000 in
theorem c_X9_bad (l : Launch) (g : tf_G) (T : tf_T) (a0 : Nat) (ha0 : T a0 = some (26, 0)) (x1 : Int) (hp1 : (-2147483648) ≤ x1 ∧ x1 ≤ 2147483647) (hE : tf_E g T) : Met l yX9_bad (cd_X9_bad :: wsL_law) ({ frames := 7, cells := 0, slots := 0, locals := 187 }) (tf_P g T [.ref a0, .int (Int32.ofInt x1)] (fun H => True)) (tf_Qi g M_X9_bad T (fun z _ _ => (-2147483648) ≤ z ∧ z ≤ 2147483647)) 0 0 (fun q => tf_B g ≤ q) := by
  refine Met.ofW (cc := cX9_bad) (maxL := 5) (ret := (some .int)) (by decide) rfl ?_
  intro p e s m args below meth c s₁ B hml hv
  obtain ⟨hargs, hk, hW0, hB, hpre⟩ := hv
  have hx := B.exec
  have hb := B.bytes
  have hr := B.returns
  have hts : ∀ w ∈ wsL_law, w.before args s = true := fun w h => atoms_spec (ws := cd_X9_bad :: wsL_law) B.pre w (List.mem_cons_of_mem _ h)
  have hown : s.vm.findClass RX9 = some m.cls := findClass_of_methodNamed B.named
  have hlocks := B.notSynchronized
  have hK := hk.1
  have hW := tf_n.start (M := M_X9_bad) hW0 hB
  obtain ⟨Q, hQ⟩ : ∃ q, q = MQ below (tf_Qi g M_X9_bad T (fun z _ _ => (-2147483648) ≤ z ∧ z ≤ 2147483647)) args s 0 0 (fun q => tf_B g ≤ q) := ⟨_, rfl⟩
  rw [← hQ]
  obtain ⟨R, hR⟩ : ∃ q, q = (headSpec (cd_X9_bad :: wsL_law) ({ frames := 7, cells := 0, slots := 0, locals := 187 })).room := ⟨_, rfl⟩
  rw [← hR]
  have hR1 : 7 ≤ R.frames := by rw [hR]; exact Nat.le_refl _
  have hR2 : 187 ≤ R.locals := by rw [hR]; exact Nat.le_refl _
  have hR3 : 0 ≤ R.cells := by rw [hR]; exact Nat.le_refl _
  have hR4 : 0 ≤ R.slots := by rw [hR]; exact Nat.le_refl _
  have hin := (name_of_methodNamed B.named B.method).1
  clear hR B
  have j_23 : ∀ (n_23 : Nat), (-2147483648) ≤ x1 ∧ x1 ≤ 2147483647 → ∀ (x2_23 : Int), (-2147483648) ≤ x2_23 ∧ x2_23 ≤ 2147483647 → ∀ (x3_23 : Int), 0 ≤ x3_23 ∧ x3_23 ≤ 100 → (100 - x3_23 + 1 ≤ (n_23 : Int)) → ∀ (H : Heap) (locs : List Loc), tf_n tf_kt g M_X9_bad T s.heap T H locs → ∀ (ls : Array Slot), lv_has ls 5 [(0, .ref a0), (1, .int (Int32.ofInt x1)), (2, .int (Int32.ofInt x2_23)), (3, .int (Int32.ofInt x3_23))] → W p l e R s m args below meth c H locs 0 0 Q (F0 m 23 ls []) := by
    intro n_23
    induction n_23 with
    | zero =>
      intro hx1_23 x2_23 hx2_23 x3_23 hx3_23 hm_23
      exfalso; omega
    | succ n_23 ih_23 =>
      intro hx1_23 x2_23 hx2_23 x3_23 hx3_23 hm_23 H locs hW  ls hl
      have j_69 : (-2147483648) ≤ x1 ∧ x1 ≤ 2147483647 → 0 ≤ x3_23 ∧ x3_23 ≤ 99 → (-2147483648) ≤ x2_23 ∧ x2_23 ≤ 2147483647 → ∀ (y1_69 : Int), 0 ≤ y1_69 ∧ y1_69 ≤ 1 → ∀ (H : Heap) (locs : List Loc), tf_n tf_kt g M_X9_bad T s.heap T H locs → ∀ (ls : Array Slot), lv_has ls 5 [(0, .ref a0), (1, .int (Int32.ofInt x1)), (3, .int (Int32.ofInt x3_23))] → W p l e R s m args below meth c H locs 0 0 Q (F0 m 69 ls [.int (Int32.ofInt y1_69), .int (Int32.ofInt x2_23)]) := by
        intro hx1_69 hx3_69 hy0_69 y1_69 hy1_69 H locs hW  ls hl
        refine tf_iadd_any hx hb dX9_bad_69 (fun z1 hz1 => ?_)
        refine lv_istore_n (lv' := [(2, .int (Int32.ofInt z1)), (0, .ref a0), (1, .int (Int32.ofInt x1)), (3, .int (Int32.ofInt x3_23))]) hx hb dX9_bad_70 rfl hl (by decide) rfl (fun ls hl => ?_)
        refine lv_iinc (v := Int32.ofInt ((x3_23 + 1))) (lv' := [(3, .int (Int32.ofInt ((x3_23 + 1)))), (2, .int (Int32.ofInt z1)), (0, .ref a0), (1, .int (Int32.ofInt x1))]) hx hb dX9_bad_71 hl (k := 3) rfl (Int32.ofInt_add _ _).symm (by decide) rfl (fun ls hl => ?_)
        refine lv_goto (tgt := 23) hx hb dX9_bad_74 (by decide) ?_
        exact ih_23 ⟨by omega, by omega⟩ (z1) ⟨by omega, by omega⟩ ((x3_23 + 1)) ⟨by omega, by omega⟩ (by omega) _ _ hW  _ (lv_sub hl [2, 3, 1, 0] rfl)
      have j_57 : (-2147483648) ≤ x1 ∧ x1 ≤ 2147483647 → (-2147483648) ≤ x2_23 ∧ x2_23 ≤ 2147483647 → 0 ≤ x3_23 ∧ x3_23 ≤ 99 → ∀ (x4_57 : Int), (-2147483648) ≤ x4_57 ∧ x4_57 ≤ 2147483647 → ∀ (b0_57 : Nat), T b0_57 = some (0, 100) → 0 ≤ x3_23 ∧ x3_23 ≤ 99 → ∀ (y2_57 : Int), (-1000000001) ≤ y2_57 ∧ y2_57 ≤ 2147483647 → ∀ (H : Heap) (locs : List Loc), tf_n tf_kt g M_X9_bad T s.heap T H locs → ∀ (ls : Array Slot), lv_has ls 5 [(0, .ref a0), (1, .int (Int32.ofInt x1)), (2, .int (Int32.ofInt x2_23)), (3, .int (Int32.ofInt x3_23)), (4, .int (Int32.ofInt x4_57))] → W p l e R s m args below meth c H locs 0 0 Q (F0 m 57 ls [.int (Int32.ofInt y2_57), .int (Int32.ofInt x3_23), .ref b0_57]) := by
        intro hx1_57 hx2_57 hx3_57 x4_57 hx4_57 b0_57 hb0_57 hy1_57 y2_57 hy2_57 H locs hW  ls hl
        refine tf_iast (t0 := 0) hx hb hK hW hb0_57 rfl rfl (by omega) (by omega) (by decide) (tf_u0 (by omega) (by omega)) dX9_bad_57 (fun H2 locs2 hW hs2 ht2 hq2 => ?_)
        refine lv_iload_n hx hb dX9_bad_58 rfl (lv_at hl 2 rfl) ?_
        refine lv_iload hx hb dX9_bad_59 (lv_at hl 4 rfl) ?_
        refine tf_if_le (tgt := 68) hx hb ⟨by omega, by omega⟩ dX9_bad_61 (by decide) (fun h3 => ?_) (fun h3 => ?_)
        · refine tf_iconst hx hb dX9_bad_68 ?_
          exact j_69 ⟨by omega, by omega⟩ ⟨by omega, by omega⟩ ⟨by omega, by omega⟩ (0) ⟨by omega, by omega⟩ _ _ hW  _ (lv_sub hl [0, 1, 3] rfl)
        · refine tf_iconst hx hb dX9_bad_64 ?_
          refine lv_goto (tgt := 69) hx hb dX9_bad_65 (by decide) ?_
          exact j_69 ⟨by omega, by omega⟩ ⟨by omega, by omega⟩ ⟨by omega, by omega⟩ (1) ⟨by omega, by omega⟩ _ _ hW  _ (lv_sub hl [0, 1, 3] rfl)
      refine lv_iload_n hx hb dX9_bad_23 rfl (lv_at hl 3 rfl) ?_
      refine tf_bipush hx hb dX9_bad_24 (by decide) ?_
      refine tf_icmp_ge (tgt := 77) hx hb ⟨by omega, by omega⟩ ⟨by decide, by decide⟩ dX9_bad_26 (by decide) (fun h4 => ?_) (fun h4 => ?_)
      · refine lv_iload_n hx hb dX9_bad_77 rfl (lv_at hl 1 rfl) ?_
        refine tf_iconst hx hb dX9_bad_78 ?_
        refine tf_icmp_ne (tgt := 86) hx hb ⟨by omega, by omega⟩ ⟨by decide, by decide⟩ dX9_bad_79 (by decide) (fun h5 => ?_) (fun h5 => ?_)
        · refine lv_aload_n hx hb dX9_bad_86 rfl (lv_at hl 0 rfl) ?_
          refine lv_iload_n hx hb dX9_bad_87 rfl (lv_at hl 1 rfl) ?_
          refine tf_calli (va_runV (As := [.int (Int32.ofInt x1)]) (rest := []) ⟨hx, hb, hml, hown, hts⟩ (c_X9_greatestKey l g T a0 ha0 (x1) ⟨by omega, by omega⟩) (cwV 1 hts gv_X9_201 rfl rfl rfl hd_X9_greatestKey ⟨Nat.le_trans (by decide) hR1, Nat.le_trans (by decide) hR2⟩) (tf_preV hk hW ha0 (ci := 9) rfl rfl trivial) rfl rfl hl.1 rfl (lv_room (Nat.le_of_ble_eq_true rfl)) dX9_bad_88 ⟨Nat.zero_le _, Nat.zero_le _⟩) hW (by decide) (fun z6 H6 locs6 hW hF6 hp6 => ?_)
          obtain ⟨hp6_0, hp6_1⟩ := hp6
          exact tf_reti (z := z6) hx hb hr hlocks hQ hW (show (-2147483648) ≤ (z6) ∧ (z6) ≤ 2147483647 by omega) dX9_bad_91
        · refine lv_iload_n hx hb dX9_bad_82 rfl (lv_at hl 2 rfl) ?_
          refine lv_goto (tgt := 91) hx hb dX9_bad_83 (by decide) ?_
          exact tf_reti (z := x2_23) hx hb hr hlocks hQ hW (show (-2147483648) ≤ (x2_23) ∧ (x2_23) ≤ 2147483647 by omega) dX9_bad_91
      · refine lv_aload_n hx hb dX9_bad_29 rfl (lv_at hl 0 rfl) ?_
        refine tf_get hx hb hts inlX9 hown hK (ci := 9) rfl hW ha0 rfl 2 rfl (by decide) (hts _ fl_X9_23) dX9_bad_30 (fun v7 hv7 hsv7 => ?_)
        obtain ⟨ad8, rfl, had8⟩ := tf_v1 hv7
        refine tf_get hx hb hts inlX7 hown hK (ci := 7) rfl hW had8 rfl 1 rfl (by decide) (hts _ fl_X9_197) dX9_bad_33 (fun v9 hv9 hsv9 => ?_)
        obtain ⟨ad10, rfl, had10⟩ := tf_v1 hv9
        refine lv_iload_n hx hb dX9_bad_36 rfl (lv_at hl 3 rfl) ?_
        refine tf_iald (t0 := 0) hx hb hK hW had10 rfl rfl (by omega) (by omega) dX9_bad_37 (fun v11 hv11 hsv11 => ?_)
        obtain ⟨z12, rfl, hz12⟩ := tf_v0 hv11
        refine lv_istore (lv' := [(4, .int (Int32.ofInt z12)), (0, .ref a0), (1, .int (Int32.ofInt x1)), (2, .int (Int32.ofInt x2_23)), (3, .int (Int32.ofInt x3_23))]) hx hb dX9_bad_38 hl (by decide) rfl (fun ls hl => ?_)
        refine lv_aload_n hx hb dX9_bad_40 rfl (lv_at hl 1 rfl) ?_
        refine tf_get hx hb hts inlX9 hown hK (ci := 9) rfl hW ha0 rfl 5 rfl (by decide) (hts _ fl_X9_41) dX9_bad_41 (fun v13 hv13 hsv13 => ?_)
        obtain ⟨ad14, rfl, had14⟩ := tf_v1 hv13
        refine lv_iload_n hx hb dX9_bad_44 rfl (lv_at hl 4 rfl) ?_
        refine lv_iload hx hb dX9_bad_45 (lv_at hl 0 rfl) ?_
        refine tf_if_le (tgt := 55) hx hb ⟨by omega, by omega⟩ dX9_bad_47 (by decide) (fun h15 => ?_) (fun h15 => ?_)
        · refine tf_ldc (z := -1000000001) hx hb hown (hts _ kc_X9_200) (by decide) dX9_bad_55 ?_
          exact j_57 ⟨by omega, by omega⟩ ⟨by omega, by omega⟩ ⟨by omega, by omega⟩ (z12) ⟨by omega, by omega⟩ ad14 had14 ⟨by omega, by omega⟩ ((-1000000001)) ⟨by omega, by omega⟩ _ _ hW  _ (lv_sub hl [1, 2, 3, 4, 0] rfl)
        · refine lv_iload hx hb dX9_bad_50 (lv_at hl 0 rfl) ?_
          refine lv_goto (tgt := 57) hx hb dX9_bad_52 (by decide) ?_
          exact j_57 ⟨by omega, by omega⟩ ⟨by omega, by omega⟩ ⟨by omega, by omega⟩ (z12) ⟨by omega, by omega⟩ ad14 had14 ⟨by omega, by omega⟩ (z12) ⟨by omega, by omega⟩ _ _ hW  _ (lv_sub hl [1, 2, 3, 4, 0] rfl)
  refine tf_enter (As := [.ref a0, .int (Int32.ofInt x1)]) hargs (Nat.le_of_ble_eq_true rfl) (fun ls hl => ?_)
  have hl : lv_has ls 5 [(0, .ref a0), (1, .int (Int32.ofInt x1))] := hl
  refine lv_aload_n hx hb dX9_bad_0 rfl (lv_at hl 0 rfl) ?_
  refine tf_get hx hb hts inlX9 hown hK (ci := 9) rfl hW ha0 rfl 2 rfl (by decide) (hts _ fl_X9_23) dX9_bad_1 (fun v16 hv16 hsv16 => ?_)
  obtain ⟨ad17, rfl, had17⟩ := tf_v1 hv16
  refine lv_aload_n hx hb dX9_bad_4 rfl (lv_at hl 0 rfl) ?_
  refine tf_get hx hb hts inlX9 hown hK (ci := 9) rfl hW ha0 rfl 0 rfl (by decide) (hts _ fl_X9_10) dX9_bad_5 (fun v18 hv18 hsv18 => ?_)
  obtain ⟨ad19, rfl, had19⟩ := tf_v1 hv18
  refine lv_aload_n hx hb dX9_bad_8 rfl (lv_at hl 0 rfl) ?_
  refine tf_get hx hb hts inlX9 hown hK (ci := 9) rfl hW ha0 rfl 0 rfl (by decide) (hts _ fl_X9_10) dX9_bad_9 (fun v20 hv20 hsv20 => ?_)
  obtain rfl : v20 = .ref ad19 := Option.some.inj (hsv20.symm.trans hsv18)
  refine tf_get hx hb hts inlX3 hown hK (ci := 3) rfl hW had19 rfl 0 rfl (by decide) (hts _ fl_X9_79) dX9_bad_12 (fun v21 hv21 hsv21 => ?_)
  obtain ⟨ad22, rfl, had22⟩ := tf_v1 hv21
  refine tf_calli (va_runV (As := [.ref ad19, .ref ad22]) (rest := []) ⟨hx, hb, hml, hown, hts⟩ (c_X7_allOver l g T ad17 had17 ad19 had19 ad22 had22 hE) (cwV 2 hts gv_X9_193 rfl rfl rfl hd_X7_allOver ⟨Nat.le_trans (by decide) hR1, Nat.le_trans (by decide) hR2⟩) (tf_preV hk hW had17 (ci := 7) rfl rfl trivial) rfl rfl hl.1 rfl (lv_room (Nat.le_of_ble_eq_true rfl)) dX9_bad_15 ⟨Nat.zero_le _, Nat.zero_le _⟩) hW (by decide) (fun z23 H23 locs23 hW hF23 hp23 => ?_)
  have hs24 := tf_keepF hF23 ha0 rfl rfl (by decide) hsv18
  obtain ⟨hp23_0, hp23_1⟩ := hp23
  refine lv_pop hx hb dX9_bad_18 rfl ?_
  refine tf_iconst hx hb dX9_bad_19 ?_
  refine lv_istore_n (lv' := [(2, .int (Int32.ofInt 0)), (0, .ref a0), (1, .int (Int32.ofInt x1))]) hx hb dX9_bad_20 rfl hl (by decide) rfl (fun ls hl => ?_)
  refine tf_iconst hx hb dX9_bad_21 ?_
  refine lv_istore_n (lv' := [(3, .int (Int32.ofInt 0)), (2, .int (Int32.ofInt 0)), (0, .ref a0), (1, .int (Int32.ofInt x1))]) hx hb dX9_bad_22 rfl hl (by decide) rfl (fun ls hl => ?_)
  exact j_23 ((100 - 0 + 1 : Int)).toNat ⟨by omega, by omega⟩ (0) ⟨by omega, by omega⟩ (0) ⟨by omega, by omega⟩ (by omega) _ _ hW  _ (lv_sub hl [2, 3, 1, 0] rfl)

abbrev M_X9_kinds : List (Nat × Nat) := [(0, 0)]
set_option maxHeartbeats 4000000 in
set_option maxRecDepth 100000 in
theorem c_X9_kinds (l : Launch) (g : tf_G) (T : tf_T) (a0 : Nat) (ha0 : T a0 = some (26, 0)) (x1 : Int) (hp1 : (-2147483648) ≤ x1 ∧ x1 ≤ 2147483647) (x2 : Int) (hp2 : (-2147483648) ≤ x2 ∧ x2 ≤ 2147483647) (hE : tf_E g T) : Met l yX9_kinds (cd_X9_kinds :: wsL_law) ({ frames := 4, cells := 0, slots := 0, locals := 86 }) (tf_P g T [.ref a0, .int (Int32.ofInt x1), .int (Int32.ofInt x2)] (fun H => True)) (tf_Qi g M_X9_kinds T (fun z _ _ => (-2147483648) ≤ z ∧ z ≤ 2147483647)) 0 0 (fun q => tf_B g ≤ q) := by
  refine Met.ofW (cc := cX9_kinds) (maxL := 5) (ret := (some .int)) (by decide) rfl ?_
  intro p e s m args below meth c s₁ B hml hv
  obtain ⟨hargs, hk, hW0, hB, hpre⟩ := hv
  have hx := B.exec
  have hb := B.bytes
  have hr := B.returns
  have hts : ∀ w ∈ wsL_law, w.before args s = true := fun w h => atoms_spec (ws := cd_X9_kinds :: wsL_law) B.pre w (List.mem_cons_of_mem _ h)
  have hown : s.vm.findClass RX9 = some m.cls := findClass_of_methodNamed B.named
  have hlocks := B.notSynchronized
  have hK := hk.1
  have hW := tf_n.start (M := M_X9_kinds) hW0 hB
  obtain ⟨Q, hQ⟩ : ∃ q, q = MQ below (tf_Qi g M_X9_kinds T (fun z _ _ => (-2147483648) ≤ z ∧ z ≤ 2147483647)) args s 0 0 (fun q => tf_B g ≤ q) := ⟨_, rfl⟩
  rw [← hQ]
  obtain ⟨R, hR⟩ : ∃ q, q = (headSpec (cd_X9_kinds :: wsL_law) ({ frames := 4, cells := 0, slots := 0, locals := 86 })).room := ⟨_, rfl⟩
  rw [← hR]
  have hR1 : 4 ≤ R.frames := by rw [hR]; exact Nat.le_refl _
  have hR2 : 86 ≤ R.locals := by rw [hR]; exact Nat.le_refl _
  have hR3 : 0 ≤ R.cells := by rw [hR]; exact Nat.le_refl _
  have hR4 : 0 ≤ R.slots := by rw [hR]; exact Nat.le_refl _
  have hin := (name_of_methodNamed B.named B.method).1
  clear hR B
  have j_23 : ∀ (n_23 : Nat), 0 ≤ x1 ∧ x1 ≤ 4 → 0 ≤ x2 ∧ x2 ≤ 3 → ∀ (x3_23 : Int), (-2147483648) ≤ x3_23 ∧ x3_23 ≤ 2147483647 → ∀ (x4_23 : Int), 0 ≤ x4_23 ∧ x4_23 ≤ 100 → (100 - x4_23 + 1 ≤ (n_23 : Int)) → ∀ (H : Heap) (locs : List Loc), tf_n tf_kt g M_X9_kinds T s.heap T H locs → ∀ (ls : Array Slot), lv_has ls 5 [(0, .ref a0), (1, .int (Int32.ofInt x1)), (2, .int (Int32.ofInt x2)), (3, .int (Int32.ofInt x3_23)), (4, .int (Int32.ofInt x4_23))] → W p l e R s m args below meth c H locs 0 0 Q (F0 m 23 ls []) := by
    intro n_23
    induction n_23 with
    | zero =>
      intro hx1_23 hx2_23 x3_23 hx3_23 x4_23 hx4_23 hm_23
      exfalso; omega
    | succ n_23 ih_23 =>
      intro hx1_23 hx2_23 x3_23 hx3_23 x4_23 hx4_23 hm_23 H locs hW  ls hl
      have j_83 : 0 ≤ x1 ∧ x1 ≤ 4 → 0 ≤ x2 ∧ x2 ≤ 3 → ∀ (x3_83 : Int), (-2147483648) ≤ x3_83 ∧ x3_83 ≤ 2147483647 → 0 ≤ x4_23 ∧ x4_23 ≤ 99 → ∀ (H : Heap) (locs : List Loc), tf_n tf_kt g M_X9_kinds T s.heap T H locs → ∀ (ls : Array Slot), lv_has ls 5 [(0, .ref a0), (1, .int (Int32.ofInt x1)), (2, .int (Int32.ofInt x2)), (3, .int (Int32.ofInt x3_83)), (4, .int (Int32.ofInt x4_23))] → W p l e R s m args below meth c H locs 0 0 Q (F0 m 83 ls []) := by
        intro hx1_83 hx2_83 x3_83 hx3_83 hx4_83 H locs hW  ls hl
        refine lv_iinc (v := Int32.ofInt ((x4_23 + 1))) (lv' := [(4, .int (Int32.ofInt ((x4_23 + 1)))), (0, .ref a0), (1, .int (Int32.ofInt x1)), (2, .int (Int32.ofInt x2)), (3, .int (Int32.ofInt x3_83))]) hx hb dX9_kinds_83 hl (k := 4) rfl (Int32.ofInt_add _ _).symm (by decide) rfl (fun ls hl => ?_)
        refine lv_goto (tgt := 23) hx hb dX9_kinds_86 (by decide) ?_
        exact ih_23 ⟨by omega, by omega⟩ ⟨by omega, by omega⟩ (x3_83) ⟨by omega, by omega⟩ ((x4_23 + 1)) ⟨by omega, by omega⟩ (by omega) _ _ hW  _ (lv_sub hl [1, 2, 3, 4, 0] rfl)
      have j_81 : 0 ≤ x1 ∧ x1 ≤ 4 → 0 ≤ x2 ∧ x2 ≤ 3 → 0 ≤ x4_23 ∧ x4_23 ≤ 99 → (-2147483648) ≤ x3_23 ∧ x3_23 ≤ 2147483647 → ∀ (y1_81 : Int), 0 ≤ y1_81 ∧ y1_81 ≤ 1 → ∀ (H : Heap) (locs : List Loc), tf_n tf_kt g M_X9_kinds T s.heap T H locs → ∀ (ls : Array Slot), lv_has ls 5 [(0, .ref a0), (1, .int (Int32.ofInt x1)), (2, .int (Int32.ofInt x2)), (4, .int (Int32.ofInt x4_23))] → W p l e R s m args below meth c H locs 0 0 Q (F0 m 81 ls [.int (Int32.ofInt y1_81), .int (Int32.ofInt x3_23)]) := by
        intro hx1_81 hx2_81 hx4_81 hy0_81 y1_81 hy1_81 H locs hW  ls hl
        refine tf_iadd_any hx hb dX9_kinds_81 (fun z1 hz1 => ?_)
        refine lv_istore_n (lv' := [(3, .int (Int32.ofInt z1)), (0, .ref a0), (1, .int (Int32.ofInt x1)), (2, .int (Int32.ofInt x2)), (4, .int (Int32.ofInt x4_23))]) hx hb dX9_kinds_82 rfl hl (by decide) rfl (fun ls hl => ?_)
        exact j_83 ⟨by omega, by omega⟩ ⟨by omega, by omega⟩ (z1) ⟨by omega, by omega⟩ ⟨by omega, by omega⟩ _ _ hW  _ (lv_sub hl [1, 2, 3, 0, 4] rfl)
      refine lv_iload hx hb dX9_kinds_23 (lv_at hl 4 rfl) ?_
      refine tf_bipush hx hb dX9_kinds_25 (by decide) ?_
      refine tf_icmp_ge (tgt := 89) hx hb ⟨by omega, by omega⟩ ⟨by decide, by decide⟩ dX9_kinds_27 (by decide) (fun h2 => ?_) (fun h2 => ?_)
      · refine lv_iload_n hx hb dX9_kinds_89 rfl (lv_at hl 3 rfl) ?_
        exact tf_reti (z := x3_23) hx hb hr hlocks hQ hW (show (-2147483648) ≤ (x3_23) ∧ (x3_23) ≤ 2147483647 by omega) dX9_kinds_90
      · refine lv_aload_n hx hb dX9_kinds_30 rfl (lv_at hl 0 rfl) ?_
        refine tf_get hx hb hts inlX9 hown hK (ci := 9) rfl hW ha0 rfl 0 rfl (by decide) (hts _ fl_X9_10) dX9_kinds_31 (fun v3 hv3 hsv3 => ?_)
        obtain ⟨ad4, rfl, had4⟩ := tf_v1 hv3
        refine lv_iload hx hb dX9_kinds_34 (lv_at hl 4 rfl) ?_
        refine tf_calli (va_runV (As := [.int (Int32.ofInt x4_23)]) (rest := []) ⟨hx, hb, hml, hown, hts⟩ (c_X3_isGround l g T ad4 had4 (x4_23) ⟨by omega, by omega⟩) (cwV 1 hts gv_X9_124 rfl rfl rfl hd_X3_isGround ⟨Nat.le_trans (by decide) hR1, Nat.le_trans (by decide) hR2⟩) (tf_preV hk hW had4 (ci := 3) rfl rfl trivial) rfl rfl hl.1 rfl (lv_room (Nat.le_of_ble_eq_true rfl)) dX9_kinds_36 ⟨Nat.zero_le _, Nat.zero_le _⟩) hW (by decide) (fun z5 H5 locs5 hW hF5 hp5 => ?_)
        have hs6 := tf_keepF hF5 ha0 rfl rfl (by decide) hsv3
        rcases hp5 with ⟨rfl, h7, h8⟩ | ⟨rfl⟩
        · refine tf_if_eq (tgt := 83) hx hb ⟨by decide, by decide⟩ dX9_kinds_39 (by decide) (fun h9 => ?_) (fun h9 => ?_)
          · exfalso; omega
          · refine lv_aload_n hx hb dX9_kinds_42 rfl (lv_at hl 0 rfl) ?_
            refine tf_get hx hb hts inlX9 hown hK (ci := 9) rfl hW ha0 rfl 2 rfl (by decide) (hts _ fl_X9_23) dX9_kinds_43 (fun v10 hv10 hsv10 => ?_)
            obtain ⟨ad11, rfl, had11⟩ := tf_v1 hv10
            refine lv_aload_n hx hb dX9_kinds_46 rfl (lv_at hl 0 rfl) ?_
            refine tf_get hx hb hts inlX9 hown hK (ci := 9) rfl hW ha0 rfl 0 rfl (by decide) (hts _ fl_X9_10) dX9_kinds_47 (fun v12 hv12 hsv12 => ?_)
            obtain rfl : v12 = .ref ad4 := Option.some.inj (hsv12.symm.trans hs6)
            refine tf_get hx hb hts inlX3 hown hK (ci := 3) rfl hW had4 rfl 0 rfl (by decide) (hts _ fl_X9_79) dX9_kinds_50 (fun v13 hv13 hsv13 => ?_)
            obtain ⟨ad14, rfl, had14⟩ := tf_v1 hv13
            refine lv_iload hx hb dX9_kinds_53 (lv_at hl 4 rfl) ?_
            refine tf_calli (va_runS (As := [.int (Int32.ofInt x4_23)]) (rest := [.ref ad14, .ref ad11]) ⟨hx, hb, hml, hown, hts⟩ (c_X9_spotOf l g T (x4_23) ⟨by omega, by omega⟩) ⟨callB_of 1 hts (gw_ws cm_X9_spotOf) rfl rfl rfl (hts _ (tw1 (i := 2) rfl)) (hts _ (tw15 (i := 8) rfl)) hd_X9_spotOf.2 ⟨Nat.le_trans (by decide) hR1, Nat.le_trans (by decide) hR2⟩, hts _ (tw9 (i := 2) rfl)⟩ (tf_preS hk hW trivial) rfl rfl hl.1 rfl (lv_room (Nat.le_of_ble_eq_true rfl)) dX9_kinds_55 ⟨Nat.zero_le _, Nat.zero_le _⟩) hW (by decide) (fun z15 H15 locs15 hW hF15 hp15 => ?_)
            have hs16 := tf_keepF hF15 ha0 rfl rfl (by decide) hs6
            have hs17 := tf_keepF hF15 ha0 rfl rfl (by decide) hsv10
            obtain ⟨hp15_0, hp15_1⟩ := hp15
            refine lv_iload_n hx hb dX9_kinds_58 rfl (lv_at hl 2 rfl) ?_
            refine tf_callv (va_runV (As := [.ref ad14, .int (Int32.ofInt z15), .int (Int32.ofInt x2)]) (rest := []) ⟨hx, hb, hml, hown, hts⟩ (c_X7_look l g T ad11 had11 ad14 had14 (z15) ⟨by omega, by omega⟩ (x2) ⟨by omega, by omega⟩ hE) (cwV 3 hts gv_X9_183 rfl rfl rfl hd_X7_look ⟨Nat.le_trans (by decide) hR1, Nat.le_trans (by decide) hR2⟩) (tf_preV hk hW had11 (ci := 7) rfl rfl trivial) rfl rfl hl.1 rfl (lv_room (Nat.le_of_ble_eq_true rfl)) dX9_kinds_59 ⟨Nat.zero_le _, Nat.zero_le _⟩) hW (by decide) (fun H18 locs18 hW hF18 hp18 => ?_)
            have hs19 := tf_keepF hF18 ha0 rfl rfl (by decide) hs16
            have hs20 := tf_keepF hF18 ha0 rfl rfl (by decide) hs17
            refine lv_iload_n hx hb dX9_kinds_62 rfl (lv_at hl 3 rfl) ?_
            refine lv_aload_n hx hb dX9_kinds_63 rfl (lv_at hl 0 rfl) ?_
            refine tf_get hx hb hts inlX9 hown hK (ci := 9) rfl hW ha0 rfl 2 rfl (by decide) (hts _ fl_X9_23) dX9_kinds_64 (fun v21 hv21 hsv21 => ?_)
            obtain rfl : v21 = .ref ad11 := Option.some.inj (hsv21.symm.trans hs20)
            refine tf_get hx hb hts inlX7 hown hK (ci := 7) rfl hW had11 rfl 0 rfl (by decide) (hts _ fl_X9_187) dX9_kinds_67 (fun v22 hv22 hsv22 => ?_)
            obtain ⟨ad23, rfl, had23⟩ := tf_v1 hv22
            refine tf_iconst hx hb dX9_kinds_70 ?_
            refine tf_iald (t0 := 0) hx hb hK hW had23 rfl rfl (by omega) (by omega) dX9_kinds_71 (fun v24 hv24 hsv24 => ?_)
            obtain ⟨z25, rfl, hz25⟩ := tf_v0 hv24
            refine lv_iload_n hx hb dX9_kinds_72 rfl (lv_at hl 1 rfl) ?_
            refine tf_icmp_ne (tgt := 80) hx hb ⟨by omega, by omega⟩ ⟨by omega, by omega⟩ dX9_kinds_73 (by decide) (fun h26 => ?_) (fun h26 => ?_)
            · refine tf_iconst hx hb dX9_kinds_80 ?_
              exact j_81 ⟨by omega, by omega⟩ ⟨by omega, by omega⟩ ⟨by omega, by omega⟩ ⟨by omega, by omega⟩ (0) ⟨by omega, by omega⟩ _ _ hW  _ (lv_sub hl [0, 1, 2, 4] rfl)
            · refine tf_iconst hx hb dX9_kinds_76 ?_
              refine lv_goto (tgt := 81) hx hb dX9_kinds_77 (by decide) ?_
              exact j_81 ⟨by omega, by omega⟩ ⟨by omega, by omega⟩ ⟨by omega, by omega⟩ ⟨by omega, by omega⟩ (1) ⟨by omega, by omega⟩ _ _ hW  _ (lv_sub hl [0, 1, 2, 4] rfl)
        · refine tf_if_eq (tgt := 83) hx hb ⟨by decide, by decide⟩ dX9_kinds_39 (by decide) (fun h27 => ?_) (fun h27 => ?_)
          · exact j_83 ⟨by omega, by omega⟩ ⟨by omega, by omega⟩ (x3_23) ⟨by omega, by omega⟩ ⟨by omega, by omega⟩ _ _ hW  _ (lv_sub hl [0, 1, 2, 3, 4] rfl)
          · exfalso; omega
  refine tf_enter (As := [.ref a0, .int (Int32.ofInt x1), .int (Int32.ofInt x2)]) hargs (Nat.le_of_ble_eq_true rfl) (fun ls hl => ?_)
  have hl : lv_has ls 5 [(0, .ref a0), (1, .int (Int32.ofInt x1)), (2, .int (Int32.ofInt x2))] := hl
  refine lv_iload_n hx hb dX9_kinds_0 rfl (lv_at hl 1 rfl) ?_
  refine tf_iconst hx hb dX9_kinds_1 ?_
  refine tf_iconst hx hb dX9_kinds_2 ?_
  refine tf_calli (va_runS (As := [.int (Int32.ofInt x1), .int (Int32.ofInt 0), .int (Int32.ofInt 4)]) (rest := []) ⟨hx, hb, hml, hown, hts⟩ (c_X9_isWithin l g T (x1) ⟨by omega, by omega⟩ (0) ⟨by omega, by omega⟩ (4) ⟨by omega, by omega⟩) ⟨callB_of 3 hts (gw_ws cm_X9_isWithin) rfl rfl rfl (hts _ (tw1 (i := 2) rfl)) (hts _ (tw9 (i := 19) rfl)) hd_X9_isWithin.2 ⟨Nat.le_trans (by decide) hR1, Nat.le_trans (by decide) hR2⟩, hts _ (tw8 (i := 17) rfl)⟩ (tf_preS hk hW trivial) rfl rfl hl.1 rfl (lv_room (Nat.le_of_ble_eq_true rfl)) dX9_kinds_3 ⟨Nat.zero_le _, Nat.zero_le _⟩) hW (by decide) (fun z28 H28 locs28 hW hF28 hp28 => ?_)
  rcases hp28 with ⟨rfl, h29, h30⟩ | ⟨rfl, h31⟩
  · refine tf_if_eq (tgt := 16) hx hb ⟨by decide, by decide⟩ dX9_kinds_6 (by decide) (fun h32 => ?_) (fun h32 => ?_)
    · exfalso; omega
    · refine lv_iload_n hx hb dX9_kinds_9 rfl (lv_at hl 2 rfl) ?_
      refine tf_calli (va_runS (As := [.int (Int32.ofInt x2)]) (rest := []) ⟨hx, hb, hml, hown, hts⟩ (c_X9_isWay l g T (x2) ⟨by omega, by omega⟩) ⟨callB_of 1 hts (gw_ws cm_X9_isWay) rfl rfl rfl (hts _ (tw1 (i := 2) rfl)) (hts _ (tw16 (i := 17) rfl)) hd_X9_isWay.2 ⟨Nat.le_trans (by decide) hR1, Nat.le_trans (by decide) hR2⟩, hts _ (tw16 (i := 18) rfl)⟩ (tf_preS hk hW trivial) rfl rfl hl.1 rfl (lv_room (Nat.le_of_ble_eq_true rfl)) dX9_kinds_10 ⟨Nat.zero_le _, Nat.zero_le _⟩) hW (by decide) (fun z33 H33 locs33 hW hF33 hp33 => ?_)
      rcases hp33 with ⟨rfl, h34, h35⟩ | ⟨rfl, h36⟩
      · refine tf_if_ne (tgt := 18) hx hb ⟨by decide, by decide⟩ dX9_kinds_13 (by decide) (fun h37 => ?_) (fun h37 => ?_)
        · refine tf_iconst hx hb dX9_kinds_18 ?_
          refine lv_istore_n (lv' := [(3, .int (Int32.ofInt 0)), (0, .ref a0), (1, .int (Int32.ofInt x1)), (2, .int (Int32.ofInt x2))]) hx hb dX9_kinds_19 rfl hl (by decide) rfl (fun ls hl => ?_)
          refine tf_iconst hx hb dX9_kinds_20 ?_
          refine lv_istore (lv' := [(4, .int (Int32.ofInt 0)), (3, .int (Int32.ofInt 0)), (0, .ref a0), (1, .int (Int32.ofInt x1)), (2, .int (Int32.ofInt x2))]) hx hb dX9_kinds_21 hl (by decide) rfl (fun ls hl => ?_)
          exact j_23 ((100 - 0 + 1 : Int)).toNat ⟨by omega, by omega⟩ ⟨by omega, by omega⟩ (0) ⟨by omega, by omega⟩ (0) ⟨by omega, by omega⟩ (by omega) _ _ hW  _ (lv_sub hl [2, 3, 4, 1, 0] rfl)
        · exfalso; omega
      · refine tf_if_ne (tgt := 18) hx hb ⟨by decide, by decide⟩ dX9_kinds_13 (by decide) (fun h38 => ?_) (fun h38 => ?_)
        · exfalso; omega
        · refine tf_iconst hx hb dX9_kinds_16 ?_
          exact tf_reti (z := (-1)) hx hb hr hlocks hQ hW (show (-2147483648) ≤ ((-1)) ∧ ((-1)) ≤ 2147483647 by omega) dX9_kinds_17
  · refine tf_if_eq (tgt := 16) hx hb ⟨by decide, by decide⟩ dX9_kinds_6 (by decide) (fun h39 => ?_) (fun h39 => ?_)
    · refine tf_iconst hx hb dX9_kinds_16 ?_
      exact tf_reti (z := (-1)) hx hb hr hlocks hQ hW (show (-2147483648) ≤ ((-1)) ∧ ((-1)) ≤ 2147483647 by omega) dX9_kinds_17
    · exfalso; omega

abbrev M_X9_does : List (Nat × Nat) := [(0, 0), (1, 0), (4, 0), (24, 5)]
set_option maxHeartbeats 4000000 in
set_option maxRecDepth 100000 in
theorem c_X9_does (l : Launch) (g : tf_G) (T : tf_T) (a0 : Nat) (ha0 : T a0 = some (26, 0)) (x1 : Int) (hp1 : (-2147483648) ≤ x1 ∧ x1 ≤ 2147483647) (hE : tf_E g T) : Met l yX9_does (cd_X9_does :: wsL_law) ({ frames := 7, cells := 0, slots := 0, locals := 187 }) (tf_P g T [.ref a0, .int (Int32.ofInt x1)] (fun H => True)) (tf_Qi g M_X9_does T (fun z _ _ => (-2147483648) ≤ z ∧ z ≤ 2147483647)) 0 0 (fun q => tf_B g ≤ q) := by
  refine Met.ofW (cc := cX9_does) (maxL := 2) (ret := (some .int)) (by decide) rfl ?_
  intro p e s m args below meth c s₁ B hml hv
  obtain ⟨hargs, hk, hW0, hB, hpre⟩ := hv
  have hx := B.exec
  have hb := B.bytes
  have hr := B.returns
  have hts : ∀ w ∈ wsL_law, w.before args s = true := fun w h => atoms_spec (ws := cd_X9_does :: wsL_law) B.pre w (List.mem_cons_of_mem _ h)
  have hown : s.vm.findClass RX9 = some m.cls := findClass_of_methodNamed B.named
  have hlocks := B.notSynchronized
  have hK := hk.1
  have hW := tf_n.start (M := M_X9_does) hW0 hB
  obtain ⟨Q, hQ⟩ : ∃ q, q = MQ below (tf_Qi g M_X9_does T (fun z _ _ => (-2147483648) ≤ z ∧ z ≤ 2147483647)) args s 0 0 (fun q => tf_B g ≤ q) := ⟨_, rfl⟩
  rw [← hQ]
  obtain ⟨R, hR⟩ : ∃ q, q = (headSpec (cd_X9_does :: wsL_law) ({ frames := 7, cells := 0, slots := 0, locals := 187 })).room := ⟨_, rfl⟩
  rw [← hR]
  have hR1 : 7 ≤ R.frames := by rw [hR]; exact Nat.le_refl _
  have hR2 : 187 ≤ R.locals := by rw [hR]; exact Nat.le_refl _
  have hR3 : 0 ≤ R.cells := by rw [hR]; exact Nat.le_refl _
  have hR4 : 0 ≤ R.slots := by rw [hR]; exact Nat.le_refl _
  have hin := (name_of_methodNamed B.named B.method).1
  clear hR B
  refine tf_enter (As := [.ref a0, .int (Int32.ofInt x1)]) hargs (Nat.le_of_ble_eq_true rfl) (fun ls hl => ?_)
  have hl : lv_has ls 2 [(0, .ref a0), (1, .int (Int32.ofInt x1))] := hl
  refine lv_aload_n hx hb dX9_does_0 rfl (lv_at hl 0 rfl) ?_
  refine tf_get hx hb hts inlX9 hown hK (ci := 9) rfl hW ha0 rfl 0 rfl (by decide) (hts _ fl_X9_10) dX9_does_1 (fun v1 hv1 hsv1 => ?_)
  obtain ⟨ad2, rfl, had2⟩ := tf_v1 hv1
  refine tf_get hx hb hts inlX3 hown hK (ci := 3) rfl hW had2 rfl 1 rfl (by decide) (hts _ fl_X9_89) dX9_does_4 (fun v3 hv3 hsv3 => ?_)
  obtain ⟨ad4, rfl, had4⟩ := tf_v1 hv3
  refine lv_iload_n hx hb dX9_does_7 rfl (lv_at hl 1 rfl) ?_
  refine tf_calli (va_runV (As := [.int (Int32.ofInt x1)]) (rest := []) ⟨hx, hb, hml, hown, hts⟩ (c_X5_has l g T ad4 had4 (x1) ⟨by omega, by omega⟩) (cwV 1 hts gv_X9_106 rfl rfl rfl hd_X5_has ⟨Nat.le_trans (by decide) hR1, Nat.le_trans (by decide) hR2⟩) (tf_preV hk hW had4 (ci := 5) rfl rfl trivial) rfl rfl hl.1 rfl (lv_room (Nat.le_of_ble_eq_true rfl)) dX9_does_8 ⟨Nat.zero_le _, Nat.zero_le _⟩) hW (by decide) (fun z5 H5 locs5 hW hF5 hp5 => ?_)
  have hs6 := tf_keepF hF5 ha0 rfl rfl (by decide) hsv1
  have hs7 := tf_keepF hF5 had2 rfl rfl (by decide) hsv3
  rcases hp5 with ⟨rfl, h8, h9⟩ | ⟨rfl⟩
  · refine tf_if_ne (tgt := 17) hx hb ⟨by decide, by decide⟩ dX9_does_11 (by decide) (fun h10 => ?_) (fun h10 => ?_)
    · refine lv_aload_n hx hb dX9_does_17 rfl (lv_at hl 0 rfl) ?_
      refine tf_get hx hb hts inlX9 hown hK (ci := 9) rfl hW ha0 rfl 3 rfl (by decide) (hts _ fl_X9_30) dX9_does_18 (fun v11 hv11 hsv11 => ?_)
      obtain ⟨ad12, rfl, had12⟩ := tf_v1 hv11
      refine tf_get hx hb hts inlX6 hown hK (ci := 6) rfl hW had12 rfl 0 rfl (by decide) (hts _ fl_X9_208) dX9_does_21 (fun v13 hv13 hsv13 => ?_)
      obtain ⟨ad14, rfl, had14⟩ := tf_v1 hv13
      refine lv_aload_n hx hb dX9_does_24 rfl (lv_at hl 0 rfl) ?_
      refine tf_get hx hb hts inlX9 hown hK (ci := 9) rfl hW ha0 rfl 0 rfl (by decide) (hts _ fl_X9_10) dX9_does_25 (fun v15 hv15 hsv15 => ?_)
      obtain rfl : v15 = .ref ad2 := Option.some.inj (hsv15.symm.trans hs6)
      refine tf_get hx hb hts inlX3 hown hK (ci := 3) rfl hW had2 rfl 0 rfl (by decide) (hts _ fl_X9_79) dX9_does_28 (fun v16 hv16 hsv16 => ?_)
      obtain ⟨ad17, rfl, had17⟩ := tf_v1 hv16
      refine tf_callv (va_runV (As := [.ref ad17]) (rest := []) ⟨hx, hb, hml, hown, hts⟩ (c_X0_become l g T ad14 had14 ad17 had17) (cwV 1 hts gv_X9_209 rfl rfl rfl hd_X0_become ⟨Nat.le_trans (by decide) hR1, Nat.le_trans (by decide) hR2⟩) (tf_preV hk hW had14 (ci := 0) rfl rfl trivial) rfl rfl hl.1 rfl (lv_room (Nat.le_of_ble_eq_true rfl)) dX9_does_31 ⟨Nat.zero_le _, Nat.zero_le _⟩) hW (by decide) (fun H18 locs18 hW hF18 hp18 => ?_)
      have hs19 := tf_keepF hF18 ha0 rfl rfl (by decide) hs6
      have hs20 := tf_keepF hF18 had2 rfl rfl (by decide) hs7
      have hs21 := tf_keepF hF18 ha0 rfl rfl (by decide) hsv11
      have hs22 := tf_keepF hF18 had12 rfl rfl (by decide) hsv13
      have hs23 := tf_keepF hF18 had2 rfl rfl (by decide) hsv16
      refine lv_aload_n hx hb dX9_does_34 rfl (lv_at hl 0 rfl) ?_
      refine tf_get hx hb hts inlX9 hown hK (ci := 9) rfl hW ha0 rfl 0 rfl (by decide) (hts _ fl_X9_10) dX9_does_35 (fun v24 hv24 hsv24 => ?_)
      obtain rfl : v24 = .ref ad2 := Option.some.inj (hsv24.symm.trans hs19)
      refine tf_get hx hb hts inlX3 hown hK (ci := 3) rfl hW had2 rfl 1 rfl (by decide) (hts _ fl_X9_89) dX9_does_38 (fun v25 hv25 hsv25 => ?_)
      obtain rfl : v25 = .ref ad4 := Option.some.inj (hsv25.symm.trans hs20)
      refine lv_iload_n hx hb dX9_does_41 rfl (lv_at hl 1 rfl) ?_
      refine tf_iconst hx hb dX9_does_42 ?_
      refine lv_aload_n hx hb dX9_does_43 rfl (lv_at hl 0 rfl) ?_
      refine tf_get hx hb hts inlX9 hown hK (ci := 9) rfl hW ha0 rfl 3 rfl (by decide) (hts _ fl_X9_30) dX9_does_44 (fun v26 hv26 hsv26 => ?_)
      obtain rfl : v26 = .ref ad12 := Option.some.inj (hsv26.symm.trans hs21)
      refine tf_get hx hb hts inlX6 hown hK (ci := 6) rfl hW had12 rfl 0 rfl (by decide) (hts _ fl_X9_208) dX9_does_47 (fun v27 hv27 hsv27 => ?_)
      obtain rfl : v27 = .ref ad14 := Option.some.inj (hsv27.symm.trans hs22)
      refine tf_callv (va_runV (As := [.int (Int32.ofInt x1), .int (Int32.ofInt 0), .ref ad14]) (rest := []) ⟨hx, hb, hml, hown, hts⟩ (c_X5_makeHigh l g T ad4 had4 (x1) ⟨by omega, by omega⟩ (0) ⟨by omega, by omega⟩ ad14 had14) (cwV 3 hts gv_X9_114 rfl rfl rfl hd_X5_makeHigh ⟨Nat.le_trans (by decide) hR1, Nat.le_trans (by decide) hR2⟩) (tf_preV hk hW had4 (ci := 5) rfl rfl trivial) rfl rfl hl.1 rfl (lv_room (Nat.le_of_ble_eq_true rfl)) dX9_does_50 ⟨Nat.zero_le _, Nat.zero_le _⟩) hW (by decide) (fun H28 locs28 hW hF28 hp28 => ?_)
      have hs29 := tf_keepF hF28 ha0 rfl rfl (by decide) hs19
      have hs30 := tf_keepF hF28 had2 rfl rfl (by decide) hs20
      have hs31 := tf_keepF hF28 ha0 rfl rfl (by decide) hs21
      have hs32 := tf_keepF hF28 had12 rfl rfl (by decide) hs22
      have hs33 := tf_keepF hF28 had2 rfl rfl (by decide) hs23
      refine lv_aload_n hx hb dX9_does_53 rfl (lv_at hl 0 rfl) ?_
      refine tf_get hx hb hts inlX9 hown hK (ci := 9) rfl hW ha0 rfl 2 rfl (by decide) (hts _ fl_X9_23) dX9_does_54 (fun v34 hv34 hsv34 => ?_)
      obtain ⟨ad35, rfl, had35⟩ := tf_v1 hv34
      refine lv_aload_n hx hb dX9_does_57 rfl (lv_at hl 0 rfl) ?_
      refine tf_get hx hb hts inlX9 hown hK (ci := 9) rfl hW ha0 rfl 0 rfl (by decide) (hts _ fl_X9_10) dX9_does_58 (fun v36 hv36 hsv36 => ?_)
      obtain rfl : v36 = .ref ad2 := Option.some.inj (hsv36.symm.trans hs29)
      refine lv_aload_n hx hb dX9_does_61 rfl (lv_at hl 0 rfl) ?_
      refine tf_get hx hb hts inlX9 hown hK (ci := 9) rfl hW ha0 rfl 0 rfl (by decide) (hts _ fl_X9_10) dX9_does_62 (fun v37 hv37 hsv37 => ?_)
      obtain rfl : v37 = .ref ad2 := Option.some.inj (hsv37.symm.trans hs29)
      refine tf_get hx hb hts inlX3 hown hK (ci := 3) rfl hW had2 rfl 0 rfl (by decide) (hts _ fl_X9_79) dX9_does_65 (fun v38 hv38 hsv38 => ?_)
      obtain rfl : v38 = .ref ad17 := Option.some.inj (hsv38.symm.trans hs33)
      refine tf_calli (va_runV (As := [.ref ad2, .ref ad17]) (rest := []) ⟨hx, hb, hml, hown, hts⟩ (c_X7_allOver l g T ad35 had35 ad2 had2 ad17 had17 hE) (cwV 2 hts gv_X9_193 rfl rfl rfl hd_X7_allOver ⟨Nat.le_trans (by decide) hR1, Nat.le_trans (by decide) hR2⟩) (tf_preV hk hW had35 (ci := 7) rfl rfl trivial) rfl rfl hl.1 rfl (lv_room (Nat.le_of_ble_eq_true rfl)) dX9_does_68 ⟨Nat.zero_le _, Nat.zero_le _⟩) hW (by decide) (fun z39 H39 locs39 hW hF39 hp39 => ?_)
      have hs40 := tf_keepF hF39 ha0 rfl rfl (by decide) hs29
      have hs41 := tf_keepF hF39 had2 rfl rfl (by decide) hs30
      have hs42 := tf_keepF hF39 ha0 rfl rfl (by decide) hs31
      have hs43 := tf_keepF hF39 had12 rfl rfl (by decide) hs32
      have hs44 := tf_keepF hF39 had2 rfl rfl (by decide) hs33
      have hs45 := tf_keepF hF39 ha0 rfl rfl (by decide) hsv34
      obtain ⟨hp39_0, hp39_1⟩ := hp39
      refine lv_aload_n hx hb dX9_does_71 rfl (lv_at hl 0 rfl) ?_
      refine tf_get hx hb hts inlX9 hown hK (ci := 9) rfl hW ha0 rfl 2 rfl (by decide) (hts _ fl_X9_23) dX9_does_72 (fun v46 hv46 hsv46 => ?_)
      obtain rfl : v46 = .ref ad35 := Option.some.inj (hsv46.symm.trans hs45)
      refine lv_aload_n hx hb dX9_does_75 rfl (lv_at hl 0 rfl) ?_
      refine tf_get hx hb hts inlX9 hown hK (ci := 9) rfl hW ha0 rfl 0 rfl (by decide) (hts _ fl_X9_10) dX9_does_76 (fun v47 hv47 hsv47 => ?_)
      obtain rfl : v47 = .ref ad2 := Option.some.inj (hsv47.symm.trans hs40)
      refine lv_aload_n hx hb dX9_does_79 rfl (lv_at hl 0 rfl) ?_
      refine tf_get hx hb hts inlX9 hown hK (ci := 9) rfl hW ha0 rfl 3 rfl (by decide) (hts _ fl_X9_30) dX9_does_80 (fun v48 hv48 hsv48 => ?_)
      obtain rfl : v48 = .ref ad12 := Option.some.inj (hsv48.symm.trans hs42)
      refine tf_get hx hb hts inlX6 hown hK (ci := 6) rfl hW had12 rfl 0 rfl (by decide) (hts _ fl_X9_208) dX9_does_83 (fun v49 hv49 hsv49 => ?_)
      obtain rfl : v49 = .ref ad14 := Option.some.inj (hsv49.symm.trans hs43)
      refine tf_calli (va_runV (As := [.ref ad2, .ref ad14]) (rest := [.int (Int32.ofInt z39)]) ⟨hx, hb, hml, hown, hts⟩ (c_X7_allOver l g T ad35 had35 ad2 had2 ad14 had14 hE) (cwV 2 hts gv_X9_193 rfl rfl rfl hd_X7_allOver ⟨Nat.le_trans (by decide) hR1, Nat.le_trans (by decide) hR2⟩) (tf_preV hk hW had35 (ci := 7) rfl rfl trivial) rfl rfl hl.1 rfl (lv_room (Nat.le_of_ble_eq_true rfl)) dX9_does_86 ⟨Nat.zero_le _, Nat.zero_le _⟩) hW (by decide) (fun z50 H50 locs50 hW hF50 hp50 => ?_)
      have hs51 := tf_keepF hF50 ha0 rfl rfl (by decide) hs40
      have hs52 := tf_keepF hF50 had2 rfl rfl (by decide) hs41
      have hs53 := tf_keepF hF50 ha0 rfl rfl (by decide) hs42
      have hs54 := tf_keepF hF50 had12 rfl rfl (by decide) hs43
      have hs55 := tf_keepF hF50 had2 rfl rfl (by decide) hs44
      have hs56 := tf_keepF hF50 ha0 rfl rfl (by decide) hs45
      obtain ⟨hp50_0, hp50_1⟩ := hp50
      refine tf_isub_any hx hb dX9_does_89 (fun z57 hz57 => ?_)
      exact tf_reti (z := z57) hx hb hr hlocks hQ hW (show (-2147483648) ≤ (z57) ∧ (z57) ≤ 2147483647 by omega) dX9_does_90
    · exfalso; omega
  · refine tf_if_ne (tgt := 17) hx hb ⟨by decide, by decide⟩ dX9_does_11 (by decide) (fun h58 => ?_) (fun h58 => ?_)
    · exfalso; omega
    · refine tf_ldc (z := -1000000000) hx hb hown (hts _ kc_X9_207) (by decide) dX9_does_14 ?_
      exact tf_reti (z := (-1000000000)) hx hb hr hlocks hQ hW (show (-2147483648) ≤ ((-1000000000)) ∧ ((-1000000000)) ≤ 2147483647 by omega) dX9_does_16

abbrev M_X9_ahead : List (Nat × Nat) := [(0, 0), (1, 0), (4, 0), (24, 5)]
set_option maxHeartbeats 4000000 in
set_option maxRecDepth 100000 in
theorem c_X9_ahead (l : Launch) (g : tf_G) (T : tf_T) (a0 : Nat) (ha0 : T a0 = some (26, 0)) (x1 : Int) (hp1 : (-2147483648) ≤ x1 ∧ x1 ≤ 2147483647) (x2 : Int) (hp2 : (-2147483648) ≤ x2 ∧ x2 ≤ 2147483647) (x3 : Int) (hp3 : (-2147483648) ≤ x3 ∧ x3 ≤ 2147483647) (x4 : Int) (hp4 : (-2147483648) ≤ x4 ∧ x4 ≤ 2147483647) (x5 : Int) (hp5 : (-2147483648) ≤ x5 ∧ x5 ≤ 2147483647) (hE : tf_E g T) : Met l yX9_ahead (cd_X9_ahead :: wsL_law) ({ frames := 7, cells := 0, slots := 0, locals := 187 }) (tf_P g T [.ref a0, .int (Int32.ofInt x1), .int (Int32.ofInt x2), .int (Int32.ofInt x3), .int (Int32.ofInt x4), .int (Int32.ofInt x5)] (fun H => True)) (tf_Qi g M_X9_ahead T (fun z _ _ => (-2147483648) ≤ z ∧ z ≤ 2147483647)) 0 0 (fun q => tf_B g ≤ q) := by
  refine Met.ofW (cc := cX9_ahead) (maxL := 6) (ret := (some .int)) (by decide) rfl ?_
  intro p e s m args below meth c s₁ B hml hv
  obtain ⟨hargs, hk, hW0, hB, hpre⟩ := hv
  have hx := B.exec
  have hb := B.bytes
  have hr := B.returns
  have hts : ∀ w ∈ wsL_law, w.before args s = true := fun w h => atoms_spec (ws := cd_X9_ahead :: wsL_law) B.pre w (List.mem_cons_of_mem _ h)
  have hown : s.vm.findClass RX9 = some m.cls := findClass_of_methodNamed B.named
  have hlocks := B.notSynchronized
  have hK := hk.1
  have hW := tf_n.start (M := M_X9_ahead) hW0 hB
  obtain ⟨Q, hQ⟩ : ∃ q, q = MQ below (tf_Qi g M_X9_ahead T (fun z _ _ => (-2147483648) ≤ z ∧ z ≤ 2147483647)) args s 0 0 (fun q => tf_B g ≤ q) := ⟨_, rfl⟩
  rw [← hQ]
  obtain ⟨R, hR⟩ : ∃ q, q = (headSpec (cd_X9_ahead :: wsL_law) ({ frames := 7, cells := 0, slots := 0, locals := 187 })).room := ⟨_, rfl⟩
  rw [← hR]
  have hR1 : 7 ≤ R.frames := by rw [hR]; exact Nat.le_refl _
  have hR2 : 187 ≤ R.locals := by rw [hR]; exact Nat.le_refl _
  have hR3 : 0 ≤ R.cells := by rw [hR]; exact Nat.le_refl _
  have hR4 : 0 ≤ R.slots := by rw [hR]; exact Nat.le_refl _
  have hin := (name_of_methodNamed B.named B.method).1
  clear hR B
  refine tf_enter (As := [.ref a0, .int (Int32.ofInt x1), .int (Int32.ofInt x2), .int (Int32.ofInt x3), .int (Int32.ofInt x4), .int (Int32.ofInt x5)]) hargs (Nat.le_of_ble_eq_true rfl) (fun ls hl => ?_)
  have hl : lv_has ls 6 [(0, .ref a0), (1, .int (Int32.ofInt x1)), (2, .int (Int32.ofInt x2)), (3, .int (Int32.ofInt x3)), (4, .int (Int32.ofInt x4)), (5, .int (Int32.ofInt x5))] := hl
  refine lv_aload_n hx hb dX9_ahead_0 rfl (lv_at hl 0 rfl) ?_
  refine tf_get hx hb hts inlX9 hown hK (ci := 9) rfl hW ha0 rfl 0 rfl (by decide) (hts _ fl_X9_10) dX9_ahead_1 (fun v1 hv1 hsv1 => ?_)
  obtain ⟨ad2, rfl, had2⟩ := tf_v1 hv1
  refine lv_iload_n hx hb dX9_ahead_4 rfl (lv_at hl 1 rfl) ?_
  refine lv_iload_n hx hb dX9_ahead_5 rfl (lv_at hl 2 rfl) ?_
  refine lv_iload_n hx hb dX9_ahead_6 rfl (lv_at hl 3 rfl) ?_
  refine lv_iload hx hb dX9_ahead_7 (lv_at hl 4 rfl) ?_
  refine lv_iload hx hb dX9_ahead_9 (lv_at hl 5 rfl) ?_
  refine tf_calli (va_runV (As := [.int (Int32.ofInt x1), .int (Int32.ofInt x2), .int (Int32.ofInt x3), .int (Int32.ofInt x4), .int (Int32.ofInt x5)]) (rest := []) ⟨hx, hb, hml, hown, hts⟩ (c_X3_whyNoTower l g T ad2 had2 (x1) ⟨by omega, by omega⟩ (x2) ⟨by omega, by omega⟩ (x3) ⟨by omega, by omega⟩ (x4) ⟨by omega, by omega⟩ (x5) ⟨by omega, by omega⟩) (cwV 5 hts gv_X9_71 rfl rfl rfl hd_X3_whyNoTower ⟨Nat.le_trans (by decide) hR1, Nat.le_trans (by decide) hR2⟩) (tf_preV hk hW had2 (ci := 3) rfl rfl trivial) rfl rfl hl.1 rfl (lv_room (Nat.le_of_ble_eq_true rfl)) dX9_ahead_11 ⟨Nat.zero_le _, Nat.zero_le _⟩) hW (by decide) (fun z3 H3 locs3 hW hF3 hp3 => ?_)
  have hs4 := tf_keepF hF3 ha0 rfl rfl (by decide) hsv1
  rcases hp3 with ⟨rfl, h5, h6, h7, h8, h9, h10, h11, h12⟩ | ⟨h13, h14⟩
  · refine tf_if_eq (tgt := 19) hx hb ⟨by decide, by decide⟩ dX9_ahead_14 (by decide) (fun h15 => ?_) (fun h15 => ?_)
    · refine lv_aload_n hx hb dX9_ahead_19 rfl (lv_at hl 0 rfl) ?_
      refine tf_get hx hb hts inlX9 hown hK (ci := 9) rfl hW ha0 rfl 3 rfl (by decide) (hts _ fl_X9_30) dX9_ahead_20 (fun v16 hv16 hsv16 => ?_)
      obtain ⟨ad17, rfl, had17⟩ := tf_v1 hv16
      refine tf_get hx hb hts inlX6 hown hK (ci := 6) rfl hW had17 rfl 0 rfl (by decide) (hts _ fl_X9_208) dX9_ahead_23 (fun v18 hv18 hsv18 => ?_)
      obtain ⟨ad19, rfl, had19⟩ := tf_v1 hv18
      refine lv_aload_n hx hb dX9_ahead_26 rfl (lv_at hl 0 rfl) ?_
      refine tf_get hx hb hts inlX9 hown hK (ci := 9) rfl hW ha0 rfl 0 rfl (by decide) (hts _ fl_X9_10) dX9_ahead_27 (fun v20 hv20 hsv20 => ?_)
      obtain rfl : v20 = .ref ad2 := Option.some.inj (hsv20.symm.trans hs4)
      refine tf_get hx hb hts inlX3 hown hK (ci := 3) rfl hW had2 rfl 0 rfl (by decide) (hts _ fl_X9_79) dX9_ahead_30 (fun v21 hv21 hsv21 => ?_)
      obtain ⟨ad22, rfl, had22⟩ := tf_v1 hv21
      refine tf_callv (va_runV (As := [.ref ad22]) (rest := []) ⟨hx, hb, hml, hown, hts⟩ (c_X0_become l g T ad19 had19 ad22 had22) (cwV 1 hts gv_X9_209 rfl rfl rfl hd_X0_become ⟨Nat.le_trans (by decide) hR1, Nat.le_trans (by decide) hR2⟩) (tf_preV hk hW had19 (ci := 0) rfl rfl trivial) rfl rfl hl.1 rfl (lv_room (Nat.le_of_ble_eq_true rfl)) dX9_ahead_33 ⟨Nat.zero_le _, Nat.zero_le _⟩) hW (by decide) (fun H23 locs23 hW hF23 hp23 => ?_)
      have hs24 := tf_keepF hF23 ha0 rfl rfl (by decide) hs4
      have hs25 := tf_keepF hF23 ha0 rfl rfl (by decide) hsv16
      have hs26 := tf_keepF hF23 had17 rfl rfl (by decide) hsv18
      refine lv_aload_n hx hb dX9_ahead_36 rfl (lv_at hl 0 rfl) ?_
      refine tf_get hx hb hts inlX9 hown hK (ci := 9) rfl hW ha0 rfl 3 rfl (by decide) (hts _ fl_X9_30) dX9_ahead_37 (fun v27 hv27 hsv27 => ?_)
      obtain rfl : v27 = .ref ad17 := Option.some.inj (hsv27.symm.trans hs25)
      refine tf_get hx hb hts inlX6 hown hK (ci := 6) rfl hW had17 rfl 0 rfl (by decide) (hts _ fl_X9_208) dX9_ahead_40 (fun v28 hv28 hsv28 => ?_)
      obtain rfl : v28 = .ref ad19 := Option.some.inj (hsv28.symm.trans hs26)
      refine lv_iload_n hx hb dX9_ahead_43 rfl (lv_at hl 1 rfl) ?_
      refine lv_iload_n hx hb dX9_ahead_44 rfl (lv_at hl 2 rfl) ?_
      refine lv_iload_n hx hb dX9_ahead_45 rfl (lv_at hl 3 rfl) ?_
      refine lv_iload hx hb dX9_ahead_46 (lv_at hl 4 rfl) ?_
      refine lv_iload hx hb dX9_ahead_48 (lv_at hl 5 rfl) ?_
      refine tf_callv (va_runV (As := [.int (Int32.ofInt x1), .int (Int32.ofInt x2), .int (Int32.ofInt x3), .int (Int32.ofInt x4), .int (Int32.ofInt x5)]) (rest := []) ⟨hx, hb, hml, hown, hts⟩ (c_X0_stand l g T ad19 had19 (x1) ⟨by omega, by omega⟩ (x2) ⟨by omega, by omega⟩ (x3) ⟨by omega, by omega⟩ (x4) ⟨by omega, by omega⟩ (x5) ⟨by omega, by omega⟩) (cwV 5 hts gv_X9_83 rfl rfl rfl hd_X0_stand ⟨Nat.le_trans (by decide) hR1, Nat.le_trans (by decide) hR2⟩) (tf_preV hk hW had19 (ci := 0) rfl rfl trivial) rfl rfl hl.1 rfl (lv_room (Nat.le_of_ble_eq_true rfl)) dX9_ahead_50 ⟨Nat.zero_le _, Nat.zero_le _⟩) hW (by decide) (fun H29 locs29 hW hF29 hp29 => ?_)
      have hs30 := tf_keepF hF29 ha0 rfl rfl (by decide) hs24
      have hs31 := tf_keepF hF29 ha0 rfl rfl (by decide) hs25
      have hs32 := tf_keepF hF29 had17 rfl rfl (by decide) hs26
      refine lv_aload_n hx hb dX9_ahead_53 rfl (lv_at hl 0 rfl) ?_
      refine tf_get hx hb hts inlX9 hown hK (ci := 9) rfl hW ha0 rfl 2 rfl (by decide) (hts _ fl_X9_23) dX9_ahead_54 (fun v33 hv33 hsv33 => ?_)
      obtain ⟨ad34, rfl, had34⟩ := tf_v1 hv33
      refine lv_aload_n hx hb dX9_ahead_57 rfl (lv_at hl 0 rfl) ?_
      refine tf_get hx hb hts inlX9 hown hK (ci := 9) rfl hW ha0 rfl 0 rfl (by decide) (hts _ fl_X9_10) dX9_ahead_58 (fun v35 hv35 hsv35 => ?_)
      obtain rfl : v35 = .ref ad2 := Option.some.inj (hsv35.symm.trans hs30)
      refine lv_aload_n hx hb dX9_ahead_61 rfl (lv_at hl 0 rfl) ?_
      refine tf_get hx hb hts inlX9 hown hK (ci := 9) rfl hW ha0 rfl 3 rfl (by decide) (hts _ fl_X9_30) dX9_ahead_62 (fun v36 hv36 hsv36 => ?_)
      obtain rfl : v36 = .ref ad17 := Option.some.inj (hsv36.symm.trans hs31)
      refine tf_get hx hb hts inlX6 hown hK (ci := 6) rfl hW had17 rfl 0 rfl (by decide) (hts _ fl_X9_208) dX9_ahead_65 (fun v37 hv37 hsv37 => ?_)
      obtain rfl : v37 = .ref ad19 := Option.some.inj (hsv37.symm.trans hs32)
      refine tf_calli (va_runV (As := [.ref ad2, .ref ad19]) (rest := []) ⟨hx, hb, hml, hown, hts⟩ (c_X7_allOver l g T ad34 had34 ad2 had2 ad19 had19 hE) (cwV 2 hts gv_X9_193 rfl rfl rfl hd_X7_allOver ⟨Nat.le_trans (by decide) hR1, Nat.le_trans (by decide) hR2⟩) (tf_preV hk hW had34 (ci := 7) rfl rfl trivial) rfl rfl hl.1 rfl (lv_room (Nat.le_of_ble_eq_true rfl)) dX9_ahead_68 ⟨Nat.zero_le _, Nat.zero_le _⟩) hW (by decide) (fun z38 H38 locs38 hW hF38 hp38 => ?_)
      have hs39 := tf_keepF hF38 ha0 rfl rfl (by decide) hs30
      have hs40 := tf_keepF hF38 ha0 rfl rfl (by decide) hs31
      have hs41 := tf_keepF hF38 had17 rfl rfl (by decide) hs32
      obtain ⟨hp38_0, hp38_1⟩ := hp38
      exact tf_reti (z := z38) hx hb hr hlocks hQ hW (show (-2147483648) ≤ (z38) ∧ (z38) ≤ 2147483647 by omega) dX9_ahead_71
    · exfalso; omega
  · refine tf_if_eq (tgt := 19) hx hb ⟨by omega, by omega⟩ dX9_ahead_14 (by decide) (fun h42 => ?_) (fun h42 => ?_)
    · exfalso; omega
    · refine tf_iconst hx hb dX9_ahead_17 ?_
      exact tf_reti (z := (-1)) hx hb hr hlocks hQ hW (show (-2147483648) ≤ ((-1)) ∧ ((-1)) ≤ 2147483647 by omega) dX9_ahead_18

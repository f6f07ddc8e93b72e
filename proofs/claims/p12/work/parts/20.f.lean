
abbrev M_X9_site : List (Nat × Nat) := [(0, 0), (1, 0), (4, 0), (23, 7), (23, 8), (23, 9), (23, 10), (24, 5)]
set_option maxHeartbeats 4000000 in
set_option maxRecDepth 100000 in
theorem c_X9_site (l : Launch) (g : tf_G) (T : tf_T) (a0 : Nat) (ha0 : T a0 = some (26, 0)) (x1 : Int) (hp1 : (-2147483648) ≤ x1 ∧ x1 ≤ 2147483647) (x2 : Int) (hp2 : (-2147483648) ≤ x2 ∧ x2 ≤ 2147483647) (x3 : Int) (hp3 : (-2147483648) ≤ x3 ∧ x3 ≤ 2147483647) (x4 : Int) (hp4 : (-2147483648) ≤ x4 ∧ x4 ≤ 2147483647) (hE : tf_E g T) : Met l yX9_site (cd_X9_site :: wsL_law) ({ frames := 8, cells := 0, slots := 0, locals := 217 }) (tf_P g T [.ref a0, .int (Int32.ofInt x1), .int (Int32.ofInt x2), .int (Int32.ofInt x3), .int (Int32.ofInt x4)] (fun H => True)) (tf_Qi g M_X9_site T (fun z _ _ => (-2147483648) ≤ z ∧ z ≤ 2147483647)) 0 0 (fun q => tf_B g ≤ q) := by
  refine Met.ofW (cc := cX9_site) (maxL := 5) (ret := (some .int)) (by decide) rfl ?_
  intro p e s m args below meth c s₁ B hml hv
  obtain ⟨hargs, hk, hW0, hB, hpre⟩ := hv
  have hx := B.exec
  have hb := B.bytes
  have hr := B.returns
  have hts : ∀ w ∈ wsL_law, w.before args s = true := fun w h => atoms_spec (ws := cd_X9_site :: wsL_law) B.pre w (List.mem_cons_of_mem _ h)
  have hown : s.vm.findClass RX9 = some m.cls := findClass_of_methodNamed B.named
  have hlocks := B.notSynchronized
  have hK := hk.1
  have hW := tf_n.start (M := M_X9_site) hW0 hB
  obtain ⟨Q, hQ⟩ : ∃ q, q = MQ below (tf_Qi g M_X9_site T (fun z _ _ => (-2147483648) ≤ z ∧ z ≤ 2147483647)) args s 0 0 (fun q => tf_B g ≤ q) := ⟨_, rfl⟩
  rw [← hQ]
  obtain ⟨R, hR⟩ : ∃ q, q = (headSpec (cd_X9_site :: wsL_law) ({ frames := 8, cells := 0, slots := 0, locals := 217 })).room := ⟨_, rfl⟩
  rw [← hR]
  have hR1 : 8 ≤ R.frames := by rw [hR]; exact Nat.le_refl _
  have hR2 : 217 ≤ R.locals := by rw [hR]; exact Nat.le_refl _
  have hR3 : 0 ≤ R.cells := by rw [hR]; exact Nat.le_refl _
  have hR4 : 0 ≤ R.slots := by rw [hR]; exact Nat.le_refl _
  have hin := (name_of_methodNamed B.named B.method).1
  clear hR B
  refine tf_enter (As := [.ref a0, .int (Int32.ofInt x1), .int (Int32.ofInt x2), .int (Int32.ofInt x3), .int (Int32.ofInt x4)]) hargs (Nat.le_of_ble_eq_true rfl) (fun ls hl => ?_)
  have hl : lv_has ls 5 [(0, .ref a0), (1, .int (Int32.ofInt x1)), (2, .int (Int32.ofInt x2)), (3, .int (Int32.ofInt x3)), (4, .int (Int32.ofInt x4))] := hl
  refine lv_iload hx hb dX9_site_0 (lv_at hl 4 rfl) ?_
  refine tf_iconst hx hb dX9_site_2 ?_
  refine tf_iconst hx hb dX9_site_3 ?_
  refine tf_calli (va_runS (As := [.int (Int32.ofInt x4), .int (Int32.ofInt 0), .int (Int32.ofInt 2)]) (rest := []) ⟨hx, hb, hml, hown, hts⟩ (c_X9_isWithin l g T (x4) ⟨by omega, by omega⟩ (0) ⟨by omega, by omega⟩ (2) ⟨by omega, by omega⟩) ⟨callB_of 3 hts (gw_ws cm_X9_isWithin) rfl rfl rfl (hts _ (tw1 (i := 2) rfl)) (hts _ (tw9 (i := 19) rfl)) hd_X9_isWithin.2 ⟨Nat.le_trans (by decide) hR1, Nat.le_trans (by decide) hR2⟩, hts _ (tw8 (i := 17) rfl)⟩ (tf_preS hk hW trivial) rfl rfl hl.1 rfl (lv_room (Nat.le_of_ble_eq_true rfl)) dX9_site_4 ⟨Nat.zero_le _, Nat.zero_le _⟩) hW (by decide) (fun z1 H1 locs1 hW hF1 hp1 => ?_)
  rcases hp1 with ⟨rfl, h2, h3⟩ | ⟨rfl, h4⟩
  · refine tf_if_ne (tgt := 12) hx hb ⟨by decide, by decide⟩ dX9_site_7 (by decide) (fun h5 => ?_) (fun h5 => ?_)
    · refine lv_aload_n hx hb dX9_site_12 rfl (lv_at hl 0 rfl) ?_
      refine tf_get hx hb hts inlX9 hown hK (ci := 9) rfl hW ha0 rfl 3 rfl (by decide) (hts _ fl_X9_30) dX9_site_13 (fun v6 hv6 hsv6 => ?_)
      obtain ⟨ad7, rfl, had7⟩ := tf_v1 hv6
      refine lv_aload_n hx hb dX9_site_16 rfl (lv_at hl 0 rfl) ?_
      refine tf_get hx hb hts inlX9 hown hK (ci := 9) rfl hW ha0 rfl 0 rfl (by decide) (hts _ fl_X9_10) dX9_site_17 (fun v8 hv8 hsv8 => ?_)
      obtain ⟨ad9, rfl, had9⟩ := tf_v1 hv8
      refine lv_aload_n hx hb dX9_site_20 rfl (lv_at hl 0 rfl) ?_
      refine tf_get hx hb hts inlX9 hown hK (ci := 9) rfl hW ha0 rfl 2 rfl (by decide) (hts _ fl_X9_23) dX9_site_21 (fun v10 hv10 hsv10 => ?_)
      obtain ⟨ad11, rfl, had11⟩ := tf_v1 hv10
      refine lv_iload_n hx hb dX9_site_24 rfl (lv_at hl 1 rfl) ?_
      refine lv_iload_n hx hb dX9_site_25 rfl (lv_at hl 2 rfl) ?_
      refine lv_iload_n hx hb dX9_site_26 rfl (lv_at hl 3 rfl) ?_
      refine tf_callv (va_runV (As := [.ref ad9, .ref ad11, .int (Int32.ofInt x1), .int (Int32.ofInt x2), .int (Int32.ofInt x3)]) (rest := []) ⟨hx, hb, hml, hown, hts⟩ (c_X6_findSite l g T ad7 had7 ad9 had9 ad11 had11 (x1) ⟨by omega, by omega⟩ (x2) ⟨by omega, by omega⟩ (x3) ⟨by omega, by omega⟩ hE) (cwV 5 hts gv_X9_226 rfl rfl rfl hd_X6_findSite ⟨Nat.le_trans (by decide) hR1, Nat.le_trans (by decide) hR2⟩) (tf_preV hk hW had7 (ci := 6) rfl rfl trivial) rfl rfl hl.1 rfl (lv_room (Nat.le_of_ble_eq_true rfl)) dX9_site_27 ⟨Nat.zero_le _, Nat.zero_le _⟩) hW (by decide) (fun H12 locs12 hW hF12 hp12 => ?_)
      have hs13 := tf_keepF hF12 ha0 rfl rfl (by decide) hsv6
      refine lv_iload hx hb dX9_site_30 (lv_at hl 4 rfl) ?_
      refine tf_iconst hx hb dX9_site_32 ?_
      refine tf_icmp_ne (tgt := 44) hx hb ⟨by omega, by omega⟩ ⟨by decide, by decide⟩ dX9_site_33 (by decide) (fun h14 => ?_) (fun h14 => ?_)
      · refine lv_iload hx hb dX9_site_44 (lv_at hl 4 rfl) ?_
        refine tf_if_ne (tgt := 59) hx hb ⟨by omega, by omega⟩ dX9_site_46 (by decide) (fun h15 => ?_) (fun h15 => ?_)
        · refine lv_aload_n hx hb dX9_site_59 rfl (lv_at hl 0 rfl) ?_
          refine tf_get hx hb hts inlX9 hown hK (ci := 9) rfl hW ha0 rfl 3 rfl (by decide) (hts _ fl_X9_30) dX9_site_60 (fun v16 hv16 hsv16 => ?_)
          obtain rfl : v16 = .ref ad7 := Option.some.inj (hsv16.symm.trans hs13)
          refine tf_get hx hb hts inlX6 hown hK (ci := 6) rfl hW had7 rfl 8 rfl (by decide) (hts _ fl_X9_236) dX9_site_63 (fun v17 hv17 hsv17 => ?_)
          obtain ⟨z18, rfl, hz18⟩ := tf_v0 hv17
          exact tf_reti (z := z18) hx hb hr hlocks hQ hW (show (-2147483648) ≤ (z18) ∧ (z18) ≤ 2147483647 by omega) dX9_site_66
        · refine lv_aload_n hx hb dX9_site_49 rfl (lv_at hl 0 rfl) ?_
          refine tf_get hx hb hts inlX9 hown hK (ci := 9) rfl hW ha0 rfl 3 rfl (by decide) (hts _ fl_X9_30) dX9_site_50 (fun v19 hv19 hsv19 => ?_)
          obtain rfl : v19 = .ref ad7 := Option.some.inj (hsv19.symm.trans hs13)
          refine tf_get hx hb hts inlX6 hown hK (ci := 6) rfl hW had7 rfl 7 rfl (by decide) (hts _ fl_X9_233) dX9_site_53 (fun v20 hv20 hsv20 => ?_)
          obtain ⟨z21, rfl, hz21⟩ := tf_v0 hv20
          refine lv_goto (tgt := 66) hx hb dX9_site_56 (by decide) ?_
          exact tf_reti (z := z21) hx hb hr hlocks hQ hW (show (-2147483648) ≤ (z21) ∧ (z21) ≤ 2147483647 by omega) dX9_site_66
      · refine lv_aload_n hx hb dX9_site_36 rfl (lv_at hl 0 rfl) ?_
        refine tf_get hx hb hts inlX9 hown hK (ci := 9) rfl hW ha0 rfl 3 rfl (by decide) (hts _ fl_X9_30) dX9_site_37 (fun v22 hv22 hsv22 => ?_)
        obtain rfl : v22 = .ref ad7 := Option.some.inj (hsv22.symm.trans hs13)
        refine tf_get hx hb hts inlX6 hown hK (ci := 6) rfl hW had7 rfl 9 rfl (by decide) (hts _ fl_X9_230) dX9_site_40 (fun v23 hv23 hsv23 => ?_)
        obtain ⟨z24, rfl, hz24⟩ := tf_v0 hv23
        exact tf_reti (z := z24) hx hb hr hlocks hQ hW (show (-2147483648) ≤ (z24) ∧ (z24) ≤ 2147483647 by omega) dX9_site_43
    · exfalso; omega
  · refine tf_if_ne (tgt := 12) hx hb ⟨by decide, by decide⟩ dX9_site_7 (by decide) (fun h25 => ?_) (fun h25 => ?_)
    · exfalso; omega
    · refine tf_iconst hx hb dX9_site_10 ?_
      exact tf_reti (z := (-1)) hx hb hr hlocks hQ hW (show (-2147483648) ≤ ((-1)) ∧ ((-1)) ≤ 2147483647 by omega) dX9_site_11

abbrev M_X9_curve : List (Nat × Nat) := [(0, 0), (1, 0), (4, 0), (24, 5)]
set_option maxHeartbeats 4000000 in
set_option maxRecDepth 100000 in
theorem c_X9_curve (l : Launch) (g : tf_G) (T : tf_T) (a0 : Nat) (ha0 : T a0 = some (26, 0)) (x1 : Int) (hp1 : (-2147483648) ≤ x1 ∧ x1 ≤ 2147483647) (x2 : Int) (hp2 : (-2147483648) ≤ x2 ∧ x2 ≤ 2147483647) (x3 : Int) (hp3 : (-2147483648) ≤ x3 ∧ x3 ≤ 2147483647) (x4 : Int) (hp4 : (-2147483648) ≤ x4 ∧ x4 ≤ 2147483647) (hE : tf_E g T) : Met l yX9_curve (cd_X9_curve :: wsL_law) ({ frames := 5, cells := 0, slots := 0, locals := 131 }) (tf_P g T [.ref a0, .int (Int32.ofInt x1), .int (Int32.ofInt x2), .int (Int32.ofInt x3), .int (Int32.ofInt x4)] (fun H => True)) (tf_Qi g M_X9_curve T (fun z _ _ => (-2147483648) ≤ z ∧ z ≤ 2147483647)) 0 0 (fun q => tf_B g ≤ q) := by
  refine Met.ofW (cc := cX9_curve) (maxL := 7) (ret := (some .int)) (by decide) rfl ?_
  intro p e s m args below meth c s₁ B hml hv
  obtain ⟨hargs, hk, hW0, hB, hpre⟩ := hv
  have hx := B.exec
  have hb := B.bytes
  have hr := B.returns
  have hts : ∀ w ∈ wsL_law, w.before args s = true := fun w h => atoms_spec (ws := cd_X9_curve :: wsL_law) B.pre w (List.mem_cons_of_mem _ h)
  have hown : s.vm.findClass RX9 = some m.cls := findClass_of_methodNamed B.named
  have hlocks := B.notSynchronized
  have hK := hk.1
  have hW := tf_n.start (M := M_X9_curve) hW0 hB
  obtain ⟨Q, hQ⟩ : ∃ q, q = MQ below (tf_Qi g M_X9_curve T (fun z _ _ => (-2147483648) ≤ z ∧ z ≤ 2147483647)) args s 0 0 (fun q => tf_B g ≤ q) := ⟨_, rfl⟩
  rw [← hQ]
  obtain ⟨R, hR⟩ : ∃ q, q = (headSpec (cd_X9_curve :: wsL_law) ({ frames := 5, cells := 0, slots := 0, locals := 131 })).room := ⟨_, rfl⟩
  rw [← hR]
  have hR1 : 5 ≤ R.frames := by rw [hR]; exact Nat.le_refl _
  have hR2 : 131 ≤ R.locals := by rw [hR]; exact Nat.le_refl _
  have hR3 : 0 ≤ R.cells := by rw [hR]; exact Nat.le_refl _
  have hR4 : 0 ≤ R.slots := by rw [hR]; exact Nat.le_refl _
  have hin := (name_of_methodNamed B.named B.method).1
  clear hR B
  refine tf_enter (As := [.ref a0, .int (Int32.ofInt x1), .int (Int32.ofInt x2), .int (Int32.ofInt x3), .int (Int32.ofInt x4)]) hargs (Nat.le_of_ble_eq_true rfl) (fun ls hl => ?_)
  have hl : lv_has ls 7 [(0, .ref a0), (1, .int (Int32.ofInt x1)), (2, .int (Int32.ofInt x2)), (3, .int (Int32.ofInt x3)), (4, .int (Int32.ofInt x4))] := hl
  refine lv_aload_n hx hb dX9_curve_0 rfl (lv_at hl 0 rfl) ?_
  refine tf_get hx hb hts inlX9 hown hK (ci := 9) rfl hW ha0 rfl 0 rfl (by decide) (hts _ fl_X9_10) dX9_curve_1 (fun v1 hv1 hsv1 => ?_)
  obtain ⟨ad2, rfl, had2⟩ := tf_v1 hv1
  refine lv_iload_n hx hb dX9_curve_4 rfl (lv_at hl 1 rfl) ?_
  refine tf_calli (va_runV (As := [.int (Int32.ofInt x1)]) (rest := []) ⟨hx, hb, hml, hown, hts⟩ (c_X3_isGround l g T ad2 had2 (x1) ⟨by omega, by omega⟩) (cwV 1 hts gv_X9_124 rfl rfl rfl hd_X3_isGround ⟨Nat.le_trans (by decide) hR1, Nat.le_trans (by decide) hR2⟩) (tf_preV hk hW had2 (ci := 3) rfl rfl trivial) rfl rfl hl.1 rfl (lv_room (Nat.le_of_ble_eq_true rfl)) dX9_curve_5 ⟨Nat.zero_le _, Nat.zero_le _⟩) hW (by decide) (fun z3 H3 locs3 hW hF3 hp3 => ?_)
  have hs4 := tf_keepF hF3 ha0 rfl rfl (by decide) hsv1
  rcases hp3 with ⟨rfl, h5, h6⟩ | ⟨rfl⟩
  · refine tf_if_eq (tgt := 38) hx hb ⟨by decide, by decide⟩ dX9_curve_8 (by decide) (fun h7 => ?_) (fun h7 => ?_)
    · exfalso; omega
    · refine lv_iload_n hx hb dX9_curve_11 rfl (lv_at hl 2 rfl) ?_
      refine tf_calli (va_runS (As := [.int (Int32.ofInt x2)]) (rest := []) ⟨hx, hb, hml, hown, hts⟩ (c_X9_isWay l g T (x2) ⟨by omega, by omega⟩) ⟨callB_of 1 hts (gw_ws cm_X9_isWay) rfl rfl rfl (hts _ (tw1 (i := 2) rfl)) (hts _ (tw16 (i := 17) rfl)) hd_X9_isWay.2 ⟨Nat.le_trans (by decide) hR1, Nat.le_trans (by decide) hR2⟩, hts _ (tw16 (i := 18) rfl)⟩ (tf_preS hk hW trivial) rfl rfl hl.1 rfl (lv_room (Nat.le_of_ble_eq_true rfl)) dX9_curve_12 ⟨Nat.zero_le _, Nat.zero_le _⟩) hW (by decide) (fun z8 H8 locs8 hW hF8 hp8 => ?_)
      have hs9 := tf_keepF hF8 ha0 rfl rfl (by decide) hs4
      rcases hp8 with ⟨rfl, h10, h11⟩ | ⟨rfl, h12⟩
      · refine tf_if_eq (tgt := 38) hx hb ⟨by decide, by decide⟩ dX9_curve_15 (by decide) (fun h13 => ?_) (fun h13 => ?_)
        · exfalso; omega
        · refine lv_iload_n hx hb dX9_curve_18 rfl (lv_at hl 3 rfl) ?_
          refine tf_iconst hx hb dX9_curve_19 ?_
          refine tf_bipush hx hb dX9_curve_20 (by decide) ?_
          refine tf_calli (va_runS (As := [.int (Int32.ofInt x3), .int (Int32.ofInt 0), .int (Int32.ofInt 9)]) (rest := []) ⟨hx, hb, hml, hown, hts⟩ (c_X9_isWithin l g T (x3) ⟨by omega, by omega⟩ (0) ⟨by omega, by omega⟩ (9) ⟨by omega, by omega⟩) ⟨callB_of 3 hts (gw_ws cm_X9_isWithin) rfl rfl rfl (hts _ (tw1 (i := 2) rfl)) (hts _ (tw9 (i := 19) rfl)) hd_X9_isWithin.2 ⟨Nat.le_trans (by decide) hR1, Nat.le_trans (by decide) hR2⟩, hts _ (tw8 (i := 17) rfl)⟩ (tf_preS hk hW trivial) rfl rfl hl.1 rfl (lv_room (Nat.le_of_ble_eq_true rfl)) dX9_curve_22 ⟨Nat.zero_le _, Nat.zero_le _⟩) hW (by decide) (fun z14 H14 locs14 hW hF14 hp14 => ?_)
          have hs15 := tf_keepF hF14 ha0 rfl rfl (by decide) hs9
          rcases hp14 with ⟨rfl, h16, h17⟩ | ⟨rfl, h18⟩
          · refine tf_if_eq (tgt := 38) hx hb ⟨by decide, by decide⟩ dX9_curve_25 (by decide) (fun h19 => ?_) (fun h19 => ?_)
            · exfalso; omega
            · refine lv_iload hx hb dX9_curve_28 (lv_at hl 4 rfl) ?_
              refine tf_iconst hx hb dX9_curve_30 ?_
              refine tf_iconst hx hb dX9_curve_31 ?_
              refine tf_calli (va_runS (As := [.int (Int32.ofInt x4), .int (Int32.ofInt 1), .int (Int32.ofInt 5)]) (rest := []) ⟨hx, hb, hml, hown, hts⟩ (c_X9_isWithin l g T (x4) ⟨by omega, by omega⟩ (1) ⟨by omega, by omega⟩ (5) ⟨by omega, by omega⟩) ⟨callB_of 3 hts (gw_ws cm_X9_isWithin) rfl rfl rfl (hts _ (tw1 (i := 2) rfl)) (hts _ (tw9 (i := 19) rfl)) hd_X9_isWithin.2 ⟨Nat.le_trans (by decide) hR1, Nat.le_trans (by decide) hR2⟩, hts _ (tw8 (i := 17) rfl)⟩ (tf_preS hk hW trivial) rfl rfl hl.1 rfl (lv_room (Nat.le_of_ble_eq_true rfl)) dX9_curve_32 ⟨Nat.zero_le _, Nat.zero_le _⟩) hW (by decide) (fun z20 H20 locs20 hW hF20 hp20 => ?_)
              have hs21 := tf_keepF hF20 ha0 rfl rfl (by decide) hs15
              rcases hp20 with ⟨rfl, h22, h23⟩ | ⟨rfl, h24⟩
              · refine tf_if_ne (tgt := 40) hx hb ⟨by decide, by decide⟩ dX9_curve_35 (by decide) (fun h25 => ?_) (fun h25 => ?_)
                · refine lv_iload_n hx hb dX9_curve_40 rfl (lv_at hl 1 rfl) ?_
                  refine tf_bipush hx hb dX9_curve_41 (by decide) ?_
                  refine tf_irem hx hb ⟨by omega, by omega⟩ (by omega) ⟨by decide, by decide⟩ (by decide) dX9_curve_43 ?_
                  refine tf_name (fun z26 ez26 => ?_)
                  refine lv_iload hx hb dX9_curve_44 (lv_at hl 4 rfl) ?_
                  refine lv_iload_n hx hb dX9_curve_46 rfl (lv_at hl 2 rfl) ?_
                  refine tf_calli (va_runS (As := [.int (Int32.ofInt x2)]) (rest := [.int (Int32.ofInt x4), .int (Int32.ofInt z26)]) ⟨hx, hb, hml, hown, hts⟩ (c_X9_stepX l g T (x2) ⟨by omega, by omega⟩) ⟨callB_of 1 hts (gw_ws cm_X9_stepX) rfl rfl rfl (hts _ (tw1 (i := 2) rfl)) (hts _ (tw45 (i := 3) rfl)) hd_X9_stepX.2 ⟨Nat.le_trans (by decide) hR1, Nat.le_trans (by decide) hR2⟩, hts _ (tw45 (i := 4) rfl)⟩ (tf_preS hk hW trivial) rfl rfl hl.1 rfl (lv_room (Nat.le_of_ble_eq_true rfl)) dX9_curve_47 ⟨Nat.zero_le _, Nat.zero_le _⟩) hW (by decide) (fun z27 H27 locs27 hW hF27 hp27 => ?_)
                  have hs28 := tf_keepF hF27 ha0 rfl rfl (by decide) hs21
                  obtain ⟨hp27_0, hp27_1⟩ := hp27
                  refine tf_imul_b hx hb 5 1 (by omega) (by omega) (by omega) (by omega) dX9_curve_50 (fun z29 hz29 => ?_)
                  refine tf_isub hx hb dX9_curve_51 ?_
                  refine lv_istore (lv' := [(5, .int (Int32.ofInt ((z26 - z29)))), (0, .ref a0), (1, .int (Int32.ofInt x1)), (2, .int (Int32.ofInt x2)), (3, .int (Int32.ofInt x3)), (4, .int (Int32.ofInt x4))]) hx hb dX9_curve_52 hl (by decide) rfl (fun ls hl => ?_)
                  refine lv_iload_n hx hb dX9_curve_54 rfl (lv_at hl 2 rfl) ?_
                  refine tf_bipush hx hb dX9_curve_55 (by decide) ?_
                  refine tf_idiv hx hb ⟨by omega, by omega⟩ (by omega) ⟨by decide, by decide⟩ (by decide) dX9_curve_57 ?_
                  refine tf_name (fun z30 ez30 => ?_)
                  refine lv_iload hx hb dX9_curve_58 (lv_at hl 5 rfl) ?_
                  refine lv_iload_n hx hb dX9_curve_60 rfl (lv_at hl 3 rfl) ?_
                  refine tf_calli (va_runS (As := [.int (Int32.ofInt x2)]) (rest := [.int (Int32.ofInt x4), .int (Int32.ofInt z30)]) ⟨hx, hb, hml, hown, hts⟩ (c_X9_stepY l g T (x2) ⟨by omega, by omega⟩) ⟨callB_of 1 hts (gw_ws cm_X9_stepY) rfl rfl rfl (hts _ (tw1 (i := 2) rfl)) (hts _ (tw45 (i := 6) rfl)) hd_X9_stepY.2 ⟨Nat.le_trans (by decide) hR1, Nat.le_trans (by decide) hR2⟩, hts _ (tw45 (i := 7) rfl)⟩ (tf_preS hk hW trivial) rfl rfl hl.1 rfl (lv_room (Nat.le_of_ble_eq_true rfl)) dX9_curve_61 ⟨Nat.zero_le _, Nat.zero_le _⟩) hW (by decide) (fun z31 H31 locs31 hW hF31 hp31 => ?_)
                  have hs32 := tf_keepF hF31 ha0 rfl rfl (by decide) hs28
                  obtain ⟨hp31_0, hp31_1⟩ := hp31
                  refine tf_imul_b hx hb 5 1 (by omega) (by omega) (by omega) (by omega) dX9_curve_64 (fun z33 hz33 => ?_)
                  refine tf_isub hx hb dX9_curve_65 ?_
                  refine lv_istore (lv' := [(6, .int (Int32.ofInt ((z30 - z33)))), (5, .int (Int32.ofInt ((z26 - z29)))), (0, .ref a0), (1, .int (Int32.ofInt x1)), (2, .int (Int32.ofInt x2)), (3, .int (Int32.ofInt x3)), (4, .int (Int32.ofInt x4))]) hx hb dX9_curve_66 hl (by decide) rfl (fun ls hl => ?_)
                  refine lv_iload hx hb dX9_curve_68 (lv_at hl 1 rfl) ?_
                  refine tf_calli (va_runS (As := [.int (Int32.ofInt ((z26 - z29)))]) (rest := []) ⟨hx, hb, hml, hown, hts⟩ (c_X9_isOnEdge l g T ((z26 - z29)) ⟨by omega, by omega⟩) ⟨callB_of 1 hts (gw_ws cm_X9_isOnEdge) rfl rfl rfl (hts _ (tw1 (i := 2) rfl)) (hts _ (tw45 (i := 9) rfl)) hd_X9_isOnEdge.2 ⟨Nat.le_trans (by decide) hR1, Nat.le_trans (by decide) hR2⟩, hts _ (tw8 (i := 15) rfl)⟩ (tf_preS hk hW trivial) rfl rfl hl.1 rfl (lv_room (Nat.le_of_ble_eq_true rfl)) dX9_curve_70 ⟨Nat.zero_le _, Nat.zero_le _⟩) hW (by decide) (fun z34 H34 locs34 hW hF34 hp34 => ?_)
                  have hs35 := tf_keepF hF34 ha0 rfl rfl (by decide) hs32
                  rcases hp34 with ⟨rfl, h36, h37⟩ | ⟨rfl, h38⟩
                  · refine tf_if_eq (tgt := 102) hx hb ⟨by decide, by decide⟩ dX9_curve_73 (by decide) (fun h39 => ?_) (fun h39 => ?_)
                    · exfalso; omega
                    · refine lv_iload hx hb dX9_curve_76 (lv_at hl 0 rfl) ?_
                      refine tf_calli (va_runS (As := [.int (Int32.ofInt ((z30 - z33)))]) (rest := []) ⟨hx, hb, hml, hown, hts⟩ (c_X9_isOnEdge l g T ((z30 - z33)) ⟨by omega, by omega⟩) ⟨callB_of 1 hts (gw_ws cm_X9_isOnEdge) rfl rfl rfl (hts _ (tw1 (i := 2) rfl)) (hts _ (tw45 (i := 9) rfl)) hd_X9_isOnEdge.2 ⟨Nat.le_trans (by decide) hR1, Nat.le_trans (by decide) hR2⟩, hts _ (tw8 (i := 15) rfl)⟩ (tf_preS hk hW trivial) rfl rfl hl.1 rfl (lv_room (Nat.le_of_ble_eq_true rfl)) dX9_curve_78 ⟨Nat.zero_le _, Nat.zero_le _⟩) hW (by decide) (fun z40 H40 locs40 hW hF40 hp40 => ?_)
                      have hs41 := tf_keepF hF40 ha0 rfl rfl (by decide) hs35
                      rcases hp40 with ⟨rfl, h42, h43⟩ | ⟨rfl, h44⟩
                      · refine tf_if_eq (tgt := 102) hx hb ⟨by decide, by decide⟩ dX9_curve_81 (by decide) (fun h45 => ?_) (fun h45 => ?_)
                        · exfalso; omega
                        · refine lv_aload_n hx hb dX9_curve_84 rfl (lv_at hl 2 rfl) ?_
                          refine tf_get hx hb hts inlX9 hown hK (ci := 9) rfl hW ha0 rfl 0 rfl (by decide) (hts _ fl_X9_10) dX9_curve_85 (fun v46 hv46 hsv46 => ?_)
                          obtain rfl : v46 = .ref ad2 := Option.some.inj (hsv46.symm.trans hs41)
                          refine lv_iload hx hb dX9_curve_88 (lv_at hl 0 rfl) ?_
                          refine tf_bipush hx hb dX9_curve_90 (by decide) ?_
                          refine tf_imul hx hb dX9_curve_92 ?_
                          refine lv_iload hx hb dX9_curve_93 (lv_at hl 1 rfl) ?_
                          refine tf_iadd hx hb dX9_curve_95 ?_
                          refine tf_calli (va_runV (As := [.int (Int32.ofInt ((((z30 - z33) * 10) + (z26 - z29))))]) (rest := []) ⟨hx, hb, hml, hown, hts⟩ (c_X3_isGround l g T ad2 had2 ((((z30 - z33) * 10) + (z26 - z29))) ⟨by omega, by omega⟩) (cwV 1 hts gv_X9_124 rfl rfl rfl hd_X3_isGround ⟨Nat.le_trans (by decide) hR1, Nat.le_trans (by decide) hR2⟩) (tf_preV hk hW had2 (ci := 3) rfl rfl trivial) rfl rfl hl.1 rfl (lv_room (Nat.le_of_ble_eq_true rfl)) dX9_curve_96 ⟨Nat.zero_le _, Nat.zero_le _⟩) hW (by decide) (fun z47 H47 locs47 hW hF47 hp47 => ?_)
                          have hs48 := tf_keepF hF47 ha0 rfl rfl (by decide) hs41
                          rcases hp47 with ⟨rfl, h49, h50⟩ | ⟨rfl⟩
                          · refine tf_if_ne (tgt := 104) hx hb ⟨by decide, by decide⟩ dX9_curve_99 (by decide) (fun h51 => ?_) (fun h51 => ?_)
                            · refine lv_aload_n hx hb dX9_curve_104 rfl (lv_at hl 2 rfl) ?_
                              refine tf_get hx hb hts inlX9 hown hK (ci := 9) rfl hW ha0 rfl 3 rfl (by decide) (hts _ fl_X9_30) dX9_curve_105 (fun v52 hv52 hsv52 => ?_)
                              obtain ⟨ad53, rfl, had53⟩ := tf_v1 hv52
                              refine tf_get hx hb hts inlX6 hown hK (ci := 6) rfl hW had53 rfl 0 rfl (by decide) (hts _ fl_X9_208) dX9_curve_108 (fun v54 hv54 hsv54 => ?_)
                              obtain ⟨ad55, rfl, had55⟩ := tf_v1 hv54
                              refine lv_aload_n hx hb dX9_curve_111 rfl (lv_at hl 2 rfl) ?_
                              refine tf_get hx hb hts inlX9 hown hK (ci := 9) rfl hW ha0 rfl 0 rfl (by decide) (hts _ fl_X9_10) dX9_curve_112 (fun v56 hv56 hsv56 => ?_)
                              obtain rfl : v56 = .ref ad2 := Option.some.inj (hsv56.symm.trans hs48)
                              refine tf_get hx hb hts inlX3 hown hK (ci := 3) rfl hW had2 rfl 0 rfl (by decide) (hts _ fl_X9_79) dX9_curve_115 (fun v57 hv57 hsv57 => ?_)
                              obtain ⟨ad58, rfl, had58⟩ := tf_v1 hv57
                              refine tf_callv (va_runV (As := [.ref ad58]) (rest := []) ⟨hx, hb, hml, hown, hts⟩ (c_X0_become l g T ad55 had55 ad58 had58) (cwV 1 hts gv_X9_209 rfl rfl rfl hd_X0_become ⟨Nat.le_trans (by decide) hR1, Nat.le_trans (by decide) hR2⟩) (tf_preV hk hW had55 (ci := 0) rfl rfl trivial) rfl rfl hl.1 rfl (lv_room (Nat.le_of_ble_eq_true rfl)) dX9_curve_118 ⟨Nat.zero_le _, Nat.zero_le _⟩) hW (by decide) (fun H59 locs59 hW hF59 hp59 => ?_)
                              have hs60 := tf_keepF hF59 ha0 rfl rfl (by decide) hs48
                              have hs61 := tf_keepF hF59 ha0 rfl rfl (by decide) hsv52
                              have hs62 := tf_keepF hF59 had53 rfl rfl (by decide) hsv54
                              refine lv_aload_n hx hb dX9_curve_121 rfl (lv_at hl 2 rfl) ?_
                              refine tf_get hx hb hts inlX9 hown hK (ci := 9) rfl hW ha0 rfl 3 rfl (by decide) (hts _ fl_X9_30) dX9_curve_122 (fun v63 hv63 hsv63 => ?_)
                              obtain rfl : v63 = .ref ad53 := Option.some.inj (hsv63.symm.trans hs61)
                              refine tf_get hx hb hts inlX6 hown hK (ci := 6) rfl hW had53 rfl 0 rfl (by decide) (hts _ fl_X9_208) dX9_curve_125 (fun v64 hv64 hsv64 => ?_)
                              obtain rfl : v64 = .ref ad55 := Option.some.inj (hsv64.symm.trans hs62)
                              refine tf_get hx hb hts inlX0 hown hK (ci := 0) rfl hW had55 rfl 2 rfl (by decide) (hts _ fl_X9_248) dX9_curve_128 (fun v65 hv65 hsv65 => ?_)
                              obtain ⟨ad66, rfl, had66⟩ := tf_v1 hv65
                              refine lv_iload_n hx hb dX9_curve_131 rfl (lv_at hl 3 rfl) ?_
                              refine tf_calli (va_runS (As := [.int (Int32.ofInt x1)]) (rest := [.ref ad66]) ⟨hx, hb, hml, hown, hts⟩ (c_X9_spotOf l g T (x1) ⟨by omega, by omega⟩) ⟨callB_of 1 hts (gw_ws cm_X9_spotOf) rfl rfl rfl (hts _ (tw1 (i := 2) rfl)) (hts _ (tw15 (i := 8) rfl)) hd_X9_spotOf.2 ⟨Nat.le_trans (by decide) hR1, Nat.le_trans (by decide) hR2⟩, hts _ (tw9 (i := 2) rfl)⟩ (tf_preS hk hW trivial) rfl rfl hl.1 rfl (lv_room (Nat.le_of_ble_eq_true rfl)) dX9_curve_132 ⟨Nat.zero_le _, Nat.zero_le _⟩) hW (by decide) (fun z67 H67 locs67 hW hF67 hp67 => ?_)
                              have hs68 := tf_keepF hF67 ha0 rfl rfl (by decide) hs60
                              have hs69 := tf_keepF hF67 ha0 rfl rfl (by decide) hs61
                              have hs70 := tf_keepF hF67 had53 rfl rfl (by decide) hs62
                              obtain ⟨hp67_0, hp67_1⟩ := hp67
                              refine lv_iload_n hx hb dX9_curve_135 rfl (lv_at hl 5 rfl) ?_
                              refine tf_iast (t0 := 0) hx hb hK hW had66 rfl rfl (by omega) (by omega) (by decide) (tf_u0 (by omega) (by omega)) dX9_curve_136 (fun H71 locs71 hW hs71 ht71 hq71 => ?_)
                              have hs72 := tf_keepQ hs68 (hq71 _ (tf_ne ha0 had66 (by decide)))
                              have hs73 := tf_keepQ hs69 (hq71 _ (tf_ne ha0 had66 (by decide)))
                              have hs74 := tf_keepQ hs70 (hq71 _ (tf_ne had53 had66 (by decide)))
                              refine lv_aload_n hx hb dX9_curve_137 rfl (lv_at hl 2 rfl) ?_
                              refine tf_get hx hb hts inlX9 hown hK (ci := 9) rfl hW ha0 rfl 2 rfl (by decide) (hts _ fl_X9_23) dX9_curve_138 (fun v75 hv75 hsv75 => ?_)
                              obtain ⟨ad76, rfl, had76⟩ := tf_v1 hv75
                              refine lv_aload_n hx hb dX9_curve_141 rfl (lv_at hl 2 rfl) ?_
                              refine tf_get hx hb hts inlX9 hown hK (ci := 9) rfl hW ha0 rfl 0 rfl (by decide) (hts _ fl_X9_10) dX9_curve_142 (fun v77 hv77 hsv77 => ?_)
                              obtain rfl : v77 = .ref ad2 := Option.some.inj (hsv77.symm.trans hs72)
                              refine lv_aload_n hx hb dX9_curve_145 rfl (lv_at hl 2 rfl) ?_
                              refine tf_get hx hb hts inlX9 hown hK (ci := 9) rfl hW ha0 rfl 3 rfl (by decide) (hts _ fl_X9_30) dX9_curve_146 (fun v78 hv78 hsv78 => ?_)
                              obtain rfl : v78 = .ref ad53 := Option.some.inj (hsv78.symm.trans hs73)
                              refine tf_get hx hb hts inlX6 hown hK (ci := 6) rfl hW had53 rfl 0 rfl (by decide) (hts _ fl_X9_208) dX9_curve_149 (fun v79 hv79 hsv79 => ?_)
                              obtain rfl : v79 = .ref ad55 := Option.some.inj (hsv79.symm.trans hs74)
                              refine lv_iload hx hb dX9_curve_152 (lv_at hl 1 rfl) ?_
                              refine lv_iload hx hb dX9_curve_154 (lv_at hl 0 rfl) ?_
                              refine tf_calli (va_runS (As := [.int (Int32.ofInt ((z26 - z29))), .int (Int32.ofInt ((z30 - z33)))]) (rest := [.ref ad55, .ref ad2, .ref ad76]) ⟨hx, hb, hml, hown, hts⟩ (c_X9_spotAt l g T ((z26 - z29)) ⟨by omega, by omega⟩ ((z30 - z33)) ⟨by omega, by omega⟩) ⟨callB_of 2 hts (gw_ws cm_X9_spotAt) rfl rfl rfl (hts _ (tw1 (i := 2) rfl)) (hts _ (tw9 (i := 4) rfl)) hd_X9_spotAt.2 ⟨Nat.le_trans (by decide) hR1, Nat.le_trans (by decide) hR2⟩, hts _ (tw9 (i := 5) rfl)⟩ (tf_preS hk hW trivial) rfl rfl hl.1 rfl (lv_room (Nat.le_of_ble_eq_true rfl)) dX9_curve_156 ⟨Nat.zero_le _, Nat.zero_le _⟩) hW (by decide) (fun z80 H80 locs80 hW hF80 hp80 => ?_)
                              have hs81 := tf_keepF hF80 ha0 rfl rfl (by decide) hs72
                              have hs82 := tf_keepF hF80 ha0 rfl rfl (by decide) hs73
                              have hs83 := tf_keepF hF80 had53 rfl rfl (by decide) hs74
                              obtain ⟨hp80_0, hp80_1⟩ := hp80
                              refine lv_iload_n hx hb dX9_curve_159 rfl (lv_at hl 4 rfl) ?_
                              refine tf_calli (va_runV (As := [.ref ad2, .ref ad55, .int (Int32.ofInt z80), .int (Int32.ofInt x2)]) (rest := []) ⟨hx, hb, hml, hown, hts⟩ (c_X7_quick l g T ad76 had76 ad2 had2 ad55 had55 (z80) ⟨by omega, by omega⟩ (x2) ⟨by omega, by omega⟩ hE) (cwV 4 hts gv_X9_179 rfl rfl rfl hd_X7_quick ⟨Nat.le_trans (by decide) hR1, Nat.le_trans (by decide) hR2⟩) (tf_preV hk hW had76 (ci := 7) rfl rfl trivial) rfl rfl hl.1 rfl (lv_room (Nat.le_of_ble_eq_true rfl)) dX9_curve_160 ⟨Nat.zero_le _, Nat.zero_le _⟩) hW (by decide) (fun z84 H84 locs84 hW hF84 hp84 => ?_)
                              have hs85 := tf_keepF hF84 ha0 rfl rfl (by decide) hs81
                              have hs86 := tf_keepF hF84 ha0 rfl rfl (by decide) hs82
                              have hs87 := tf_keepF hF84 had53 rfl rfl (by decide) hs83
                              obtain ⟨hp84_0, hp84_1⟩ := hp84
                              exact tf_reti (z := z84) hx hb hr hlocks hQ hW (show (-2147483648) ≤ (z84) ∧ (z84) ≤ 2147483647 by omega) dX9_curve_163
                            · exfalso; omega
                          · refine tf_if_ne (tgt := 104) hx hb ⟨by decide, by decide⟩ dX9_curve_99 (by decide) (fun h88 => ?_) (fun h88 => ?_)
                            · exfalso; omega
                            · refine tf_iconst hx hb dX9_curve_102 ?_
                              exact tf_reti (z := (-1)) hx hb hr hlocks hQ hW (show (-2147483648) ≤ ((-1)) ∧ ((-1)) ≤ 2147483647 by omega) dX9_curve_103
                      · refine tf_if_eq (tgt := 102) hx hb ⟨by decide, by decide⟩ dX9_curve_81 (by decide) (fun h89 => ?_) (fun h89 => ?_)
                        · refine tf_iconst hx hb dX9_curve_102 ?_
                          exact tf_reti (z := (-1)) hx hb hr hlocks hQ hW (show (-2147483648) ≤ ((-1)) ∧ ((-1)) ≤ 2147483647 by omega) dX9_curve_103
                        · exfalso; omega
                  · refine tf_if_eq (tgt := 102) hx hb ⟨by decide, by decide⟩ dX9_curve_73 (by decide) (fun h90 => ?_) (fun h90 => ?_)
                    · refine tf_iconst hx hb dX9_curve_102 ?_
                      exact tf_reti (z := (-1)) hx hb hr hlocks hQ hW (show (-2147483648) ≤ ((-1)) ∧ ((-1)) ≤ 2147483647 by omega) dX9_curve_103
                    · exfalso; omega
                · exfalso; omega
              · refine tf_if_ne (tgt := 40) hx hb ⟨by decide, by decide⟩ dX9_curve_35 (by decide) (fun h91 => ?_) (fun h91 => ?_)
                · exfalso; omega
                · refine tf_iconst hx hb dX9_curve_38 ?_
                  exact tf_reti (z := (-1)) hx hb hr hlocks hQ hW (show (-2147483648) ≤ ((-1)) ∧ ((-1)) ≤ 2147483647 by omega) dX9_curve_39
          · refine tf_if_eq (tgt := 38) hx hb ⟨by decide, by decide⟩ dX9_curve_25 (by decide) (fun h92 => ?_) (fun h92 => ?_)
            · refine tf_iconst hx hb dX9_curve_38 ?_
              exact tf_reti (z := (-1)) hx hb hr hlocks hQ hW (show (-2147483648) ≤ ((-1)) ∧ ((-1)) ≤ 2147483647 by omega) dX9_curve_39
            · exfalso; omega
      · refine tf_if_eq (tgt := 38) hx hb ⟨by decide, by decide⟩ dX9_curve_15 (by decide) (fun h93 => ?_) (fun h93 => ?_)
        · refine tf_iconst hx hb dX9_curve_38 ?_
          exact tf_reti (z := (-1)) hx hb hr hlocks hQ hW (show (-2147483648) ≤ ((-1)) ∧ ((-1)) ≤ 2147483647 by omega) dX9_curve_39
        · exfalso; omega
  · refine tf_if_eq (tgt := 38) hx hb ⟨by decide, by decide⟩ dX9_curve_8 (by decide) (fun h94 => ?_) (fun h94 => ?_)
    · refine tf_iconst hx hb dX9_curve_38 ?_
      exact tf_reti (z := (-1)) hx hb hr hlocks hQ hW (show (-2147483648) ≤ ((-1)) ∧ ((-1)) ≤ 2147483647 by omega) dX9_curve_39
    · exfalso; omega

abbrev M_X9_seat : List (Nat × Nat) := [(0, 0), (4, 0), (24, 5)]
set_option maxHeartbeats 4000000 in
set_option maxRecDepth 100000 in
theorem c_X9_seat (l : Launch) (g : tf_G) (T : tf_T) (a0 : Nat) (ha0 : T a0 = some (26, 0)) (x1 : Int) (hp1 : (-2147483648) ≤ x1 ∧ x1 ≤ 2147483647) (x2 : Int) (hp2 : (-2147483648) ≤ x2 ∧ x2 ≤ 2147483647) (hE : tf_E g T) : Met l yX9_seat (cd_X9_seat :: wsL_law) ({ frames := 6, cells := 0, slots := 0, locals := 159 }) (tf_P g T [.ref a0, .int (Int32.ofInt x1), .int (Int32.ofInt x2)] (fun H => True)) (tf_Qi g M_X9_seat T (fun z _ _ => (-2147483648) ≤ z ∧ z ≤ 2147483647)) 0 0 (fun q => tf_B g ≤ q) := by
  refine Met.ofW (cc := cX9_seat) (maxL := 6) (ret := (some .int)) (by decide) rfl ?_
  intro p e s m args below meth c s₁ B hml hv
  obtain ⟨hargs, hk, hW0, hB, hpre⟩ := hv
  have hx := B.exec
  have hb := B.bytes
  have hr := B.returns
  have hts : ∀ w ∈ wsL_law, w.before args s = true := fun w h => atoms_spec (ws := cd_X9_seat :: wsL_law) B.pre w (List.mem_cons_of_mem _ h)
  have hown : s.vm.findClass RX9 = some m.cls := findClass_of_methodNamed B.named
  have hlocks := B.notSynchronized
  have hK := hk.1
  have hW := tf_n.start (M := M_X9_seat) hW0 hB
  obtain ⟨Q, hQ⟩ : ∃ q, q = MQ below (tf_Qi g M_X9_seat T (fun z _ _ => (-2147483648) ≤ z ∧ z ≤ 2147483647)) args s 0 0 (fun q => tf_B g ≤ q) := ⟨_, rfl⟩
  rw [← hQ]
  obtain ⟨R, hR⟩ : ∃ q, q = (headSpec (cd_X9_seat :: wsL_law) ({ frames := 6, cells := 0, slots := 0, locals := 159 })).room := ⟨_, rfl⟩
  rw [← hR]
  have hR1 : 6 ≤ R.frames := by rw [hR]; exact Nat.le_refl _
  have hR2 : 159 ≤ R.locals := by rw [hR]; exact Nat.le_refl _
  have hR3 : 0 ≤ R.cells := by rw [hR]; exact Nat.le_refl _
  have hR4 : 0 ≤ R.slots := by rw [hR]; exact Nat.le_refl _
  have hin := (name_of_methodNamed B.named B.method).1
  clear hR B
  have j_13 : ∀ (n_13 : Nat), 1 ≤ x1 ∧ x1 ≤ 3 → (-2147483648) ≤ x2 ∧ x2 ≤ 2147483647 → ∀ (x3_13 : Int), 0 ≤ x3_13 ∧ x3_13 ≤ 100 → (100 - x3_13 + 1 ≤ (n_13 : Int)) → ∀ (H : Heap) (locs : List Loc), tf_n tf_kt g M_X9_seat T s.heap T H locs → ∀ (ls : Array Slot), lv_has ls 6 [(0, .ref a0), (1, .int (Int32.ofInt x1)), (2, .int (Int32.ofInt x2)), (3, .int (Int32.ofInt x3_13))] → W p l e R s m args below meth c H locs 0 0 Q (F0 m 13 ls []) := by
    intro n_13
    induction n_13 with
    | zero =>
      intro hx1_13 hx2_13 x3_13 hx3_13 hm_13
      exfalso; omega
    | succ n_13 ih_13 =>
      intro hx1_13 hx2_13 x3_13 hx3_13 hm_13 H locs hW  ls hl
      have j_104 : 1 ≤ x1 ∧ x1 ≤ 3 → (-2147483648) ≤ x2 ∧ x2 ≤ 2147483647 → 0 ≤ x3_13 ∧ x3_13 ≤ 99 → ∀ (b0_104 : Nat), T b0_104 = some (0, 100) → 0 ≤ x3_13 ∧ x3_13 ≤ 99 → ∀ (y2_104 : Int), (-2147483648) ≤ y2_104 ∧ y2_104 ≤ 2147483647 → ∀ (H : Heap) (locs : List Loc), tf_n tf_kt g M_X9_seat T s.heap T H locs → ∀ (ls : Array Slot), lv_has ls 6 [(0, .ref a0), (1, .int (Int32.ofInt x1)), (2, .int (Int32.ofInt x2)), (3, .int (Int32.ofInt x3_13))] → W p l e R s m args below meth c H locs 0 0 Q (F0 m 104 ls [.int (Int32.ofInt y2_104), .int (Int32.ofInt x3_13), .ref b0_104]) := by
        intro hx1_104 hx2_104 hx3_104 b0_104 hb0_104 hy1_104 y2_104 hy2_104 H locs hW  ls hl
        refine tf_iast (t0 := 0) hx hb hK hW hb0_104 rfl rfl (by omega) (by omega) (by decide) (tf_u0 (by omega) (by omega)) dX9_seat_104 (fun H1 locs1 hW hs1 ht1 hq1 => ?_)
        refine lv_iinc (v := Int32.ofInt ((x3_13 + 1))) (lv' := [(3, .int (Int32.ofInt ((x3_13 + 1)))), (0, .ref a0), (1, .int (Int32.ofInt x1)), (2, .int (Int32.ofInt x2))]) hx hb dX9_seat_105 hl (k := 3) rfl (Int32.ofInt_add _ _).symm (by decide) rfl (fun ls hl => ?_)
        refine lv_goto (tgt := 13) hx hb dX9_seat_108 (by decide) ?_
        exact ih_13 ⟨by omega, by omega⟩ ⟨by omega, by omega⟩ ((x3_13 + 1)) ⟨by omega, by omega⟩ (by omega) _ _ hW  _ (lv_sub hl [1, 2, 3, 0] rfl)
      have j_57 : 1 ≤ x1 ∧ x1 ≤ 3 → (-2147483648) ≤ x2 ∧ x2 ≤ 2147483647 → 0 ≤ x3_13 ∧ x3_13 ≤ 99 → ∀ (x4_57 : Int), 51 ≤ x4_57 ∧ x4_57 ≤ 204 → ∀ (y0_57 : Int), 0 ≤ y0_57 ∧ y0_57 ≤ 1 → ∀ (H : Heap) (locs : List Loc), tf_n tf_kt g M_X9_seat T s.heap T H locs → ∀ (ls : Array Slot), lv_has ls 6 [(0, .ref a0), (1, .int (Int32.ofInt x1)), (2, .int (Int32.ofInt x2)), (3, .int (Int32.ofInt x3_13)), (4, .int (Int32.ofInt x4_57))] → W p l e R s m args below meth c H locs 0 0 Q (F0 m 57 ls [.int (Int32.ofInt y0_57)]) := by
        intro hx1_57 hx2_57 hx3_57 x4_57 hx4_57 y0_57 hy0_57 H locs hW  ls hl
        refine lv_istore (lv' := [(5, .int (Int32.ofInt y0_57)), (0, .ref a0), (1, .int (Int32.ofInt x1)), (2, .int (Int32.ofInt x2)), (3, .int (Int32.ofInt x3_13)), (4, .int (Int32.ofInt x4_57))]) hx hb dX9_seat_57 hl (by decide) rfl (fun ls hl => ?_)
        refine lv_aload_n hx hb dX9_seat_59 rfl (lv_at hl 1 rfl) ?_
        refine tf_get hx hb hts inlX9 hown hK (ci := 9) rfl hW ha0 rfl 5 rfl (by decide) (hts _ fl_X9_41) dX9_seat_60 (fun v2 hv2 hsv2 => ?_)
        obtain ⟨ad3, rfl, had3⟩ := tf_v1 hv2
        refine lv_iload_n hx hb dX9_seat_63 rfl (lv_at hl 4 rfl) ?_
        refine lv_iload hx hb dX9_seat_64 (lv_at hl 0 rfl) ?_
        refine tf_if_ne (tgt := 74) hx hb ⟨by omega, by omega⟩ dX9_seat_66 (by decide) (fun h4 => ?_) (fun h4 => ?_)
        · refine lv_aload_n hx hb dX9_seat_74 rfl (lv_at hl 1 rfl) ?_
          refine tf_get hx hb hts inlX9 hown hK (ci := 9) rfl hW ha0 rfl 2 rfl (by decide) (hts _ fl_X9_23) dX9_seat_75 (fun v5 hv5 hsv5 => ?_)
          obtain ⟨ad6, rfl, had6⟩ := tf_v1 hv5
          refine lv_aload_n hx hb dX9_seat_78 rfl (lv_at hl 1 rfl) ?_
          refine tf_get hx hb hts inlX9 hown hK (ci := 9) rfl hW ha0 rfl 0 rfl (by decide) (hts _ fl_X9_10) dX9_seat_79 (fun v7 hv7 hsv7 => ?_)
          obtain ⟨ad8, rfl, had8⟩ := tf_v1 hv7
          refine lv_aload_n hx hb dX9_seat_82 rfl (lv_at hl 1 rfl) ?_
          refine tf_get hx hb hts inlX9 hown hK (ci := 9) rfl hW ha0 rfl 0 rfl (by decide) (hts _ fl_X9_10) dX9_seat_83 (fun v9 hv9 hsv9 => ?_)
          obtain rfl : v9 = .ref ad8 := Option.some.inj (hsv9.symm.trans hsv7)
          refine tf_get hx hb hts inlX3 hown hK (ci := 3) rfl hW had8 rfl 0 rfl (by decide) (hts _ fl_X9_79) dX9_seat_86 (fun v10 hv10 hsv10 => ?_)
          obtain ⟨ad11, rfl, had11⟩ := tf_v1 hv10
          refine lv_iload hx hb dX9_seat_89 (lv_at hl 5 rfl) ?_
          refine lv_aload_n hx hb dX9_seat_91 rfl (lv_at hl 1 rfl) ?_
          refine tf_get hx hb hts inlX9 hown hK (ci := 9) rfl hW ha0 rfl 0 rfl (by decide) (hts _ fl_X9_10) dX9_seat_92 (fun v12 hv12 hsv12 => ?_)
          obtain rfl : v12 = .ref ad8 := Option.some.inj (hsv12.symm.trans hsv7)
          refine tf_get hx hb hts inlX3 hown hK (ci := 3) rfl hW had8 rfl 3 rfl (by decide) (hts _ fl_X9_134) dX9_seat_95 (fun v13 hv13 hsv13 => ?_)
          obtain ⟨ad14, rfl, had14⟩ := tf_v1 hv13
          refine lv_iload_n hx hb dX9_seat_98 rfl (lv_at hl 2 rfl) ?_
          refine tf_iald (t0 := 0) hx hb hK hW had14 rfl rfl (by omega) (by omega) dX9_seat_99 (fun v15 hv15 hsv15 => ?_)
          obtain ⟨z16, rfl, hz16⟩ := tf_v0 hv15
          refine tf_calli (va_runV (As := [.ref ad8, .ref ad11, .int (Int32.ofInt x4_57), .int (Int32.ofInt z16)]) (rest := [.int (Int32.ofInt x3_13), .ref ad3]) ⟨hx, hb, hml, hown, hts⟩ (c_X7_hoursAbove l g T ad6 had6 ad8 had8 ad11 had11 (x4_57) ⟨by omega, by omega⟩ (z16) ⟨by omega, by omega⟩ hE) (cwV 4 hts gv_X9_190 rfl rfl rfl hd_X7_hoursAbove ⟨Nat.le_trans (by decide) hR1, Nat.le_trans (by decide) hR2⟩) (tf_preV hk hW had6 (ci := 7) rfl rfl trivial) rfl rfl hl.1 rfl (lv_room (Nat.le_of_ble_eq_true rfl)) dX9_seat_100 ⟨Nat.zero_le _, Nat.zero_le _⟩) hW (by decide) (fun z17 H17 locs17 hW hF17 hp17 => ?_)
          have hs18 := tf_keepF hF17 ha0 rfl rfl (by decide) hsv7
          obtain ⟨hp17_0, hp17_1⟩ := hp17
          refine tf_ineg_any hx hb dX9_seat_103 (fun z19 hz19 => ?_)
          exact j_104 ⟨by omega, by omega⟩ ⟨by omega, by omega⟩ ⟨by omega, by omega⟩ ad3 had3 ⟨by omega, by omega⟩ (z19) ⟨by omega, by omega⟩ _ _ hW  _ (lv_sub hl [1, 2, 3, 4] rfl)
        · refine tf_ldc (z := -1000000001) hx hb hown (hts _ kc_X9_200) (by decide) dX9_seat_69 ?_
          refine lv_goto (tgt := 104) hx hb dX9_seat_71 (by decide) ?_
          exact j_104 ⟨by omega, by omega⟩ ⟨by omega, by omega⟩ ⟨by omega, by omega⟩ ad3 had3 ⟨by omega, by omega⟩ ((-1000000001)) ⟨by omega, by omega⟩ _ _ hW  _ (lv_sub hl [1, 2, 3, 4] rfl)
      have j_56 : 1 ≤ x1 ∧ x1 ≤ 3 → (-2147483648) ≤ x2 ∧ x2 ≤ 2147483647 → 0 ≤ x3_13 ∧ x3_13 ≤ 99 → ∀ (x4_56 : Int), 51 ≤ x4_56 ∧ x4_56 ≤ 204 → ∀ (H : Heap) (locs : List Loc), tf_n tf_kt g M_X9_seat T s.heap T H locs → ∀ (ls : Array Slot), lv_has ls 6 [(0, .ref a0), (1, .int (Int32.ofInt x1)), (2, .int (Int32.ofInt x2)), (3, .int (Int32.ofInt x3_13)), (4, .int (Int32.ofInt x4_56))] → W p l e R s m args below meth c H locs 0 0 Q (F0 m 56 ls []) := by
        intro hx1_56 hx2_56 hx3_56 x4_56 hx4_56 H locs hW  ls hl
        refine tf_iconst hx hb dX9_seat_56 ?_
        exact j_57 ⟨by omega, by omega⟩ ⟨by omega, by omega⟩ ⟨by omega, by omega⟩ (x4_56) ⟨by omega, by omega⟩ (0) ⟨by omega, by omega⟩ _ _ hW  _ (lv_sub hl [0, 1, 2, 3, 4] rfl)
      refine lv_iload_n hx hb dX9_seat_13 rfl (lv_at hl 3 rfl) ?_
      refine tf_bipush hx hb dX9_seat_14 (by decide) ?_
      refine tf_icmp_ge (tgt := 111) hx hb ⟨by omega, by omega⟩ ⟨by decide, by decide⟩ dX9_seat_16 (by decide) (fun h20 => ?_) (fun h20 => ?_)
      · refine lv_aload_n hx hb dX9_seat_111 rfl (lv_at hl 0 rfl) ?_
        refine lv_iload_n hx hb dX9_seat_112 rfl (lv_at hl 2 rfl) ?_
        refine tf_calli (va_runV (As := [.int (Int32.ofInt x2)]) (rest := []) ⟨hx, hb, hml, hown, hts⟩ (c_X9_greatestKey l g T a0 ha0 (x2) ⟨by omega, by omega⟩) (cwV 1 hts gv_X9_201 rfl rfl rfl hd_X9_greatestKey ⟨Nat.le_trans (by decide) hR1, Nat.le_trans (by decide) hR2⟩) (tf_preV hk hW ha0 (ci := 9) rfl rfl trivial) rfl rfl hl.1 rfl (lv_room (Nat.le_of_ble_eq_true rfl)) dX9_seat_113 ⟨Nat.zero_le _, Nat.zero_le _⟩) hW (by decide) (fun z21 H21 locs21 hW hF21 hp21 => ?_)
        obtain ⟨hp21_0, hp21_1⟩ := hp21
        exact tf_reti (z := z21) hx hb hr hlocks hQ hW (show (-2147483648) ≤ (z21) ∧ (z21) ≤ 2147483647 by omega) dX9_seat_116
      · refine lv_iload_n hx hb dX9_seat_19 rfl (lv_at hl 3 rfl) ?_
        refine tf_calli (va_runS (As := [.int (Int32.ofInt x3_13)]) (rest := []) ⟨hx, hb, hml, hown, hts⟩ (c_X9_spotOf l g T (x3_13) ⟨by omega, by omega⟩) ⟨callB_of 1 hts (gw_ws cm_X9_spotOf) rfl rfl rfl (hts _ (tw1 (i := 2) rfl)) (hts _ (tw15 (i := 8) rfl)) hd_X9_spotOf.2 ⟨Nat.le_trans (by decide) hR1, Nat.le_trans (by decide) hR2⟩, hts _ (tw9 (i := 2) rfl)⟩ (tf_preS hk hW trivial) rfl rfl hl.1 rfl (lv_room (Nat.le_of_ble_eq_true rfl)) dX9_seat_20 ⟨Nat.zero_le _, Nat.zero_le _⟩) hW (by decide) (fun z22 H22 locs22 hW hF22 hp22 => ?_)
        obtain ⟨hp22_0, hp22_1⟩ := hp22
        refine lv_istore (lv' := [(4, .int (Int32.ofInt z22)), (0, .ref a0), (1, .int (Int32.ofInt x1)), (2, .int (Int32.ofInt x2)), (3, .int (Int32.ofInt x3_13))]) hx hb dX9_seat_23 hl (by decide) rfl (fun ls hl => ?_)
        refine lv_aload_n hx hb dX9_seat_25 rfl (lv_at hl 1 rfl) ?_
        refine tf_get hx hb hts inlX9 hown hK (ci := 9) rfl hW ha0 rfl 0 rfl (by decide) (hts _ fl_X9_10) dX9_seat_26 (fun v23 hv23 hsv23 => ?_)
        obtain ⟨ad24, rfl, had24⟩ := tf_v1 hv23
        refine lv_iload_n hx hb dX9_seat_29 rfl (lv_at hl 4 rfl) ?_
        refine tf_calli (va_runV (As := [.int (Int32.ofInt x3_13)]) (rest := []) ⟨hx, hb, hml, hown, hts⟩ (c_X3_isGround l g T ad24 had24 (x3_13) ⟨by omega, by omega⟩) (cwV 1 hts gv_X9_124 rfl rfl rfl hd_X3_isGround ⟨Nat.le_trans (by decide) hR1, Nat.le_trans (by decide) hR2⟩) (tf_preV hk hW had24 (ci := 3) rfl rfl trivial) rfl rfl hl.1 rfl (lv_room (Nat.le_of_ble_eq_true rfl)) dX9_seat_30 ⟨Nat.zero_le _, Nat.zero_le _⟩) hW (by decide) (fun z25 H25 locs25 hW hF25 hp25 => ?_)
        have hs26 := tf_keepF hF25 ha0 rfl rfl (by decide) hsv23
        rcases hp25 with ⟨rfl, h27, h28⟩ | ⟨rfl⟩
        · refine tf_if_eq (tgt := 56) hx hb ⟨by decide, by decide⟩ dX9_seat_33 (by decide) (fun h29 => ?_) (fun h29 => ?_)
          · exfalso; omega
          · refine lv_aload_n hx hb dX9_seat_36 rfl (lv_at hl 1 rfl) ?_
            refine tf_get hx hb hts inlX9 hown hK (ci := 9) rfl hW ha0 rfl 0 rfl (by decide) (hts _ fl_X9_10) dX9_seat_37 (fun v30 hv30 hsv30 => ?_)
            obtain rfl : v30 = .ref ad24 := Option.some.inj (hsv30.symm.trans hs26)
            refine tf_get hx hb hts inlX3 hown hK (ci := 3) rfl hW had24 rfl 0 rfl (by decide) (hts _ fl_X9_79) dX9_seat_40 (fun v31 hv31 hsv31 => ?_)
            obtain ⟨ad32, rfl, had32⟩ := tf_v1 hv31
            refine tf_get hx hb hts inlX0 hown hK (ci := 0) rfl hW had32 rfl 3 rfl (by decide) (hts _ fl_X9_254) dX9_seat_43 (fun v33 hv33 hsv33 => ?_)
            obtain ⟨ad34, rfl, had34⟩ := tf_v1 hv33
            refine lv_iload hx hb dX9_seat_46 (lv_at hl 0 rfl) ?_
            refine tf_iald (t0 := 0) hx hb hK hW had34 rfl rfl (by omega) (by omega) dX9_seat_48 (fun v35 hv35 hsv35 => ?_)
            obtain ⟨z36, rfl, hz36⟩ := tf_v0 hv35
            refine tf_if_ne (tgt := 56) hx hb ⟨by omega, by omega⟩ dX9_seat_49 (by decide) (fun h37 => ?_) (fun h37 => ?_)
            · exact j_56 ⟨by omega, by omega⟩ ⟨by omega, by omega⟩ ⟨by omega, by omega⟩ (z22) ⟨by omega, by omega⟩ _ _ hW  _ (lv_sub hl [1, 2, 3, 4, 0] rfl)
            · refine tf_iconst hx hb dX9_seat_52 ?_
              refine lv_goto (tgt := 57) hx hb dX9_seat_53 (by decide) ?_
              exact j_57 ⟨by omega, by omega⟩ ⟨by omega, by omega⟩ ⟨by omega, by omega⟩ (z22) ⟨by omega, by omega⟩ (1) ⟨by omega, by omega⟩ _ _ hW  _ (lv_sub hl [1, 2, 3, 4, 0] rfl)
        · refine tf_if_eq (tgt := 56) hx hb ⟨by decide, by decide⟩ dX9_seat_33 (by decide) (fun h38 => ?_) (fun h38 => ?_)
          · exact j_56 ⟨by omega, by omega⟩ ⟨by omega, by omega⟩ ⟨by omega, by omega⟩ (z22) ⟨by omega, by omega⟩ _ _ hW  _ (lv_sub hl [1, 2, 3, 4, 0] rfl)
          · exfalso; omega
  refine tf_enter (As := [.ref a0, .int (Int32.ofInt x1), .int (Int32.ofInt x2)]) hargs (Nat.le_of_ble_eq_true rfl) (fun ls hl => ?_)
  have hl : lv_has ls 6 [(0, .ref a0), (1, .int (Int32.ofInt x1)), (2, .int (Int32.ofInt x2))] := hl
  refine lv_iload_n hx hb dX9_seat_0 rfl (lv_at hl 1 rfl) ?_
  refine tf_iconst hx hb dX9_seat_1 ?_
  refine tf_iconst hx hb dX9_seat_2 ?_
  refine tf_calli (va_runS (As := [.int (Int32.ofInt x1), .int (Int32.ofInt 1), .int (Int32.ofInt 3)]) (rest := []) ⟨hx, hb, hml, hown, hts⟩ (c_X9_isWithin l g T (x1) ⟨by omega, by omega⟩ (1) ⟨by omega, by omega⟩ (3) ⟨by omega, by omega⟩) ⟨callB_of 3 hts (gw_ws cm_X9_isWithin) rfl rfl rfl (hts _ (tw1 (i := 2) rfl)) (hts _ (tw9 (i := 19) rfl)) hd_X9_isWithin.2 ⟨Nat.le_trans (by decide) hR1, Nat.le_trans (by decide) hR2⟩, hts _ (tw8 (i := 17) rfl)⟩ (tf_preS hk hW trivial) rfl rfl hl.1 rfl (lv_room (Nat.le_of_ble_eq_true rfl)) dX9_seat_3 ⟨Nat.zero_le _, Nat.zero_le _⟩) hW (by decide) (fun z39 H39 locs39 hW hF39 hp39 => ?_)
  rcases hp39 with ⟨rfl, h40, h41⟩ | ⟨rfl, h42⟩
  · refine tf_if_ne (tgt := 11) hx hb ⟨by decide, by decide⟩ dX9_seat_6 (by decide) (fun h43 => ?_) (fun h43 => ?_)
    · refine tf_iconst hx hb dX9_seat_11 ?_
      refine lv_istore_n (lv' := [(3, .int (Int32.ofInt 0)), (0, .ref a0), (1, .int (Int32.ofInt x1)), (2, .int (Int32.ofInt x2))]) hx hb dX9_seat_12 rfl hl (by decide) rfl (fun ls hl => ?_)
      exact j_13 ((100 - 0 + 1 : Int)).toNat ⟨by omega, by omega⟩ ⟨by omega, by omega⟩ (0) ⟨by omega, by omega⟩ (by omega) _ _ hW  _ (lv_sub hl [1, 2, 3, 0] rfl)
    · exfalso; omega
  · refine tf_if_ne (tgt := 11) hx hb ⟨by decide, by decide⟩ dX9_seat_6 (by decide) (fun h44 => ?_) (fun h44 => ?_)
    · exfalso; omega
    · refine tf_iconst hx hb dX9_seat_9 ?_
      exact tf_reti (z := (-1)) hx hb hr hlocks hQ hW (show (-2147483648) ≤ ((-1)) ∧ ((-1)) ≤ 2147483647 by omega) dX9_seat_10

abbrev M_X9_work : List (Nat × Nat) := [(9, 0), (12, 0), (23, 2), (23, 6), (23, 10), (25, 4), (26, 13)]
set_option maxHeartbeats 4000000 in
set_option maxRecDepth 100000 in
theorem c_X9_work (l : Launch) (g : tf_G) (T : tf_T) (a0 : Nat) (ha0 : T a0 = some (26, 0)) (x1 : Int) (hp1 : (-2147483648) ≤ x1 ∧ x1 ≤ 2147483647) (x2 : Int) (hp2 : (-2147483648) ≤ x2 ∧ x2 ≤ 2147483647) (x3 : Int) (hp3 : (-2147483648) ≤ x3 ∧ x3 ≤ 2147483647) (x4 : Int) (hp4 : (-2147483648) ≤ x4 ∧ x4 ≤ 2147483647) : Met l yX9_work (cd_X9_work :: wsL_law) ({ frames := 5, cells := 0, slots := 0, locals := 111 }) (tf_P g T [.ref a0, .int (Int32.ofInt x1), .int (Int32.ofInt x2), .int (Int32.ofInt x3), .int (Int32.ofInt x4)] (fun H => True)) (tf_Qi g M_X9_work T (fun z _ _ => (-2147483648) ≤ z ∧ z ≤ 2147483647)) 0 0 (fun q => tf_B g ≤ q) := by
  refine Met.ofW (cc := cX9_work) (maxL := 6) (ret := (some .int)) (by decide) rfl ?_
  intro p e s m args below meth c s₁ B hml hv
  obtain ⟨hargs, hk, hW0, hB, hpre⟩ := hv
  have hx := B.exec
  have hb := B.bytes
  have hr := B.returns
  have hts : ∀ w ∈ wsL_law, w.before args s = true := fun w h => atoms_spec (ws := cd_X9_work :: wsL_law) B.pre w (List.mem_cons_of_mem _ h)
  have hown : s.vm.findClass RX9 = some m.cls := findClass_of_methodNamed B.named
  have hlocks := B.notSynchronized
  have hK := hk.1
  have hW := tf_n.start (M := M_X9_work) hW0 hB
  obtain ⟨Q, hQ⟩ : ∃ q, q = MQ below (tf_Qi g M_X9_work T (fun z _ _ => (-2147483648) ≤ z ∧ z ≤ 2147483647)) args s 0 0 (fun q => tf_B g ≤ q) := ⟨_, rfl⟩
  rw [← hQ]
  obtain ⟨R, hR⟩ : ∃ q, q = (headSpec (cd_X9_work :: wsL_law) ({ frames := 5, cells := 0, slots := 0, locals := 111 })).room := ⟨_, rfl⟩
  rw [← hR]
  have hR1 : 5 ≤ R.frames := by rw [hR]; exact Nat.le_refl _
  have hR2 : 111 ≤ R.locals := by rw [hR]; exact Nat.le_refl _
  have hR3 : 0 ≤ R.cells := by rw [hR]; exact Nat.le_refl _
  have hR4 : 0 ≤ R.slots := by rw [hR]; exact Nat.le_refl _
  have hin := (name_of_methodNamed B.named B.method).1
  clear hR B
  refine tf_enter (As := [.ref a0, .int (Int32.ofInt x1), .int (Int32.ofInt x2), .int (Int32.ofInt x3), .int (Int32.ofInt x4)]) hargs (Nat.le_of_ble_eq_true rfl) (fun ls hl => ?_)
  have hl : lv_has ls 6 [(0, .ref a0), (1, .int (Int32.ofInt x1)), (2, .int (Int32.ofInt x2)), (3, .int (Int32.ofInt x3)), (4, .int (Int32.ofInt x4))] := hl
  refine lv_aload_n hx hb dX9_work_0 rfl (lv_at hl 0 rfl) ?_
  refine tf_get hx hb hts inlX9 hown hK (ci := 9) rfl hW ha0 rfl 0 rfl (by decide) (hts _ fl_X9_10) dX9_work_1 (fun v1 hv1 hsv1 => ?_)
  obtain ⟨ad2, rfl, had2⟩ := tf_v1 hv1
  refine lv_iload_n hx hb dX9_work_4 rfl (lv_at hl 1 rfl) ?_
  refine lv_iload_n hx hb dX9_work_5 rfl (lv_at hl 2 rfl) ?_
  refine lv_iload_n hx hb dX9_work_6 rfl (lv_at hl 3 rfl) ?_
  refine lv_iload hx hb dX9_work_7 (lv_at hl 4 rfl) ?_
  refine tf_calli (va_runV (As := [.int (Int32.ofInt x1), .int (Int32.ofInt x2), .int (Int32.ofInt x3), .int (Int32.ofInt x4)]) (rest := []) ⟨hx, hb, hml, hown, hts⟩ (c_X3_whyNoWork l g T ad2 had2 (x1) ⟨by omega, by omega⟩ (x2) ⟨by omega, by omega⟩ (x3) ⟨by omega, by omega⟩ (x4) ⟨by omega, by omega⟩) (cwV 4 hts gv_X9_257 rfl rfl rfl hd_X3_whyNoWork ⟨Nat.le_trans (by decide) hR1, Nat.le_trans (by decide) hR2⟩) (tf_preV hk hW had2 (ci := 3) rfl rfl trivial) rfl rfl hl.1 rfl (lv_room (Nat.le_of_ble_eq_true rfl)) dX9_work_9 ⟨Nat.zero_le _, Nat.zero_le _⟩) hW (by decide) (fun z3 H3 locs3 hW hF3 hp3 => ?_)
  have hs4 := tf_keepF hF3 ha0 rfl rfl (by decide) hsv1
  obtain ⟨hp3_0, hp3_1⟩ := hp3
  refine lv_istore (lv' := [(5, .int (Int32.ofInt z3)), (0, .ref a0), (1, .int (Int32.ofInt x1)), (2, .int (Int32.ofInt x2)), (3, .int (Int32.ofInt x3)), (4, .int (Int32.ofInt x4))]) hx hb dX9_work_12 hl (by decide) rfl (fun ls hl => ?_)
  refine lv_iload hx hb dX9_work_14 (lv_at hl 0 rfl) ?_
  refine tf_if_eq (tgt := 28) hx hb ⟨by omega, by omega⟩ dX9_work_16 (by decide) (fun h5 => ?_) (fun h5 => ?_)
  · refine lv_aload_n hx hb dX9_work_28 rfl (lv_at hl 1 rfl) ?_
    refine lv_aload_n hx hb dX9_work_29 rfl (lv_at hl 1 rfl) ?_
    refine tf_get hx hb hts inlX9 hown hK (ci := 9) rfl hW ha0 rfl 0 rfl (by decide) (hts _ fl_X9_10) dX9_work_30 (fun v6 hv6 hsv6 => ?_)
    obtain rfl : v6 = .ref ad2 := Option.some.inj (hsv6.symm.trans hs4)
    refine tf_get hx hb hts inlX3 hown hK (ci := 3) rfl hW had2 rfl 2 rfl (by decide) (hts _ fl_X9_260) dX9_work_33 (fun v7 hv7 hsv7 => ?_)
    obtain ⟨ad8, rfl, had8⟩ := tf_v1 hv7
    refine lv_iload_n hx hb dX9_work_36 rfl (lv_at hl 2 rfl) ?_
    refine lv_iload_n hx hb dX9_work_37 rfl (lv_at hl 3 rfl) ?_
    refine lv_iload_n hx hb dX9_work_38 rfl (lv_at hl 4 rfl) ?_
    refine lv_iload hx hb dX9_work_39 (lv_at hl 5 rfl) ?_
    refine tf_calli (va_runV (As := [.int (Int32.ofInt x1), .int (Int32.ofInt x2), .int (Int32.ofInt x3), .int (Int32.ofInt x4)]) (rest := [.ref a0]) ⟨hx, hb, hml, hown, hts⟩ (c_X8_add l g T ad8 had8 (x1) ⟨by omega, by omega⟩ (x2) ⟨by omega, by omega⟩ (x3) ⟨by omega, by omega⟩ (x4) ⟨by omega, by omega⟩) (cwV 4 hts gv_X9_264 rfl rfl rfl hd_X8_add ⟨Nat.le_trans (by decide) hR1, Nat.le_trans (by decide) hR2⟩) (tf_preV hk hW had8 (ci := 8) rfl rfl trivial) rfl rfl hl.1 rfl (lv_room (Nat.le_of_ble_eq_true rfl)) dX9_work_41 ⟨Nat.zero_le _, Nat.zero_le _⟩) hW (by decide) (fun z9 H9 locs9 hW hF9 hp9 => ?_)
    have hs10 := tf_keepF hF9 ha0 rfl rfl (by decide) hs4
    obtain ⟨hp9_0, hp9_1⟩ := hp9
    refine tf_calli (va_runV (As := [.int (Int32.ofInt z9)]) (rest := []) ⟨hx, hb, hml, hown, hts⟩ (c_X9_accept l g T a0 ha0 (z9) ⟨by omega, by omega⟩) (cwV 1 hts gv_X9_99 rfl rfl rfl hd_X9_accept ⟨Nat.le_trans (by decide) hR1, Nat.le_trans (by decide) hR2⟩) (tf_preV hk hW ha0 (ci := 9) rfl rfl trivial) rfl rfl hl.1 rfl (lv_room (Nat.le_of_ble_eq_true rfl)) dX9_work_44 ⟨Nat.zero_le _, Nat.zero_le _⟩) hW (by decide) (fun z11 H11 locs11 hW hF11 hp11 => ?_)
    have hs12 := tf_keepF hF11 ha0 rfl rfl (by decide) hs10
    obtain ⟨hp11_0, hp11_1, hp11_2⟩ := hp11
    exact tf_reti (z := z11) hx hb hr hlocks hQ hW (show (-2147483648) ≤ (z11) ∧ (z11) ≤ 2147483647 by omega) dX9_work_47
  · refine lv_aload_n hx hb dX9_work_19 rfl (lv_at hl 1 rfl) ?_
    refine lv_iload hx hb dX9_work_20 (lv_at hl 0 rfl) ?_
    refine tf_calli (va_runV (As := [.int (Int32.ofInt z3)]) (rest := []) ⟨hx, hb, hml, hown, hts⟩ (c_X9_refuse l g T a0 ha0 (z3) ⟨by omega, by omega⟩) (cwV 1 hts gv_X9_75 rfl rfl rfl hd_X9_refuse ⟨Nat.le_trans (by decide) hR1, Nat.le_trans (by decide) hR2⟩) (tf_preV hk hW ha0 (ci := 9) rfl rfl trivial) rfl rfl hl.1 rfl (lv_room (Nat.le_of_ble_eq_true rfl)) dX9_work_22 ⟨Nat.zero_le _, Nat.zero_le _⟩) hW (by decide) (fun z13 H13 locs13 hW hF13 hp13 => ?_)
    have hs14 := tf_keepF hF13 ha0 rfl rfl (by decide) hs4
    obtain ⟨hp13_0, hp13_1, hp13_2⟩ := hp13
    refine lv_goto (tgt := 47) hx hb dX9_work_25 (by decide) ?_
    exact tf_reti (z := z13) hx hb hr hlocks hQ hW (show (-2147483648) ≤ (z13) ∧ (z13) ≤ 2147483647 by omega) dX9_work_47

abbrev M_X9_drop : List (Nat × Nat) := [(9, 0), (12, 0), (23, 2), (23, 6), (23, 10), (25, 4), (26, 13)]
set_option maxHeartbeats 4000000 in
set_option maxRecDepth 100000 in
theorem c_X9_drop (l : Launch) (g : tf_G) (T : tf_T) (a0 : Nat) (ha0 : T a0 = some (26, 0)) (x1 : Int) (hp1 : (-2147483648) ≤ x1 ∧ x1 ≤ 2147483647) : Met l yX9_drop (cd_X9_drop :: wsL_law) ({ frames := 3, cells := 0, slots := 0, locals := 67 }) (tf_P g T [.ref a0, .int (Int32.ofInt x1)] (fun H => True)) (tf_Qi g M_X9_drop T (fun z _ _ => (-2147483648) ≤ z ∧ z ≤ 2147483647)) 0 0 (fun q => tf_B g ≤ q) := by
  refine Met.ofW (cc := cX9_drop) (maxL := 2) (ret := (some .int)) (by decide) rfl ?_
  intro p e s m args below meth c s₁ B hml hv
  obtain ⟨hargs, hk, hW0, hB, hpre⟩ := hv
  have hx := B.exec
  have hb := B.bytes
  have hr := B.returns
  have hts : ∀ w ∈ wsL_law, w.before args s = true := fun w h => atoms_spec (ws := cd_X9_drop :: wsL_law) B.pre w (List.mem_cons_of_mem _ h)
  have hown : s.vm.findClass RX9 = some m.cls := findClass_of_methodNamed B.named
  have hlocks := B.notSynchronized
  have hK := hk.1
  have hW := tf_n.start (M := M_X9_drop) hW0 hB
  obtain ⟨Q, hQ⟩ : ∃ q, q = MQ below (tf_Qi g M_X9_drop T (fun z _ _ => (-2147483648) ≤ z ∧ z ≤ 2147483647)) args s 0 0 (fun q => tf_B g ≤ q) := ⟨_, rfl⟩
  rw [← hQ]
  obtain ⟨R, hR⟩ : ∃ q, q = (headSpec (cd_X9_drop :: wsL_law) ({ frames := 3, cells := 0, slots := 0, locals := 67 })).room := ⟨_, rfl⟩
  rw [← hR]
  have hR1 : 3 ≤ R.frames := by rw [hR]; exact Nat.le_refl _
  have hR2 : 67 ≤ R.locals := by rw [hR]; exact Nat.le_refl _
  have hR3 : 0 ≤ R.cells := by rw [hR]; exact Nat.le_refl _
  have hR4 : 0 ≤ R.slots := by rw [hR]; exact Nat.le_refl _
  have hin := (name_of_methodNamed B.named B.method).1
  clear hR B
  refine tf_enter (As := [.ref a0, .int (Int32.ofInt x1)]) hargs (Nat.le_of_ble_eq_true rfl) (fun ls hl => ?_)
  have hl : lv_has ls 2 [(0, .ref a0), (1, .int (Int32.ofInt x1))] := hl
  refine lv_iload_n hx hb dX9_drop_0 rfl (lv_at hl 1 rfl) ?_
  refine tf_iconst hx hb dX9_drop_1 ?_
  refine lv_aload_n hx hb dX9_drop_2 rfl (lv_at hl 0 rfl) ?_
  refine tf_get hx hb hts inlX9 hown hK (ci := 9) rfl hW ha0 rfl 0 rfl (by decide) (hts _ fl_X9_10) dX9_drop_3 (fun v1 hv1 hsv1 => ?_)
  obtain ⟨ad2, rfl, had2⟩ := tf_v1 hv1
  refine tf_get hx hb hts inlX3 hown hK (ci := 3) rfl hW had2 rfl 2 rfl (by decide) (hts _ fl_X9_260) dX9_drop_6 (fun v3 hv3 hsv3 => ?_)
  obtain ⟨ad4, rfl, had4⟩ := tf_v1 hv3
  refine tf_get hx hb hts inlX8 hown hK (ci := 8) rfl hW had4 rfl 4 rfl (by decide) (hts _ fl_X9_267) dX9_drop_9 (fun v5 hv5 hsv5 => ?_)
  obtain ⟨z6, rfl, hz6⟩ := tf_v0 hv5
  refine tf_iconst hx hb dX9_drop_12 ?_
  refine tf_isub hx hb dX9_drop_13 ?_
  refine tf_calli (va_runS (As := [.int (Int32.ofInt x1), .int (Int32.ofInt 0), .int (Int32.ofInt ((z6 - 1)))]) (rest := []) ⟨hx, hb, hml, hown, hts⟩ (c_X9_isWithin l g T (x1) ⟨by omega, by omega⟩ (0) ⟨by omega, by omega⟩ ((z6 - 1)) ⟨by omega, by omega⟩) ⟨callB_of 3 hts (gw_ws cm_X9_isWithin) rfl rfl rfl (hts _ (tw1 (i := 2) rfl)) (hts _ (tw9 (i := 19) rfl)) hd_X9_isWithin.2 ⟨Nat.le_trans (by decide) hR1, Nat.le_trans (by decide) hR2⟩, hts _ (tw8 (i := 17) rfl)⟩ (tf_preS hk hW trivial) rfl rfl hl.1 rfl (lv_room (Nat.le_of_ble_eq_true rfl)) dX9_drop_14 ⟨Nat.zero_le _, Nat.zero_le _⟩) hW (by decide) (fun z7 H7 locs7 hW hF7 hp7 => ?_)
  have hs8 := tf_keepF hF7 ha0 rfl rfl (by decide) hsv1
  have hs9 := tf_keepF hF7 had2 rfl rfl (by decide) hsv3
  rcases hp7 with ⟨rfl, h10, h11⟩ | ⟨rfl, h12⟩
  · refine tf_if_ne (tgt := 27) hx hb ⟨by decide, by decide⟩ dX9_drop_17 (by decide) (fun h13 => ?_) (fun h13 => ?_)
    · refine lv_aload_n hx hb dX9_drop_27 rfl (lv_at hl 0 rfl) ?_
      refine tf_get hx hb hts inlX9 hown hK (ci := 9) rfl hW ha0 rfl 0 rfl (by decide) (hts _ fl_X9_10) dX9_drop_28 (fun v14 hv14 hsv14 => ?_)
      obtain rfl : v14 = .ref ad2 := Option.some.inj (hsv14.symm.trans hs8)
      refine tf_get hx hb hts inlX3 hown hK (ci := 3) rfl hW had2 rfl 2 rfl (by decide) (hts _ fl_X9_260) dX9_drop_31 (fun v15 hv15 hsv15 => ?_)
      obtain rfl : v15 = .ref ad4 := Option.some.inj (hsv15.symm.trans hs9)
      refine lv_iload_n hx hb dX9_drop_34 rfl (lv_at hl 1 rfl) ?_
      refine tf_callv (va_runV (As := [.int (Int32.ofInt x1)]) (rest := []) ⟨hx, hb, hml, hown, hts⟩ (c_X8_takeOut l g T ad4 had4 (x1) ⟨by omega, by omega⟩) (cwV 1 hts gv_X9_268 rfl rfl rfl hd_X8_takeOut ⟨Nat.le_trans (by decide) hR1, Nat.le_trans (by decide) hR2⟩) (tf_preV hk hW had4 (ci := 8) rfl rfl trivial) rfl rfl hl.1 rfl (lv_room (Nat.le_of_ble_eq_true rfl)) dX9_drop_35 ⟨Nat.zero_le _, Nat.zero_le _⟩) hW (by decide) (fun H16 locs16 hW hF16 hp16 => ?_)
      have hs17 := tf_keepF hF16 ha0 rfl rfl (by decide) hs8
      have hs18 := tf_keepF hF16 had2 rfl rfl (by decide) hs9
      refine lv_aload_n hx hb dX9_drop_38 rfl (lv_at hl 0 rfl) ?_
      refine lv_aload_n hx hb dX9_drop_39 rfl (lv_at hl 0 rfl) ?_
      refine tf_get hx hb hts inlX9 hown hK (ci := 9) rfl hW ha0 rfl 0 rfl (by decide) (hts _ fl_X9_10) dX9_drop_40 (fun v19 hv19 hsv19 => ?_)
      obtain rfl : v19 = .ref ad2 := Option.some.inj (hsv19.symm.trans hs17)
      refine tf_get hx hb hts inlX3 hown hK (ci := 3) rfl hW had2 rfl 2 rfl (by decide) (hts _ fl_X9_260) dX9_drop_43 (fun v20 hv20 hsv20 => ?_)
      obtain rfl : v20 = .ref ad4 := Option.some.inj (hsv20.symm.trans hs18)
      refine tf_get hx hb hts inlX8 hown hK (ci := 8) rfl hW had4 rfl 4 rfl (by decide) (hts _ fl_X9_267) dX9_drop_46 (fun v21 hv21 hsv21 => ?_)
      obtain ⟨z22, rfl, hz22⟩ := tf_v0 hv21
      refine tf_calli (va_runV (As := [.int (Int32.ofInt z22)]) (rest := []) ⟨hx, hb, hml, hown, hts⟩ (c_X9_accept l g T a0 ha0 (z22) ⟨by omega, by omega⟩) (cwV 1 hts gv_X9_99 rfl rfl rfl hd_X9_accept ⟨Nat.le_trans (by decide) hR1, Nat.le_trans (by decide) hR2⟩) (tf_preV hk hW ha0 (ci := 9) rfl rfl trivial) rfl rfl hl.1 rfl (lv_room (Nat.le_of_ble_eq_true rfl)) dX9_drop_49 ⟨Nat.zero_le _, Nat.zero_le _⟩) hW (by decide) (fun z23 H23 locs23 hW hF23 hp23 => ?_)
      have hs24 := tf_keepF hF23 ha0 rfl rfl (by decide) hs17
      have hs25 := tf_keepF hF23 had2 rfl rfl (by decide) hs18
      obtain ⟨hp23_0, hp23_1, hp23_2⟩ := hp23
      exact tf_reti (z := z23) hx hb hr hlocks hQ hW (show (-2147483648) ≤ (z23) ∧ (z23) ≤ 2147483647 by omega) dX9_drop_52
    · exfalso; omega
  · refine tf_if_ne (tgt := 27) hx hb ⟨by decide, by decide⟩ dX9_drop_17 (by decide) (fun h26 => ?_) (fun h26 => ?_)
    · exfalso; omega
    · refine lv_aload_n hx hb dX9_drop_20 rfl (lv_at hl 0 rfl) ?_
      refine tf_bipush hx hb dX9_drop_21 (by decide) ?_
      refine tf_calli (va_runV (As := [.int (Int32.ofInt ((-2)))]) (rest := []) ⟨hx, hb, hml, hown, hts⟩ (c_X9_refuse l g T a0 ha0 ((-2)) ⟨by omega, by omega⟩) (cwV 1 hts gv_X9_75 rfl rfl rfl hd_X9_refuse ⟨Nat.le_trans (by decide) hR1, Nat.le_trans (by decide) hR2⟩) (tf_preV hk hW ha0 (ci := 9) rfl rfl trivial) rfl rfl hl.1 rfl (lv_room (Nat.le_of_ble_eq_true rfl)) dX9_drop_23 ⟨Nat.zero_le _, Nat.zero_le _⟩) hW (by decide) (fun z27 H27 locs27 hW hF27 hp27 => ?_)
      have hs28 := tf_keepF hF27 ha0 rfl rfl (by decide) hs8
      have hs29 := tf_keepF hF27 had2 rfl rfl (by decide) hs9
      obtain ⟨hp27_0, hp27_1, hp27_2⟩ := hp27
      exact tf_reti (z := z27) hx hb hr hlocks hQ hW (show (-2147483648) ≤ (z27) ∧ (z27) ≤ 2147483647 by omega) dX9_drop_26

abbrev M_X9_done : List (Nat × Nat) := [(0, 0), (1, 0), (4, 0), (24, 5)]
set_option maxHeartbeats 4000000 in
set_option maxRecDepth 100000 in
theorem c_X9_done (l : Launch) (g : tf_G) (T : tf_T) (a0 : Nat) (ha0 : T a0 = some (26, 0)) (x1 : Int) (hp1 : (-2147483648) ≤ x1 ∧ x1 ≤ 2147483647) (x2 : Int) (hp2 : (-2147483648) ≤ x2 ∧ x2 ≤ 2147483647) (hE : tf_E g T) : Met l yX9_done (cd_X9_done :: wsL_law) ({ frames := 8, cells := 0, slots := 0, locals := 209 }) (tf_P g T [.ref a0, .int (Int32.ofInt x1), .int (Int32.ofInt x2)] (fun H => True)) (tf_Qi g M_X9_done T (fun z _ _ => (-2147483648) ≤ z ∧ z ≤ 2147483647)) 0 0 (fun q => tf_B g ≤ q) := by
  refine Met.ofW (cc := cX9_done) (maxL := 3) (ret := (some .int)) (by decide) rfl ?_
  intro p e s m args below meth c s₁ B hml hv
  obtain ⟨hargs, hk, hW0, hB, hpre⟩ := hv
  have hx := B.exec
  have hb := B.bytes
  have hr := B.returns
  have hts : ∀ w ∈ wsL_law, w.before args s = true := fun w h => atoms_spec (ws := cd_X9_done :: wsL_law) B.pre w (List.mem_cons_of_mem _ h)
  have hown : s.vm.findClass RX9 = some m.cls := findClass_of_methodNamed B.named
  have hlocks := B.notSynchronized
  have hK := hk.1
  have hW := tf_n.start (M := M_X9_done) hW0 hB
  obtain ⟨Q, hQ⟩ : ∃ q, q = MQ below (tf_Qi g M_X9_done T (fun z _ _ => (-2147483648) ≤ z ∧ z ≤ 2147483647)) args s 0 0 (fun q => tf_B g ≤ q) := ⟨_, rfl⟩
  rw [← hQ]
  obtain ⟨R, hR⟩ : ∃ q, q = (headSpec (cd_X9_done :: wsL_law) ({ frames := 8, cells := 0, slots := 0, locals := 209 })).room := ⟨_, rfl⟩
  rw [← hR]
  have hR1 : 8 ≤ R.frames := by rw [hR]; exact Nat.le_refl _
  have hR2 : 209 ≤ R.locals := by rw [hR]; exact Nat.le_refl _
  have hR3 : 0 ≤ R.cells := by rw [hR]; exact Nat.le_refl _
  have hR4 : 0 ≤ R.slots := by rw [hR]; exact Nat.le_refl _
  have hin := (name_of_methodNamed B.named B.method).1
  clear hR B
  refine tf_enter (As := [.ref a0, .int (Int32.ofInt x1), .int (Int32.ofInt x2)]) hargs (Nat.le_of_ble_eq_true rfl) (fun ls hl => ?_)
  have hl : lv_has ls 3 [(0, .ref a0), (1, .int (Int32.ofInt x1)), (2, .int (Int32.ofInt x2))] := hl
  refine lv_aload_n hx hb dX9_done_0 rfl (lv_at hl 0 rfl) ?_
  refine tf_get hx hb hts inlX9 hown hK (ci := 9) rfl hW ha0 rfl 0 rfl (by decide) (hts _ fl_X9_10) dX9_done_1 (fun v1 hv1 hsv1 => ?_)
  obtain ⟨ad2, rfl, had2⟩ := tf_v1 hv1
  refine tf_get hx hb hts inlX3 hown hK (ci := 3) rfl hW had2 rfl 2 rfl (by decide) (hts _ fl_X9_260) dX9_done_4 (fun v3 hv3 hsv3 => ?_)
  obtain ⟨ad4, rfl, had4⟩ := tf_v1 hv3
  refine lv_iload_n hx hb dX9_done_7 rfl (lv_at hl 1 rfl) ?_
  refine tf_calli (va_runV (As := [.int (Int32.ofInt x1)]) (rest := []) ⟨hx, hb, hml, hown, hts⟩ (c_X8_haveAll l g T ad4 had4 (x1) ⟨by omega, by omega⟩) (cwV 1 hts gv_X9_271 rfl rfl rfl hd_X8_haveAll ⟨Nat.le_trans (by decide) hR1, Nat.le_trans (by decide) hR2⟩) (tf_preV hk hW had4 (ci := 8) rfl rfl trivial) rfl rfl hl.1 rfl (lv_room (Nat.le_of_ble_eq_true rfl)) dX9_done_8 ⟨Nat.zero_le _, Nat.zero_le _⟩) hW (by decide) (fun z5 H5 locs5 hW hF5 hp5 => ?_)
  have hs6 := tf_keepF hF5 ha0 rfl rfl (by decide) hsv1
  have hs7 := tf_keepF hF5 had2 rfl rfl (by decide) hsv3
  have hp5 : z5 = 0 ∨ z5 = 1 := hp5
  refine tf_if_eq (tgt := 23) hx hb ⟨by omega, by omega⟩ dX9_done_11 (by decide) (fun h8 => ?_) (fun h8 => ?_)
  · refine tf_iconst hx hb dX9_done_23 ?_
    exact tf_reti (z := (-1)) hx hb hr hlocks hQ hW (show (-2147483648) ≤ ((-1)) ∧ ((-1)) ≤ 2147483647 by omega) dX9_done_24
  · refine lv_iload_n hx hb dX9_done_14 rfl (lv_at hl 2 rfl) ?_
    refine tf_iconst hx hb dX9_done_15 ?_
    refine tf_iconst hx hb dX9_done_16 ?_
    refine tf_calli (va_runS (As := [.int (Int32.ofInt x2), .int (Int32.ofInt 0), .int (Int32.ofInt 3)]) (rest := []) ⟨hx, hb, hml, hown, hts⟩ (c_X9_isWithin l g T (x2) ⟨by omega, by omega⟩ (0) ⟨by omega, by omega⟩ (3) ⟨by omega, by omega⟩) ⟨callB_of 3 hts (gw_ws cm_X9_isWithin) rfl rfl rfl (hts _ (tw1 (i := 2) rfl)) (hts _ (tw9 (i := 19) rfl)) hd_X9_isWithin.2 ⟨Nat.le_trans (by decide) hR1, Nat.le_trans (by decide) hR2⟩, hts _ (tw8 (i := 17) rfl)⟩ (tf_preS hk hW trivial) rfl rfl hl.1 rfl (lv_room (Nat.le_of_ble_eq_true rfl)) dX9_done_17 ⟨Nat.zero_le _, Nat.zero_le _⟩) hW (by decide) (fun z9 H9 locs9 hW hF9 hp9 => ?_)
    have hs10 := tf_keepF hF9 ha0 rfl rfl (by decide) hs6
    have hs11 := tf_keepF hF9 had2 rfl rfl (by decide) hs7
    rcases hp9 with ⟨rfl, h12, h13⟩ | ⟨rfl, h14⟩
    · refine tf_if_ne (tgt := 25) hx hb ⟨by decide, by decide⟩ dX9_done_20 (by decide) (fun h15 => ?_) (fun h15 => ?_)
      · refine lv_iload_n hx hb dX9_done_25 rfl (lv_at hl 2 rfl) ?_
        refine tf_iconst hx hb dX9_done_26 ?_
        refine tf_icmp_ne (tgt := 42) hx hb ⟨by omega, by omega⟩ ⟨by decide, by decide⟩ dX9_done_27 (by decide) (fun h16 => ?_) (fun h16 => ?_)
        · refine lv_aload_n hx hb dX9_done_42 rfl (lv_at hl 0 rfl) ?_
          refine tf_get hx hb hts inlX9 hown hK (ci := 9) rfl hW ha0 rfl 3 rfl (by decide) (hts _ fl_X9_30) dX9_done_43 (fun v17 hv17 hsv17 => ?_)
          obtain ⟨ad18, rfl, had18⟩ := tf_v1 hv17
          refine lv_aload_n hx hb dX9_done_46 rfl (lv_at hl 0 rfl) ?_
          refine tf_get hx hb hts inlX9 hown hK (ci := 9) rfl hW ha0 rfl 0 rfl (by decide) (hts _ fl_X9_10) dX9_done_47 (fun v19 hv19 hsv19 => ?_)
          obtain rfl : v19 = .ref ad2 := Option.some.inj (hsv19.symm.trans hs10)
          refine lv_iload_n hx hb dX9_done_50 rfl (lv_at hl 1 rfl) ?_
          refine tf_callv (va_runV (As := [.ref ad2, .int (Int32.ofInt x1)]) (rest := []) ⟨hx, hb, hml, hown, hts⟩ (c_X6_doWorks l g T ad18 had18 ad2 had2 (x1) ⟨by omega, by omega⟩) (cwV 2 hts gv_X9_277 rfl rfl rfl hd_X6_doWorks ⟨Nat.le_trans (by decide) hR1, Nat.le_trans (by decide) hR2⟩) (tf_preV hk hW had18 (ci := 6) rfl rfl trivial) rfl rfl hl.1 rfl (lv_room (Nat.le_of_ble_eq_true rfl)) dX9_done_51 ⟨Nat.zero_le _, Nat.zero_le _⟩) hW (by decide) (fun H20 locs20 hW hF20 hp20 => ?_)
          have hs21 := tf_keepF hF20 ha0 rfl rfl (by decide) hs10
          have hs22 := tf_keepF hF20 had2 rfl rfl (by decide) hs11
          have hs23 := tf_keepF hF20 ha0 rfl rfl (by decide) hsv17
          refine lv_iload_n hx hb dX9_done_54 rfl (lv_at hl 2 rfl) ?_
          refine tf_if_ne (tgt := 77) hx hb ⟨by omega, by omega⟩ dX9_done_55 (by decide) (fun h24 => ?_) (fun h24 => ?_)
          · refine lv_iload_n hx hb dX9_done_77 rfl (lv_at hl 2 rfl) ?_
            refine tf_iconst hx hb dX9_done_78 ?_
            refine tf_icmp_ne (tgt := 100) hx hb ⟨by omega, by omega⟩ ⟨by decide, by decide⟩ dX9_done_79 (by decide) (fun h25 => ?_) (fun h25 => ?_)
            · refine lv_aload_n hx hb dX9_done_100 rfl (lv_at hl 0 rfl) ?_
              refine tf_get hx hb hts inlX9 hown hK (ci := 9) rfl hW ha0 rfl 3 rfl (by decide) (hts _ fl_X9_30) dX9_done_101 (fun v26 hv26 hsv26 => ?_)
              obtain rfl : v26 = .ref ad18 := Option.some.inj (hsv26.symm.trans hs23)
              refine lv_aload_n hx hb dX9_done_104 rfl (lv_at hl 0 rfl) ?_
              refine tf_get hx hb hts inlX9 hown hK (ci := 9) rfl hW ha0 rfl 0 rfl (by decide) (hts _ fl_X9_10) dX9_done_105 (fun v27 hv27 hsv27 => ?_)
              obtain rfl : v27 = .ref ad2 := Option.some.inj (hsv27.symm.trans hs21)
              refine lv_aload_n hx hb dX9_done_108 rfl (lv_at hl 0 rfl) ?_
              refine tf_get hx hb hts inlX9 hown hK (ci := 9) rfl hW ha0 rfl 2 rfl (by decide) (hts _ fl_X9_23) dX9_done_109 (fun v28 hv28 hsv28 => ?_)
              obtain ⟨ad29, rfl, had29⟩ := tf_v1 hv28
              refine tf_calli (va_runV (As := [.ref ad2, .ref ad29]) (rest := []) ⟨hx, hb, hml, hown, hts⟩ (c_X6_lowestHurt l g T ad18 had18 ad2 had2 ad29 had29 hE) (cwV 2 hts gv_X9_285 rfl rfl rfl hd_X6_lowestHurt ⟨Nat.le_trans (by decide) hR1, Nat.le_trans (by decide) hR2⟩) (tf_preV hk hW had18 (ci := 6) rfl rfl trivial) rfl rfl hl.1 rfl (lv_room (Nat.le_of_ble_eq_true rfl)) dX9_done_112 ⟨Nat.zero_le _, Nat.zero_le _⟩) hW (by decide) (fun z30 H30 locs30 hW hF30 hp30 => ?_)
              have hs31 := tf_keepF hF30 ha0 rfl rfl (by decide) hs21
              have hs32 := tf_keepF hF30 had2 rfl rfl (by decide) hs22
              have hs33 := tf_keepF hF30 ha0 rfl rfl (by decide) hs23
              obtain ⟨hp30_0, hp30_1⟩ := hp30
              exact tf_reti (z := z30) hx hb hr hlocks hQ hW (show (-2147483648) ≤ (z30) ∧ (z30) ≤ 2147483647 by omega) dX9_done_115
            · refine lv_aload_n hx hb dX9_done_82 rfl (lv_at hl 0 rfl) ?_
              refine tf_get hx hb hts inlX9 hown hK (ci := 9) rfl hW ha0 rfl 3 rfl (by decide) (hts _ fl_X9_30) dX9_done_83 (fun v34 hv34 hsv34 => ?_)
              obtain rfl : v34 = .ref ad18 := Option.some.inj (hsv34.symm.trans hs23)
              refine lv_aload_n hx hb dX9_done_86 rfl (lv_at hl 0 rfl) ?_
              refine tf_get hx hb hts inlX9 hown hK (ci := 9) rfl hW ha0 rfl 0 rfl (by decide) (hts _ fl_X9_10) dX9_done_87 (fun v35 hv35 hsv35 => ?_)
              obtain rfl : v35 = .ref ad2 := Option.some.inj (hsv35.symm.trans hs21)
              refine lv_aload_n hx hb dX9_done_90 rfl (lv_at hl 0 rfl) ?_
              refine tf_get hx hb hts inlX9 hown hK (ci := 9) rfl hW ha0 rfl 2 rfl (by decide) (hts _ fl_X9_23) dX9_done_91 (fun v36 hv36 hsv36 => ?_)
              obtain ⟨ad37, rfl, had37⟩ := tf_v1 hv36
              refine tf_calli (va_runV (As := [.ref ad2, .ref ad37]) (rest := []) ⟨hx, hb, hml, hown, hts⟩ (c_X6_hurtCells l g T ad18 had18 ad2 had2 ad37 had37 hE) (cwV 2 hts gv_X9_281 rfl rfl rfl hd_X6_hurtCells ⟨Nat.le_trans (by decide) hR1, Nat.le_trans (by decide) hR2⟩) (tf_preV hk hW had18 (ci := 6) rfl rfl trivial) rfl rfl hl.1 rfl (lv_room (Nat.le_of_ble_eq_true rfl)) dX9_done_94 ⟨Nat.zero_le _, Nat.zero_le _⟩) hW (by decide) (fun z38 H38 locs38 hW hF38 hp38 => ?_)
              have hs39 := tf_keepF hF38 ha0 rfl rfl (by decide) hs21
              have hs40 := tf_keepF hF38 had2 rfl rfl (by decide) hs22
              have hs41 := tf_keepF hF38 ha0 rfl rfl (by decide) hs23
              obtain ⟨hp38_0, hp38_1⟩ := hp38
              refine lv_goto (tgt := 115) hx hb dX9_done_97 (by decide) ?_
              exact tf_reti (z := z38) hx hb hr hlocks hQ hW (show (-2147483648) ≤ (z38) ∧ (z38) ≤ 2147483647 by omega) dX9_done_115
          · refine lv_aload_n hx hb dX9_done_58 rfl (lv_at hl 0 rfl) ?_
            refine tf_get hx hb hts inlX9 hown hK (ci := 9) rfl hW ha0 rfl 2 rfl (by decide) (hts _ fl_X9_23) dX9_done_59 (fun v42 hv42 hsv42 => ?_)
            obtain ⟨ad43, rfl, had43⟩ := tf_v1 hv42
            refine lv_aload_n hx hb dX9_done_62 rfl (lv_at hl 0 rfl) ?_
            refine tf_get hx hb hts inlX9 hown hK (ci := 9) rfl hW ha0 rfl 0 rfl (by decide) (hts _ fl_X9_10) dX9_done_63 (fun v44 hv44 hsv44 => ?_)
            obtain rfl : v44 = .ref ad2 := Option.some.inj (hsv44.symm.trans hs21)
            refine lv_aload_n hx hb dX9_done_66 rfl (lv_at hl 0 rfl) ?_
            refine tf_get hx hb hts inlX9 hown hK (ci := 9) rfl hW ha0 rfl 3 rfl (by decide) (hts _ fl_X9_30) dX9_done_67 (fun v45 hv45 hsv45 => ?_)
            obtain rfl : v45 = .ref ad18 := Option.some.inj (hsv45.symm.trans hs23)
            refine tf_get hx hb hts inlX6 hown hK (ci := 6) rfl hW had18 rfl 0 rfl (by decide) (hts _ fl_X9_208) dX9_done_70 (fun v46 hv46 hsv46 => ?_)
            obtain ⟨ad47, rfl, had47⟩ := tf_v1 hv46
            refine tf_calli (va_runV (As := [.ref ad2, .ref ad47]) (rest := []) ⟨hx, hb, hml, hown, hts⟩ (c_X7_allOver l g T ad43 had43 ad2 had2 ad47 had47 hE) (cwV 2 hts gv_X9_193 rfl rfl rfl hd_X7_allOver ⟨Nat.le_trans (by decide) hR1, Nat.le_trans (by decide) hR2⟩) (tf_preV hk hW had43 (ci := 7) rfl rfl trivial) rfl rfl hl.1 rfl (lv_room (Nat.le_of_ble_eq_true rfl)) dX9_done_73 ⟨Nat.zero_le _, Nat.zero_le _⟩) hW (by decide) (fun z48 H48 locs48 hW hF48 hp48 => ?_)
            have hs49 := tf_keepF hF48 ha0 rfl rfl (by decide) hs21
            have hs50 := tf_keepF hF48 had2 rfl rfl (by decide) hs22
            have hs51 := tf_keepF hF48 ha0 rfl rfl (by decide) hs23
            obtain ⟨hp48_0, hp48_1⟩ := hp48
            exact tf_reti (z := z48) hx hb hr hlocks hQ hW (show (-2147483648) ≤ (z48) ∧ (z48) ≤ 2147483647 by omega) dX9_done_76
        · refine lv_aload_n hx hb dX9_done_30 rfl (lv_at hl 0 rfl) ?_
          refine tf_get hx hb hts inlX9 hown hK (ci := 9) rfl hW ha0 rfl 0 rfl (by decide) (hts _ fl_X9_10) dX9_done_31 (fun v52 hv52 hsv52 => ?_)
          obtain rfl : v52 = .ref ad2 := Option.some.inj (hsv52.symm.trans hs10)
          refine tf_get hx hb hts inlX3 hown hK (ci := 3) rfl hW had2 rfl 2 rfl (by decide) (hts _ fl_X9_260) dX9_done_34 (fun v53 hv53 hsv53 => ?_)
          obtain rfl : v53 = .ref ad4 := Option.some.inj (hsv53.symm.trans hs11)
          refine lv_iload_n hx hb dX9_done_37 rfl (lv_at hl 1 rfl) ?_
          refine tf_calli (va_runV (As := [.int (Int32.ofInt x1)]) (rest := []) ⟨hx, hb, hml, hown, hts⟩ (c_X8_coinOf l g T ad4 had4 (x1) ⟨by omega, by omega⟩) (cwV 1 hts gv_X9_274 rfl rfl rfl hd_X8_coinOf ⟨Nat.le_trans (by decide) hR1, Nat.le_trans (by decide) hR2⟩) (tf_preV hk hW had4 (ci := 8) rfl rfl trivial) rfl rfl hl.1 rfl (lv_room (Nat.le_of_ble_eq_true rfl)) dX9_done_38 ⟨Nat.zero_le _, Nat.zero_le _⟩) hW (by decide) (fun z54 H54 locs54 hW hF54 hp54 => ?_)
          have hs55 := tf_keepF hF54 ha0 rfl rfl (by decide) hs10
          have hs56 := tf_keepF hF54 had2 rfl rfl (by decide) hs11
          obtain ⟨hp54_0, hp54_1⟩ := hp54
          exact tf_reti (z := z54) hx hb hr hlocks hQ hW (show (-2147483648) ≤ (z54) ∧ (z54) ≤ 2147483647 by omega) dX9_done_41
      · exfalso; omega
    · refine tf_if_ne (tgt := 25) hx hb ⟨by decide, by decide⟩ dX9_done_20 (by decide) (fun h57 => ?_) (fun h57 => ?_)
      · exfalso; omega
      · refine tf_iconst hx hb dX9_done_23 ?_
        exact tf_reti (z := (-1)) hx hb hr hlocks hQ hW (show (-2147483648) ≤ ((-1)) ∧ ((-1)) ≤ 2147483647 by omega) dX9_done_24

abbrev M_X9_least : List (Nat × Nat) := [(0, 0), (1, 0), (4, 0), (23, 3), (23, 4), (23, 5), (23, 6), (24, 5)]
set_option maxHeartbeats 4000000 in
set_option maxRecDepth 100000 in
theorem c_X9_least (l : Launch) (g : tf_G) (T : tf_T) (a0 : Nat) (ha0 : T a0 = some (26, 0)) (x1 : Int) (hp1 : (-2147483648) ≤ x1 ∧ x1 ≤ 2147483647) (hE : tf_E g T) : Met l yX9_least (cd_X9_least :: wsL_law) ({ frames := 8, cells := 0, slots := 0, locals := 212 }) (tf_P g T [.ref a0, .int (Int32.ofInt x1)] (fun H => True)) (tf_Qi g M_X9_least T (fun z _ _ => (-2147483648) ≤ z ∧ z ≤ 2147483647)) 0 0 (fun q => tf_B g ≤ q) := by
  refine Met.ofW (cc := cX9_least) (maxL := 2) (ret := (some .int)) (by decide) rfl ?_
  intro p e s m args below meth c s₁ B hml hv
  obtain ⟨hargs, hk, hW0, hB, hpre⟩ := hv
  have hx := B.exec
  have hb := B.bytes
  have hr := B.returns
  have hts : ∀ w ∈ wsL_law, w.before args s = true := fun w h => atoms_spec (ws := cd_X9_least :: wsL_law) B.pre w (List.mem_cons_of_mem _ h)
  have hown : s.vm.findClass RX9 = some m.cls := findClass_of_methodNamed B.named
  have hlocks := B.notSynchronized
  have hK := hk.1
  have hW := tf_n.start (M := M_X9_least) hW0 hB
  obtain ⟨Q, hQ⟩ : ∃ q, q = MQ below (tf_Qi g M_X9_least T (fun z _ _ => (-2147483648) ≤ z ∧ z ≤ 2147483647)) args s 0 0 (fun q => tf_B g ≤ q) := ⟨_, rfl⟩
  rw [← hQ]
  obtain ⟨R, hR⟩ : ∃ q, q = (headSpec (cd_X9_least :: wsL_law) ({ frames := 8, cells := 0, slots := 0, locals := 212 })).room := ⟨_, rfl⟩
  rw [← hR]
  have hR1 : 8 ≤ R.frames := by rw [hR]; exact Nat.le_refl _
  have hR2 : 212 ≤ R.locals := by rw [hR]; exact Nat.le_refl _
  have hR3 : 0 ≤ R.cells := by rw [hR]; exact Nat.le_refl _
  have hR4 : 0 ≤ R.slots := by rw [hR]; exact Nat.le_refl _
  have hin := (name_of_methodNamed B.named B.method).1
  clear hR B
  refine tf_enter (As := [.ref a0, .int (Int32.ofInt x1)]) hargs (Nat.le_of_ble_eq_true rfl) (fun ls hl => ?_)
  have hl : lv_has ls 2 [(0, .ref a0), (1, .int (Int32.ofInt x1))] := hl
  refine lv_iload_n hx hb dX9_least_0 rfl (lv_at hl 1 rfl) ?_
  refine tf_iconst hx hb dX9_least_1 ?_
  refine tf_iconst hx hb dX9_least_2 ?_
  refine tf_calli (va_runS (As := [.int (Int32.ofInt x1), .int (Int32.ofInt 0), .int (Int32.ofInt 2)]) (rest := []) ⟨hx, hb, hml, hown, hts⟩ (c_X9_isWithin l g T (x1) ⟨by omega, by omega⟩ (0) ⟨by omega, by omega⟩ (2) ⟨by omega, by omega⟩) ⟨callB_of 3 hts (gw_ws cm_X9_isWithin) rfl rfl rfl (hts _ (tw1 (i := 2) rfl)) (hts _ (tw9 (i := 19) rfl)) hd_X9_isWithin.2 ⟨Nat.le_trans (by decide) hR1, Nat.le_trans (by decide) hR2⟩, hts _ (tw8 (i := 17) rfl)⟩ (tf_preS hk hW trivial) rfl rfl hl.1 rfl (lv_room (Nat.le_of_ble_eq_true rfl)) dX9_least_3 ⟨Nat.zero_le _, Nat.zero_le _⟩) hW (by decide) (fun z1 H1 locs1 hW hF1 hp1 => ?_)
  rcases hp1 with ⟨rfl, h2, h3⟩ | ⟨rfl, h4⟩
  · refine tf_if_ne (tgt := 11) hx hb ⟨by decide, by decide⟩ dX9_least_6 (by decide) (fun h5 => ?_) (fun h5 => ?_)
    · refine lv_aload_n hx hb dX9_least_11 rfl (lv_at hl 0 rfl) ?_
      refine tf_get hx hb hts inlX9 hown hK (ci := 9) rfl hW ha0 rfl 3 rfl (by decide) (hts _ fl_X9_30) dX9_least_12 (fun v6 hv6 hsv6 => ?_)
      obtain ⟨ad7, rfl, had7⟩ := tf_v1 hv6
      refine lv_aload_n hx hb dX9_least_15 rfl (lv_at hl 0 rfl) ?_
      refine tf_get hx hb hts inlX9 hown hK (ci := 9) rfl hW ha0 rfl 0 rfl (by decide) (hts _ fl_X9_10) dX9_least_16 (fun v8 hv8 hsv8 => ?_)
      obtain ⟨ad9, rfl, had9⟩ := tf_v1 hv8
      refine lv_aload_n hx hb dX9_least_19 rfl (lv_at hl 0 rfl) ?_
      refine tf_get hx hb hts inlX9 hown hK (ci := 9) rfl hW ha0 rfl 2 rfl (by decide) (hts _ fl_X9_23) dX9_least_20 (fun v10 hv10 hsv10 => ?_)
      obtain ⟨ad11, rfl, had11⟩ := tf_v1 hv10
      refine tf_callv (va_runV (As := [.ref ad9, .ref ad11]) (rest := []) ⟨hx, hb, hml, hown, hts⟩ (c_X6_findLeast l g T ad7 had7 ad9 had9 ad11 had11 hE) (cwV 2 hts gv_X9_288 rfl rfl rfl hd_X6_findLeast ⟨Nat.le_trans (by decide) hR1, Nat.le_trans (by decide) hR2⟩) (tf_preV hk hW had7 (ci := 6) rfl rfl trivial) rfl rfl hl.1 rfl (lv_room (Nat.le_of_ble_eq_true rfl)) dX9_least_23 ⟨Nat.zero_le _, Nat.zero_le _⟩) hW (by decide) (fun H12 locs12 hW hF12 hp12 => ?_)
      have hs13 := tf_keepF hF12 ha0 rfl rfl (by decide) hsv6
      refine lv_iload_n hx hb dX9_least_26 rfl (lv_at hl 1 rfl) ?_
      refine tf_iconst hx hb dX9_least_27 ?_
      refine tf_icmp_ne (tgt := 39) hx hb ⟨by omega, by omega⟩ ⟨by decide, by decide⟩ dX9_least_28 (by decide) (fun h14 => ?_) (fun h14 => ?_)
      · refine lv_iload_n hx hb dX9_least_39 rfl (lv_at hl 1 rfl) ?_
        refine tf_if_ne (tgt := 53) hx hb ⟨by omega, by omega⟩ dX9_least_40 (by decide) (fun h15 => ?_) (fun h15 => ?_)
        · refine lv_aload_n hx hb dX9_least_53 rfl (lv_at hl 0 rfl) ?_
          refine tf_get hx hb hts inlX9 hown hK (ci := 9) rfl hW ha0 rfl 3 rfl (by decide) (hts _ fl_X9_30) dX9_least_54 (fun v16 hv16 hsv16 => ?_)
          obtain rfl : v16 = .ref ad7 := Option.some.inj (hsv16.symm.trans hs13)
          refine tf_get hx hb hts inlX6 hown hK (ci := 6) rfl hW had7 rfl 5 rfl (by decide) (hts _ fl_X9_297) dX9_least_57 (fun v17 hv17 hsv17 => ?_)
          obtain ⟨z18, rfl, hz18⟩ := tf_v0 hv17
          exact tf_reti (z := z18) hx hb hr hlocks hQ hW (show (-2147483648) ≤ (z18) ∧ (z18) ≤ 2147483647 by omega) dX9_least_60
        · refine lv_aload_n hx hb dX9_least_43 rfl (lv_at hl 0 rfl) ?_
          refine tf_get hx hb hts inlX9 hown hK (ci := 9) rfl hW ha0 rfl 3 rfl (by decide) (hts _ fl_X9_30) dX9_least_44 (fun v19 hv19 hsv19 => ?_)
          obtain rfl : v19 = .ref ad7 := Option.some.inj (hsv19.symm.trans hs13)
          refine tf_get hx hb hts inlX6 hown hK (ci := 6) rfl hW had7 rfl 4 rfl (by decide) (hts _ fl_X9_294) dX9_least_47 (fun v20 hv20 hsv20 => ?_)
          obtain ⟨z21, rfl, hz21⟩ := tf_v0 hv20
          refine lv_goto (tgt := 60) hx hb dX9_least_50 (by decide) ?_
          exact tf_reti (z := z21) hx hb hr hlocks hQ hW (show (-2147483648) ≤ (z21) ∧ (z21) ≤ 2147483647 by omega) dX9_least_60
      · refine lv_aload_n hx hb dX9_least_31 rfl (lv_at hl 0 rfl) ?_
        refine tf_get hx hb hts inlX9 hown hK (ci := 9) rfl hW ha0 rfl 3 rfl (by decide) (hts _ fl_X9_30) dX9_least_32 (fun v22 hv22 hsv22 => ?_)
        obtain rfl : v22 = .ref ad7 := Option.some.inj (hsv22.symm.trans hs13)
        refine tf_get hx hb hts inlX6 hown hK (ci := 6) rfl hW had7 rfl 3 rfl (by decide) (hts _ fl_X9_291) dX9_least_35 (fun v23 hv23 hsv23 => ?_)
        obtain ⟨z24, rfl, hz24⟩ := tf_v0 hv23
        exact tf_reti (z := z24) hx hb hr hlocks hQ hW (show (-2147483648) ≤ (z24) ∧ (z24) ≤ 2147483647 by omega) dX9_least_38
    · exfalso; omega
  · refine tf_if_ne (tgt := 11) hx hb ⟨by decide, by decide⟩ dX9_least_6 (by decide) (fun h25 => ?_) (fun h25 => ?_)
    · exfalso; omega
    · refine tf_iconst hx hb dX9_least_9 ?_
      exact tf_reti (z := (-1)) hx hb hr hlocks hQ hW (show (-2147483648) ≤ ((-1)) ∧ ((-1)) ≤ 2147483647 by omega) dX9_least_10

abbrev M_X9_build : List (Nat × Nat) := [(0, 0), (1, 0), (4, 0), (9, 0), (12, 0), (23, 2), (23, 6), (23, 10), (24, 5), (25, 4), (26, 13)]
set_option maxHeartbeats 4000000 in
set_option maxRecDepth 100000 in
theorem c_X9_build (l : Launch) (g : tf_G) (T : tf_T) (a0 : Nat) (ha0 : T a0 = some (26, 0)) (x1 : Int) (hp1 : (-2147483648) ≤ x1 ∧ x1 ≤ 2147483647) (hE : tf_E g T) : Met l yX9_build (cd_X9_build :: wsL_law) ({ frames := 7, cells := 0, slots := 0, locals := 187 }) (tf_P g T [.ref a0, .int (Int32.ofInt x1)] (fun H => True)) (tf_Qi g M_X9_build T (fun z _ _ => (-2147483648) ≤ z ∧ z ≤ 2147483647)) 0 0 (fun q => tf_B g ≤ q) := by
  refine Met.ofW (cc := cX9_build) (maxL := 3) (ret := (some .int)) (by decide) rfl ?_
  intro p e s m args below meth c s₁ B hml hv
  obtain ⟨hargs, hk, hW0, hB, hpre⟩ := hv
  have hx := B.exec
  have hb := B.bytes
  have hr := B.returns
  have hts : ∀ w ∈ wsL_law, w.before args s = true := fun w h => atoms_spec (ws := cd_X9_build :: wsL_law) B.pre w (List.mem_cons_of_mem _ h)
  have hown : s.vm.findClass RX9 = some m.cls := findClass_of_methodNamed B.named
  have hlocks := B.notSynchronized
  have hK := hk.1
  have hW := tf_n.start (M := M_X9_build) hW0 hB
  obtain ⟨Q, hQ⟩ : ∃ q, q = MQ below (tf_Qi g M_X9_build T (fun z _ _ => (-2147483648) ≤ z ∧ z ≤ 2147483647)) args s 0 0 (fun q => tf_B g ≤ q) := ⟨_, rfl⟩
  rw [← hQ]
  obtain ⟨R, hR⟩ : ∃ q, q = (headSpec (cd_X9_build :: wsL_law) ({ frames := 7, cells := 0, slots := 0, locals := 187 })).room := ⟨_, rfl⟩
  rw [← hR]
  have hR1 : 7 ≤ R.frames := by rw [hR]; exact Nat.le_refl _
  have hR2 : 187 ≤ R.locals := by rw [hR]; exact Nat.le_refl _
  have hR3 : 0 ≤ R.cells := by rw [hR]; exact Nat.le_refl _
  have hR4 : 0 ≤ R.slots := by rw [hR]; exact Nat.le_refl _
  have hin := (name_of_methodNamed B.named B.method).1
  clear hR B
  have j_69 : ∀ (n_69 : Nat), (-2147483648) ≤ x1 ∧ x1 ≤ 2147483647 → ∀ (x2_69 : Int), (-1) ≤ x2_69 ∧ x2_69 ≤ 7 → (x2_69 - (-1) + 1 ≤ (n_69 : Int)) → ∀ (H : Heap) (locs : List Loc), tf_n tf_kt g M_X9_build T s.heap T H locs → ∀ (ls : Array Slot), lv_has ls 3 [(0, .ref a0), (1, .int (Int32.ofInt x1)), (2, .int (Int32.ofInt x2_69))] → W p l e R s m args below meth c H locs 0 0 Q (F0 m 69 ls []) := by
    intro n_69
    induction n_69 with
    | zero =>
      intro hx1_69 x2_69 hx2_69 hm_69
      exfalso; omega
    | succ n_69 ih_69 =>
      intro hx1_69 x2_69 hx2_69 hm_69 H locs hW  ls hl
      have j_93 : (-2147483648) ≤ x1 ∧ x1 ≤ 2147483647 → 0 ≤ x2_69 ∧ x2_69 ≤ 7 → ∀ (H : Heap) (locs : List Loc), tf_n tf_kt g M_X9_build T s.heap T H locs → ∀ (ls : Array Slot), lv_has ls 3 [(0, .ref a0), (1, .int (Int32.ofInt x1)), (2, .int (Int32.ofInt x2_69))] → W p l e R s m args below meth c H locs 0 0 Q (F0 m 93 ls []) := by
        intro hx1_93 hx2_93 H locs hW  ls hl
        refine lv_iinc (v := Int32.ofInt ((x2_69 + (-1)))) (lv' := [(2, .int (Int32.ofInt ((x2_69 + (-1))))), (0, .ref a0), (1, .int (Int32.ofInt x1))]) hx hb dX9_build_93 hl (k := 2) rfl (Int32.ofInt_add _ _).symm (by decide) rfl (fun ls hl => ?_)
        refine lv_goto (tgt := 69) hx hb dX9_build_96 (by decide) ?_
        exact ih_69 ⟨by omega, by omega⟩ ((x2_69 + (-1))) ⟨by omega, by omega⟩ (by omega) _ _ hW  _ (lv_sub hl [1, 2, 0] rfl)
      refine lv_iload_n hx hb dX9_build_69 rfl (lv_at hl 2 rfl) ?_
      refine tf_if_lt (tgt := 99) hx hb ⟨by omega, by omega⟩ dX9_build_70 (by decide) (fun h1 => ?_) (fun h1 => ?_)
      · refine lv_aload_n hx hb dX9_build_99 rfl (lv_at hl 0 rfl) ?_
        refine lv_aload_n hx hb dX9_build_100 rfl (lv_at hl 0 rfl) ?_
        refine tf_get hx hb hts inlX9 hown hK (ci := 9) rfl hW ha0 rfl 2 rfl (by decide) (hts _ fl_X9_23) dX9_build_101 (fun v2 hv2 hsv2 => ?_)
        obtain ⟨ad3, rfl, had3⟩ := tf_v1 hv2
        refine lv_aload_n hx hb dX9_build_104 rfl (lv_at hl 0 rfl) ?_
        refine tf_get hx hb hts inlX9 hown hK (ci := 9) rfl hW ha0 rfl 0 rfl (by decide) (hts _ fl_X9_10) dX9_build_105 (fun v4 hv4 hsv4 => ?_)
        obtain ⟨ad5, rfl, had5⟩ := tf_v1 hv4
        refine lv_aload_n hx hb dX9_build_108 rfl (lv_at hl 0 rfl) ?_
        refine tf_get hx hb hts inlX9 hown hK (ci := 9) rfl hW ha0 rfl 0 rfl (by decide) (hts _ fl_X9_10) dX9_build_109 (fun v6 hv6 hsv6 => ?_)
        obtain rfl : v6 = .ref ad5 := Option.some.inj (hsv6.symm.trans hsv4)
        refine tf_get hx hb hts inlX3 hown hK (ci := 3) rfl hW had5 rfl 0 rfl (by decide) (hts _ fl_X9_79) dX9_build_112 (fun v7 hv7 hsv7 => ?_)
        obtain ⟨ad8, rfl, had8⟩ := tf_v1 hv7
        refine tf_calli (va_runV (As := [.ref ad5, .ref ad8]) (rest := [.ref a0]) ⟨hx, hb, hml, hown, hts⟩ (c_X7_allOver l g T ad3 had3 ad5 had5 ad8 had8 hE) (cwV 2 hts gv_X9_193 rfl rfl rfl hd_X7_allOver ⟨Nat.le_trans (by decide) hR1, Nat.le_trans (by decide) hR2⟩) (tf_preV hk hW had3 (ci := 7) rfl rfl trivial) rfl rfl hl.1 rfl (lv_room (Nat.le_of_ble_eq_true rfl)) dX9_build_115 ⟨Nat.zero_le _, Nat.zero_le _⟩) hW (by decide) (fun z9 H9 locs9 hW hF9 hp9 => ?_)
        have hs10 := tf_keepF hF9 ha0 rfl rfl (by decide) hsv4
        obtain ⟨hp9_0, hp9_1⟩ := hp9
        refine tf_calli (va_runV (As := [.int (Int32.ofInt z9)]) (rest := []) ⟨hx, hb, hml, hown, hts⟩ (c_X9_accept l g T a0 ha0 (z9) ⟨by omega, by omega⟩) (cwV 1 hts gv_X9_99 rfl rfl rfl hd_X9_accept ⟨Nat.le_trans (by decide) hR1, Nat.le_trans (by decide) hR2⟩) (tf_preV hk hW ha0 (ci := 9) rfl rfl trivial) rfl rfl hl.1 rfl (lv_room (Nat.le_of_ble_eq_true rfl)) dX9_build_118 ⟨Nat.zero_le _, Nat.zero_le _⟩) hW (by decide) (fun z11 H11 locs11 hW hF11 hp11 => ?_)
        have hs12 := tf_keepF hF11 ha0 rfl rfl (by decide) hs10
        obtain ⟨hp11_0, hp11_1, hp11_2⟩ := hp11
        exact tf_reti (z := z11) hx hb hr hlocks hQ hW (show (-2147483648) ≤ (z11) ∧ (z11) ≤ 2147483647 by omega) dX9_build_121
      · refine lv_iload_n hx hb dX9_build_73 rfl (lv_at hl 1 rfl) ?_
        refine lv_iload_n hx hb dX9_build_74 rfl (lv_at hl 2 rfl) ?_
        refine tf_ishr_any hx hb dX9_build_75 (fun z13 hz13 => ?_)
        refine tf_iconst hx hb dX9_build_76 ?_
        refine tf_iand_mask hx hb 1 (by decide) (by decide +kernel) dX9_build_77 (fun z14 hz14 kz14 => ?_)
        refine tf_iconst hx hb dX9_build_78 ?_
        refine tf_icmp_ne (tgt := 93) hx hb ⟨by omega, by omega⟩ ⟨by decide, by decide⟩ dX9_build_79 (by decide) (fun h15 => ?_) (fun h15 => ?_)
        · exact j_93 ⟨by omega, by omega⟩ ⟨by omega, by omega⟩ _ _ hW  _ (lv_sub hl [0, 1, 2] rfl)
        · refine lv_aload_n hx hb dX9_build_82 rfl (lv_at hl 0 rfl) ?_
          refine tf_get hx hb hts inlX9 hown hK (ci := 9) rfl hW ha0 rfl 0 rfl (by decide) (hts _ fl_X9_10) dX9_build_83 (fun v16 hv16 hsv16 => ?_)
          obtain ⟨ad17, rfl, had17⟩ := tf_v1 hv16
          refine tf_get hx hb hts inlX3 hown hK (ci := 3) rfl hW had17 rfl 2 rfl (by decide) (hts _ fl_X9_260) dX9_build_86 (fun v18 hv18 hsv18 => ?_)
          obtain ⟨ad19, rfl, had19⟩ := tf_v1 hv18
          refine lv_iload_n hx hb dX9_build_89 rfl (lv_at hl 2 rfl) ?_
          refine tf_callv (va_runV (As := [.int (Int32.ofInt x2_69)]) (rest := []) ⟨hx, hb, hml, hown, hts⟩ (c_X8_takeOut l g T ad19 had19 (x2_69) ⟨by omega, by omega⟩) (cwV 1 hts gv_X9_268 rfl rfl rfl hd_X8_takeOut ⟨Nat.le_trans (by decide) hR1, Nat.le_trans (by decide) hR2⟩) (tf_preV hk hW had19 (ci := 8) rfl rfl trivial) rfl rfl hl.1 rfl (lv_room (Nat.le_of_ble_eq_true rfl)) dX9_build_90 ⟨Nat.zero_le _, Nat.zero_le _⟩) hW (by decide) (fun H20 locs20 hW hF20 hp20 => ?_)
          exact j_93 ⟨by omega, by omega⟩ ⟨by omega, by omega⟩ _ _ hW  _ (lv_sub hl [0, 1, 2] rfl)
  have j_22 : ∀ (n_22 : Nat), (-2147483648) ≤ x1 ∧ x1 ≤ 2147483647 → ∀ (x2_22 : Int), 0 ≤ x2_22 ∧ x2_22 ≤ 8 → (8 - x2_22 + 1 ≤ (n_22 : Int)) → ∀ (H : Heap) (locs : List Loc), tf_n tf_kt g M_X9_build T s.heap T H locs → ∀ (ls : Array Slot), lv_has ls 3 [(0, .ref a0), (1, .int (Int32.ofInt x1)), (2, .int (Int32.ofInt x2_22))] → W p l e R s m args below meth c H locs 0 0 Q (F0 m 22 ls []) := by
    intro n_22
    induction n_22 with
    | zero =>
      intro hx1_22 x2_22 hx2_22 hm_22
      exfalso; omega
    | succ n_22 ih_22 =>
      intro hx1_22 x2_22 hx2_22 hm_22 H locs hW  ls hl
      have j_60 : (-2147483648) ≤ x1 ∧ x1 ≤ 2147483647 → 0 ≤ x2_22 ∧ x2_22 ≤ 7 → ∀ (H : Heap) (locs : List Loc), tf_n tf_kt g M_X9_build T s.heap T H locs → ∀ (ls : Array Slot), lv_has ls 3 [(0, .ref a0), (1, .int (Int32.ofInt x1)), (2, .int (Int32.ofInt x2_22))] → W p l e R s m args below meth c H locs 0 0 Q (F0 m 60 ls []) := by
        intro hx1_60 hx2_60 H locs hW  ls hl
        refine lv_iinc (v := Int32.ofInt ((x2_22 + 1))) (lv' := [(2, .int (Int32.ofInt ((x2_22 + 1)))), (0, .ref a0), (1, .int (Int32.ofInt x1))]) hx hb dX9_build_60 hl (k := 2) rfl (Int32.ofInt_add _ _).symm (by decide) rfl (fun ls hl => ?_)
        refine lv_goto (tgt := 22) hx hb dX9_build_63 (by decide) ?_
        exact ih_22 ⟨by omega, by omega⟩ ((x2_22 + 1)) ⟨by omega, by omega⟩ (by omega) _ _ hW  _ (lv_sub hl [1, 2, 0] rfl)
      refine lv_iload_n hx hb dX9_build_22 rfl (lv_at hl 2 rfl) ?_
      refine lv_aload_n hx hb dX9_build_23 rfl (lv_at hl 0 rfl) ?_
      refine tf_get hx hb hts inlX9 hown hK (ci := 9) rfl hW ha0 rfl 0 rfl (by decide) (hts _ fl_X9_10) dX9_build_24 (fun v21 hv21 hsv21 => ?_)
      obtain ⟨ad22, rfl, had22⟩ := tf_v1 hv21
      refine tf_get hx hb hts inlX3 hown hK (ci := 3) rfl hW had22 rfl 2 rfl (by decide) (hts _ fl_X9_260) dX9_build_27 (fun v23 hv23 hsv23 => ?_)
      obtain ⟨ad24, rfl, had24⟩ := tf_v1 hv23
      refine tf_get hx hb hts inlX8 hown hK (ci := 8) rfl hW had24 rfl 4 rfl (by decide) (hts _ fl_X9_267) dX9_build_30 (fun v25 hv25 hsv25 => ?_)
      obtain ⟨z26, rfl, hz26⟩ := tf_v0 hv25
      refine tf_icmp_ge (tgt := 66) hx hb ⟨by omega, by omega⟩ ⟨by omega, by omega⟩ dX9_build_33 (by decide) (fun h27 => ?_) (fun h27 => ?_)
      · refine tf_bipush hx hb dX9_build_66 (by decide) ?_
        refine lv_istore_n (lv' := [(2, .int (Int32.ofInt 7)), (0, .ref a0), (1, .int (Int32.ofInt x1))]) hx hb dX9_build_68 rfl hl (by decide) rfl (fun ls hl => ?_)
        exact j_69 ((7 - (-1) + 1 : Int)).toNat ⟨by omega, by omega⟩ (7) ⟨by omega, by omega⟩ (by omega) _ _ hW  _ (lv_sub hl [1, 2, 0] rfl)
      · refine lv_iload_n hx hb dX9_build_36 rfl (lv_at hl 1 rfl) ?_
        refine lv_iload_n hx hb dX9_build_37 rfl (lv_at hl 2 rfl) ?_
        refine tf_ishr_any hx hb dX9_build_38 (fun z28 hz28 => ?_)
        refine tf_iconst hx hb dX9_build_39 ?_
        refine tf_iand_mask hx hb 1 (by decide) (by decide +kernel) dX9_build_40 (fun z29 hz29 kz29 => ?_)
        refine tf_iconst hx hb dX9_build_41 ?_
        refine tf_icmp_ne (tgt := 60) hx hb ⟨by omega, by omega⟩ ⟨by decide, by decide⟩ dX9_build_42 (by decide) (fun h30 => ?_) (fun h30 => ?_)
        · exact j_60 ⟨by omega, by omega⟩ ⟨by omega, by omega⟩ _ _ hW  _ (lv_sub hl [0, 1, 2] rfl)
        · refine lv_aload_n hx hb dX9_build_45 rfl (lv_at hl 0 rfl) ?_
          refine tf_get hx hb hts inlX9 hown hK (ci := 9) rfl hW ha0 rfl 0 rfl (by decide) (hts _ fl_X9_10) dX9_build_46 (fun v31 hv31 hsv31 => ?_)
          obtain rfl : v31 = .ref ad22 := Option.some.inj (hsv31.symm.trans hsv21)
          refine lv_iload_n hx hb dX9_build_49 rfl (lv_at hl 2 rfl) ?_
          refine lv_aload_n hx hb dX9_build_50 rfl (lv_at hl 0 rfl) ?_
          refine tf_get hx hb hts inlX9 hown hK (ci := 9) rfl hW ha0 rfl 0 rfl (by decide) (hts _ fl_X9_10) dX9_build_51 (fun v32 hv32 hsv32 => ?_)
          obtain rfl : v32 = .ref ad22 := Option.some.inj (hsv32.symm.trans hsv21)
          refine tf_get hx hb hts inlX3 hown hK (ci := 3) rfl hW had22 rfl 0 rfl (by decide) (hts _ fl_X9_79) dX9_build_54 (fun v33 hv33 hsv33 => ?_)
          obtain ⟨ad34, rfl, had34⟩ := tf_v1 hv33
          refine tf_callv (va_runV (As := [.int (Int32.ofInt x2_22), .ref ad34]) (rest := []) ⟨hx, hb, hml, hown, hts⟩ (c_X3_doWork l g T ad22 had22 (x2_22) ⟨by omega, by omega⟩ ad34 had34) (cwV 2 hts gv_X9_300 rfl rfl rfl hd_X3_doWork ⟨Nat.le_trans (by decide) hR1, Nat.le_trans (by decide) hR2⟩) (tf_preV hk hW had22 (ci := 3) rfl rfl trivial) rfl rfl hl.1 rfl (lv_room (Nat.le_of_ble_eq_true rfl)) dX9_build_57 ⟨Nat.zero_le _, Nat.zero_le _⟩) hW (by decide) (fun H35 locs35 hW hF35 hp35 => ?_)
          have hs36 := tf_keepF hF35 ha0 rfl rfl (by decide) hsv21
          exact j_60 ⟨by omega, by omega⟩ ⟨by omega, by omega⟩ _ _ hW  _ (lv_sub hl [0, 1, 2] rfl)
  refine tf_enter (As := [.ref a0, .int (Int32.ofInt x1)]) hargs (Nat.le_of_ble_eq_true rfl) (fun ls hl => ?_)
  have hl : lv_has ls 3 [(0, .ref a0), (1, .int (Int32.ofInt x1))] := hl
  refine lv_aload_n hx hb dX9_build_0 rfl (lv_at hl 0 rfl) ?_
  refine tf_get hx hb hts inlX9 hown hK (ci := 9) rfl hW ha0 rfl 0 rfl (by decide) (hts _ fl_X9_10) dX9_build_1 (fun v37 hv37 hsv37 => ?_)
  obtain ⟨ad38, rfl, had38⟩ := tf_v1 hv37
  refine tf_get hx hb hts inlX3 hown hK (ci := 3) rfl hW had38 rfl 2 rfl (by decide) (hts _ fl_X9_260) dX9_build_4 (fun v39 hv39 hsv39 => ?_)
  obtain ⟨ad40, rfl, had40⟩ := tf_v1 hv39
  refine lv_iload_n hx hb dX9_build_7 rfl (lv_at hl 1 rfl) ?_
  refine tf_calli (va_runV (As := [.int (Int32.ofInt x1)]) (rest := []) ⟨hx, hb, hml, hown, hts⟩ (c_X8_haveAll l g T ad40 had40 (x1) ⟨by omega, by omega⟩) (cwV 1 hts gv_X9_271 rfl rfl rfl hd_X8_haveAll ⟨Nat.le_trans (by decide) hR1, Nat.le_trans (by decide) hR2⟩) (tf_preV hk hW had40 (ci := 8) rfl rfl trivial) rfl rfl hl.1 rfl (lv_room (Nat.le_of_ble_eq_true rfl)) dX9_build_8 ⟨Nat.zero_le _, Nat.zero_le _⟩) hW (by decide) (fun z41 H41 locs41 hW hF41 hp41 => ?_)
  have hp41 : z41 = 0 ∨ z41 = 1 := hp41
  refine tf_if_ne (tgt := 20) hx hb ⟨by omega, by omega⟩ dX9_build_11 (by decide) (fun h42 => ?_) (fun h42 => ?_)
  · refine tf_iconst hx hb dX9_build_20 ?_
    refine lv_istore_n (lv' := [(2, .int (Int32.ofInt 0)), (0, .ref a0), (1, .int (Int32.ofInt x1))]) hx hb dX9_build_21 rfl hl (by decide) rfl (fun ls hl => ?_)
    exact j_22 ((8 - 0 + 1 : Int)).toNat ⟨by omega, by omega⟩ (0) ⟨by omega, by omega⟩ (by omega) _ _ hW  _ (lv_sub hl [1, 2, 0] rfl)
  · refine lv_aload_n hx hb dX9_build_14 rfl (lv_at hl 0 rfl) ?_
    refine tf_iconst hx hb dX9_build_15 ?_
    refine tf_calli (va_runV (As := [.int (Int32.ofInt ((-1)))]) (rest := []) ⟨hx, hb, hml, hown, hts⟩ (c_X9_refuse l g T a0 ha0 ((-1)) ⟨by omega, by omega⟩) (cwV 1 hts gv_X9_75 rfl rfl rfl hd_X9_refuse ⟨Nat.le_trans (by decide) hR1, Nat.le_trans (by decide) hR2⟩) (tf_preV hk hW ha0 (ci := 9) rfl rfl trivial) rfl rfl hl.1 rfl (lv_room (Nat.le_of_ble_eq_true rfl)) dX9_build_16 ⟨Nat.zero_le _, Nat.zero_le _⟩) hW (by decide) (fun z43 H43 locs43 hW hF43 hp43 => ?_)
    obtain ⟨hp43_0, hp43_1, hp43_2⟩ := hp43
    exact tf_reti (z := z43) hx hb hr hlocks hQ hW (show (-2147483648) ≤ (z43) ∧ (z43) ≤ 2147483647 by omega) dX9_build_19

abbrev M_X9_place : List (Nat × Nat) := [(8, 0), (12, 0), (20, 11), (23, 2), (23, 6), (23, 10), (26, 13)]
set_option maxHeartbeats 4000000 in
set_option maxRecDepth 100000 in
theorem c_X9_place (l : Launch) (g : tf_G) (T : tf_T) (a0 : Nat) (ha0 : T a0 = some (26, 0)) (x1 : Int) (hp1 : (-2147483648) ≤ x1 ∧ x1 ≤ 2147483647) : Met l yX9_place (cd_X9_place :: wsL_law) ({ frames := 4, cells := 0, slots := 0, locals := 86 }) (tf_P g T [.ref a0, .int (Int32.ofInt x1)] (fun H => True)) (tf_Qi g M_X9_place T (fun z _ _ => (-2147483648) ≤ z ∧ z ≤ 2147483647)) 0 0 (fun q => tf_B g ≤ q) := by
  refine Met.ofW (cc := cX9_place) (maxL := 2) (ret := (some .int)) (by decide) rfl ?_
  intro p e s m args below meth c s₁ B hml hv
  obtain ⟨hargs, hk, hW0, hB, hpre⟩ := hv
  have hx := B.exec
  have hb := B.bytes
  have hr := B.returns
  have hts : ∀ w ∈ wsL_law, w.before args s = true := fun w h => atoms_spec (ws := cd_X9_place :: wsL_law) B.pre w (List.mem_cons_of_mem _ h)
  have hown : s.vm.findClass RX9 = some m.cls := findClass_of_methodNamed B.named
  have hlocks := B.notSynchronized
  have hK := hk.1
  have hW := tf_n.start (M := M_X9_place) hW0 hB
  obtain ⟨Q, hQ⟩ : ∃ q, q = MQ below (tf_Qi g M_X9_place T (fun z _ _ => (-2147483648) ≤ z ∧ z ≤ 2147483647)) args s 0 0 (fun q => tf_B g ≤ q) := ⟨_, rfl⟩
  rw [← hQ]
  obtain ⟨R, hR⟩ : ∃ q, q = (headSpec (cd_X9_place :: wsL_law) ({ frames := 4, cells := 0, slots := 0, locals := 86 })).room := ⟨_, rfl⟩
  rw [← hR]
  have hR1 : 4 ≤ R.frames := by rw [hR]; exact Nat.le_refl _
  have hR2 : 86 ≤ R.locals := by rw [hR]; exact Nat.le_refl _
  have hR3 : 0 ≤ R.cells := by rw [hR]; exact Nat.le_refl _
  have hR4 : 0 ≤ R.slots := by rw [hR]; exact Nat.le_refl _
  have hin := (name_of_methodNamed B.named B.method).1
  clear hR B
  have j_35 : ∀ (H : Heap) (locs : List Loc), tf_n tf_kt g M_X9_place T s.heap T H locs → ∀ (ls : Array Slot), lv_has ls 2 [(0, .ref a0)] → W p l e R s m args below meth c H locs 0 0 Q (F0 m 35 ls []) := by
    intro  H locs hW  ls hl
    refine lv_aload_n hx hb dX9_place_35 rfl (lv_at hl 0 rfl) ?_
    refine tf_bipush hx hb dX9_place_36 (by decide) ?_
    refine tf_calli (va_runV (As := [.int (Int32.ofInt ((-3)))]) (rest := []) ⟨hx, hb, hml, hown, hts⟩ (c_X9_refuse l g T a0 ha0 ((-3)) ⟨by omega, by omega⟩) (cwV 1 hts gv_X9_75 rfl rfl rfl hd_X9_refuse ⟨Nat.le_trans (by decide) hR1, Nat.le_trans (by decide) hR2⟩) (tf_preV hk hW ha0 (ci := 9) rfl rfl trivial) rfl rfl hl.1 rfl (lv_room (Nat.le_of_ble_eq_true rfl)) dX9_place_38 ⟨Nat.zero_le _, Nat.zero_le _⟩) hW (by decide) (fun z1 H1 locs1 hW hF1 hp1 => ?_)
    obtain ⟨hp1_0, hp1_1, hp1_2⟩ := hp1
    exact tf_reti (z := z1) hx hb hr hlocks hQ hW (show (-2147483648) ≤ (z1) ∧ (z1) ≤ 2147483647 by omega) dX9_place_41
  refine tf_enter (As := [.ref a0, .int (Int32.ofInt x1)]) hargs (Nat.le_of_ble_eq_true rfl) (fun ls hl => ?_)
  have hl : lv_has ls 2 [(0, .ref a0), (1, .int (Int32.ofInt x1))] := hl
  refine lv_iload_n hx hb dX9_place_0 rfl (lv_at hl 1 rfl) ?_
  refine tf_calli (va_runS (As := [.int (Int32.ofInt x1)]) (rest := []) ⟨hx, hb, hml, hown, hts⟩ (c_X9_isCell l g T (x1) ⟨by omega, by omega⟩) ⟨callB_of 1 hts (gw_ws cm_X9_isCell) rfl rfl rfl (hts _ (tw1 (i := 2) rfl)) (hts _ (tw14 (i := 14) rfl)) hd_X9_isCell.2 ⟨Nat.le_trans (by decide) hR1, Nat.le_trans (by decide) hR2⟩, hts _ (tw9 (i := 0) rfl)⟩ (tf_preS hk hW trivial) rfl rfl hl.1 rfl (lv_room (Nat.le_of_ble_eq_true rfl)) dX9_place_1 ⟨Nat.zero_le _, Nat.zero_le _⟩) hW (by decide) (fun z2 H2 locs2 hW hF2 hp2 => ?_)
  rcases hp2 with ⟨rfl, h3, h4⟩ | ⟨rfl, h5⟩
  · refine tf_if_ne (tgt := 13) hx hb ⟨by decide, by decide⟩ dX9_place_4 (by decide) (fun h6 => ?_) (fun h6 => ?_)
    · refine lv_aload_n hx hb dX9_place_13 rfl (lv_at hl 0 rfl) ?_
      refine tf_get hx hb hts inlX9 hown hK (ci := 9) rfl hW ha0 rfl 0 rfl (by decide) (hts _ fl_X9_10) dX9_place_14 (fun v7 hv7 hsv7 => ?_)
      obtain ⟨ad8, rfl, had8⟩ := tf_v1 hv7
      refine lv_iload_n hx hb dX9_place_17 rfl (lv_at hl 1 rfl) ?_
      refine tf_calli (va_runV (As := [.int (Int32.ofInt x1)]) (rest := []) ⟨hx, hb, hml, hown, hts⟩ (c_X3_isGround l g T ad8 had8 (x1) ⟨by omega, by omega⟩) (cwV 1 hts gv_X9_124 rfl rfl rfl hd_X3_isGround ⟨Nat.le_trans (by decide) hR1, Nat.le_trans (by decide) hR2⟩) (tf_preV hk hW had8 (ci := 3) rfl rfl trivial) rfl rfl hl.1 rfl (lv_room (Nat.le_of_ble_eq_true rfl)) dX9_place_18 ⟨Nat.zero_le _, Nat.zero_le _⟩) hW (by decide) (fun z9 H9 locs9 hW hF9 hp9 => ?_)
      have hs10 := tf_keepF hF9 ha0 rfl rfl (by decide) hsv7
      rcases hp9 with ⟨rfl, h11, h12⟩ | ⟨rfl⟩
      · refine tf_if_eq (tgt := 35) hx hb ⟨by decide, by decide⟩ dX9_place_21 (by decide) (fun h13 => ?_) (fun h13 => ?_)
        · exfalso; omega
        · refine lv_aload_n hx hb dX9_place_24 rfl (lv_at hl 0 rfl) ?_
          refine tf_get hx hb hts inlX9 hown hK (ci := 9) rfl hW ha0 rfl 0 rfl (by decide) (hts _ fl_X9_10) dX9_place_25 (fun v14 hv14 hsv14 => ?_)
          obtain rfl : v14 = .ref ad8 := Option.some.inj (hsv14.symm.trans hs10)
          refine lv_iload_n hx hb dX9_place_28 rfl (lv_at hl 1 rfl) ?_
          refine tf_calli (va_runV (As := [.int (Int32.ofInt x1)]) (rest := []) ⟨hx, hb, hml, hown, hts⟩ (c_X3_hasPlaceIn l g T ad8 had8 (x1) ⟨by omega, by omega⟩) (cwV 1 hts gv_X9_304 rfl rfl rfl hd_X3_hasPlaceIn ⟨Nat.le_trans (by decide) hR1, Nat.le_trans (by decide) hR2⟩) (tf_preV hk hW had8 (ci := 3) rfl rfl trivial) rfl rfl hl.1 rfl (lv_room (Nat.le_of_ble_eq_true rfl)) dX9_place_29 ⟨Nat.zero_le _, Nat.zero_le _⟩) hW (by decide) (fun z15 H15 locs15 hW hF15 hp15 => ?_)
          have hs16 := tf_keepF hF15 ha0 rfl rfl (by decide) hs10
          have hp15 : z15 = 0 ∨ z15 = 1 := hp15
          refine tf_if_eq (tgt := 42) hx hb ⟨by omega, by omega⟩ dX9_place_32 (by decide) (fun h17 => ?_) (fun h17 => ?_)
          · refine lv_aload_n hx hb dX9_place_42 rfl (lv_at hl 0 rfl) ?_
            refine tf_get hx hb hts inlX9 hown hK (ci := 9) rfl hW ha0 rfl 0 rfl (by decide) (hts _ fl_X9_10) dX9_place_43 (fun v18 hv18 hsv18 => ?_)
            obtain rfl : v18 = .ref ad8 := Option.some.inj (hsv18.symm.trans hs16)
            refine tf_get hx hb hts inlX3 hown hK (ci := 3) rfl hW had8 rfl 11 rfl (by decide) (hts _ fl_X9_307) dX9_place_46 (fun v19 hv19 hsv19 => ?_)
            obtain ⟨z20, rfl, hz20⟩ := tf_v0 hv19
            refine tf_bipush hx hb dX9_place_49 (by decide) ?_
            refine tf_icmp_lt (tgt := 61) hx hb ⟨by omega, by omega⟩ ⟨by decide, by decide⟩ dX9_place_51 (by decide) (fun h21 => ?_) (fun h21 => ?_)
            · refine lv_aload_n hx hb dX9_place_61 rfl (lv_at hl 0 rfl) ?_
              refine lv_aload_n hx hb dX9_place_62 rfl (lv_at hl 0 rfl) ?_
              refine tf_get hx hb hts inlX9 hown hK (ci := 9) rfl hW ha0 rfl 0 rfl (by decide) (hts _ fl_X9_10) dX9_place_63 (fun v22 hv22 hsv22 => ?_)
              obtain rfl : v22 = .ref ad8 := Option.some.inj (hsv22.symm.trans hs16)
              refine lv_iload_n hx hb dX9_place_66 rfl (lv_at hl 1 rfl) ?_
              refine tf_calli (va_runV (As := [.int (Int32.ofInt x1)]) (rest := [.ref a0]) ⟨hx, hb, hml, hown, hts⟩ (c_X3_addPlace l g T ad8 had8 (x1) ⟨by omega, by omega⟩) (cwV 1 hts gv_X9_310 rfl rfl rfl hd_X3_addPlace ⟨Nat.le_trans (by decide) hR1, Nat.le_trans (by decide) hR2⟩) (tf_preV hk hW had8 (ci := 3) rfl rfl trivial) rfl rfl hl.1 rfl (lv_room (Nat.le_of_ble_eq_true rfl)) dX9_place_67 ⟨Nat.zero_le _, Nat.zero_le _⟩) hW (by decide) (fun z23 H23 locs23 hW hF23 hp23 => ?_)
              have hs24 := tf_keepF hF23 ha0 rfl rfl (by decide) hs16
              obtain ⟨hp23_0, hp23_1⟩ := hp23
              refine tf_calli (va_runV (As := [.int (Int32.ofInt z23)]) (rest := []) ⟨hx, hb, hml, hown, hts⟩ (c_X9_accept l g T a0 ha0 (z23) ⟨by omega, by omega⟩) (cwV 1 hts gv_X9_99 rfl rfl rfl hd_X9_accept ⟨Nat.le_trans (by decide) hR1, Nat.le_trans (by decide) hR2⟩) (tf_preV hk hW ha0 (ci := 9) rfl rfl trivial) rfl rfl hl.1 rfl (lv_room (Nat.le_of_ble_eq_true rfl)) dX9_place_70 ⟨Nat.zero_le _, Nat.zero_le _⟩) hW (by decide) (fun z25 H25 locs25 hW hF25 hp25 => ?_)
              have hs26 := tf_keepF hF25 ha0 rfl rfl (by decide) hs24
              obtain ⟨hp25_0, hp25_1, hp25_2⟩ := hp25
              exact tf_reti (z := z25) hx hb hr hlocks hQ hW (show (-2147483648) ≤ (z25) ∧ (z25) ≤ 2147483647 by omega) dX9_place_73
            · refine lv_aload_n hx hb dX9_place_54 rfl (lv_at hl 0 rfl) ?_
              refine tf_bipush hx hb dX9_place_55 (by decide) ?_
              refine tf_calli (va_runV (As := [.int (Int32.ofInt ((-5)))]) (rest := []) ⟨hx, hb, hml, hown, hts⟩ (c_X9_refuse l g T a0 ha0 ((-5)) ⟨by omega, by omega⟩) (cwV 1 hts gv_X9_75 rfl rfl rfl hd_X9_refuse ⟨Nat.le_trans (by decide) hR1, Nat.le_trans (by decide) hR2⟩) (tf_preV hk hW ha0 (ci := 9) rfl rfl trivial) rfl rfl hl.1 rfl (lv_room (Nat.le_of_ble_eq_true rfl)) dX9_place_57 ⟨Nat.zero_le _, Nat.zero_le _⟩) hW (by decide) (fun z27 H27 locs27 hW hF27 hp27 => ?_)
              have hs28 := tf_keepF hF27 ha0 rfl rfl (by decide) hs16
              obtain ⟨hp27_0, hp27_1, hp27_2⟩ := hp27
              exact tf_reti (z := z27) hx hb hr hlocks hQ hW (show (-2147483648) ≤ (z27) ∧ (z27) ≤ 2147483647 by omega) dX9_place_60
          · exact j_35  _ _ hW  _ (lv_sub hl [0] rfl)
      · refine tf_if_eq (tgt := 35) hx hb ⟨by decide, by decide⟩ dX9_place_21 (by decide) (fun h29 => ?_) (fun h29 => ?_)
        · exact j_35  _ _ hW  _ (lv_sub hl [0] rfl)
        · exfalso; omega
    · exfalso; omega
  · refine tf_if_ne (tgt := 13) hx hb ⟨by decide, by decide⟩ dX9_place_4 (by decide) (fun h30 => ?_) (fun h30 => ?_)
    · exfalso; omega
    · refine lv_aload_n hx hb dX9_place_7 rfl (lv_at hl 0 rfl) ?_
      refine tf_iconst hx hb dX9_place_8 ?_
      refine tf_calli (va_runV (As := [.int (Int32.ofInt ((-1)))]) (rest := []) ⟨hx, hb, hml, hown, hts⟩ (c_X9_refuse l g T a0 ha0 ((-1)) ⟨by omega, by omega⟩) (cwV 1 hts gv_X9_75 rfl rfl rfl hd_X9_refuse ⟨Nat.le_trans (by decide) hR1, Nat.le_trans (by decide) hR2⟩) (tf_preV hk hW ha0 (ci := 9) rfl rfl trivial) rfl rfl hl.1 rfl (lv_room (Nat.le_of_ble_eq_true rfl)) dX9_place_9 ⟨Nat.zero_le _, Nat.zero_le _⟩) hW (by decide) (fun z31 H31 locs31 hW hF31 hp31 => ?_)
      obtain ⟨hp31_0, hp31_1, hp31_2⟩ := hp31
      exact tf_reti (z := z31) hx hb hr hlocks hQ hW (show (-2147483648) ≤ (z31) ∧ (z31) ≤ 2147483647 by omega) dX9_place_12

abbrev M_X9_gatherWatchers : List (Nat × Nat) := [(0, 0), (4, 0), (24, 5)]
set_option maxHeartbeats 4000000 in
set_option maxRecDepth 100000 in
theorem c_X9_gatherWatchers (l : Launch) (g : tf_G) (T : tf_T) (a0 : Nat) (ha0 : T a0 = some (26, 0)) (hE : tf_E g T) : Met l yX9_gatherWatchers (cd_X9_gatherWatchers :: wsL_law) ({ frames := 7, cells := 0, slots := 0, locals := 187 }) (tf_P g T [.ref a0] (fun H => True)) (tf_Qi g M_X9_gatherWatchers T (fun z _ _ => (-2147483648) ≤ z ∧ z ≤ 2147483647)) 0 0 (fun q => tf_B g ≤ q) := by
  refine Met.ofW (cc := cX9_gatherWatchers) (maxL := 3) (ret := (some .int)) (by decide) rfl ?_
  intro p e s m args below meth c s₁ B hml hv
  obtain ⟨hargs, hk, hW0, hB, hpre⟩ := hv
  have hx := B.exec
  have hb := B.bytes
  have hr := B.returns
  have hts : ∀ w ∈ wsL_law, w.before args s = true := fun w h => atoms_spec (ws := cd_X9_gatherWatchers :: wsL_law) B.pre w (List.mem_cons_of_mem _ h)
  have hown : s.vm.findClass RX9 = some m.cls := findClass_of_methodNamed B.named
  have hlocks := B.notSynchronized
  have hK := hk.1
  have hW := tf_n.start (M := M_X9_gatherWatchers) hW0 hB
  obtain ⟨Q, hQ⟩ : ∃ q, q = MQ below (tf_Qi g M_X9_gatherWatchers T (fun z _ _ => (-2147483648) ≤ z ∧ z ≤ 2147483647)) args s 0 0 (fun q => tf_B g ≤ q) := ⟨_, rfl⟩
  rw [← hQ]
  obtain ⟨R, hR⟩ : ∃ q, q = (headSpec (cd_X9_gatherWatchers :: wsL_law) ({ frames := 7, cells := 0, slots := 0, locals := 187 })).room := ⟨_, rfl⟩
  rw [← hR]
  have hR1 : 7 ≤ R.frames := by rw [hR]; exact Nat.le_refl _
  have hR2 : 187 ≤ R.locals := by rw [hR]; exact Nat.le_refl _
  have hR3 : 0 ≤ R.cells := by rw [hR]; exact Nat.le_refl _
  have hR4 : 0 ≤ R.slots := by rw [hR]; exact Nat.le_refl _
  have hin := (name_of_methodNamed B.named B.method).1
  clear hR B
  have j_23 : ∀ (n_23 : Nat), ∀ (x1_23 : Int), 0 ≤ x1_23 ∧ x1_23 ≤ 100 → ∀ (x2_23 : Int), 0 ≤ x2_23 ∧ x2_23 ≤ 100 → (x1_23 ≤ x2_23) → (100 - x2_23 + 1 ≤ (n_23 : Int)) → ∀ (H : Heap) (locs : List Loc), tf_n tf_kt g M_X9_gatherWatchers T s.heap T H locs → ∀ (ls : Array Slot), lv_has ls 3 [(0, .ref a0), (1, .int (Int32.ofInt x1_23)), (2, .int (Int32.ofInt x2_23))] → W p l e R s m args below meth c H locs 0 0 Q (F0 m 23 ls []) := by
    intro n_23
    induction n_23 with
    | zero =>
      intro x1_23 hx1_23 x2_23 hx2_23 hi0_23 hm_23
      exfalso; omega
    | succ n_23 ih_23 =>
      intro x1_23 hx1_23 x2_23 hx2_23 hi0_23 hm_23 H locs hW  ls hl
      have j_58 : ∀ (x1_58 : Int), 0 ≤ x1_58 ∧ x1_58 ≤ 100 → 0 ≤ x2_23 ∧ x2_23 ≤ 99 → (x1_58 ≤ x2_23 + 1) → ∀ (H : Heap) (locs : List Loc), tf_n tf_kt g M_X9_gatherWatchers T s.heap T H locs → ∀ (ls : Array Slot), lv_has ls 3 [(0, .ref a0), (1, .int (Int32.ofInt x1_58)), (2, .int (Int32.ofInt x2_23))] → W p l e R s m args below meth c H locs 0 0 Q (F0 m 58 ls []) := by
        intro x1_58 hx1_58 hx2_58 hi0_58 H locs hW  ls hl
        refine lv_iinc (v := Int32.ofInt ((x2_23 + 1))) (lv' := [(2, .int (Int32.ofInt ((x2_23 + 1)))), (0, .ref a0), (1, .int (Int32.ofInt x1_58))]) hx hb dX9_gatherWatchers_58 hl (k := 2) rfl (Int32.ofInt_add _ _).symm (by decide) rfl (fun ls hl => ?_)
        refine lv_goto (tgt := 23) hx hb dX9_gatherWatchers_61 (by decide) ?_
        exact ih_23 (x1_58) ⟨by omega, by omega⟩ ((x2_23 + 1)) ⟨by omega, by omega⟩ (by omega) (by omega) _ _ hW  _ (lv_sub hl [1, 2, 0] rfl)
      refine lv_iload_n hx hb dX9_gatherWatchers_23 rfl (lv_at hl 2 rfl) ?_
      refine tf_bipush hx hb dX9_gatherWatchers_24 (by decide) ?_
      refine tf_icmp_ge (tgt := 64) hx hb ⟨by omega, by omega⟩ ⟨by decide, by decide⟩ dX9_gatherWatchers_26 (by decide) (fun h1 => ?_) (fun h1 => ?_)
      · refine lv_iload_n hx hb dX9_gatherWatchers_64 rfl (lv_at hl 1 rfl) ?_
        exact tf_reti (z := x1_23) hx hb hr hlocks hQ hW (show (-2147483648) ≤ (x1_23) ∧ (x1_23) ≤ 2147483647 by omega) dX9_gatherWatchers_65
      · refine lv_aload_n hx hb dX9_gatherWatchers_29 rfl (lv_at hl 0 rfl) ?_
        refine tf_get hx hb hts inlX9 hown hK (ci := 9) rfl hW ha0 rfl 2 rfl (by decide) (hts _ fl_X9_23) dX9_gatherWatchers_30 (fun v2 hv2 hsv2 => ?_)
        obtain ⟨ad3, rfl, had3⟩ := tf_v1 hv2
        refine tf_get hx hb hts inlX7 hown hK (ci := 7) rfl hW had3 rfl 1 rfl (by decide) (hts _ fl_X9_197) dX9_gatherWatchers_33 (fun v4 hv4 hsv4 => ?_)
        obtain ⟨ad5, rfl, had5⟩ := tf_v1 hv4
        refine lv_iload_n hx hb dX9_gatherWatchers_36 rfl (lv_at hl 2 rfl) ?_
        refine tf_iald (t0 := 0) hx hb hK hW had5 rfl rfl (by omega) (by omega) dX9_gatherWatchers_37 (fun v6 hv6 hsv6 => ?_)
        obtain ⟨z7, rfl, hz7⟩ := tf_v0 hv6
        refine tf_if_le (tgt := 58) hx hb ⟨by omega, by omega⟩ dX9_gatherWatchers_38 (by decide) (fun h8 => ?_) (fun h8 => ?_)
        · exact j_58 (x1_23) ⟨by omega, by omega⟩ ⟨by omega, by omega⟩ (by omega) _ _ hW  _ (lv_sub hl [0, 1, 2] rfl)
        · refine lv_aload_n hx hb dX9_gatherWatchers_41 rfl (lv_at hl 0 rfl) ?_
          refine tf_get hx hb hts inlX9 hown hK (ci := 9) rfl hW ha0 rfl 5 rfl (by decide) (hts _ fl_X9_41) dX9_gatherWatchers_42 (fun v9 hv9 hsv9 => ?_)
          obtain ⟨ad10, rfl, had10⟩ := tf_v1 hv9
          refine lv_iload_n hx hb dX9_gatherWatchers_45 rfl (lv_at hl 1 rfl) ?_
          refine lv_aload_n hx hb dX9_gatherWatchers_46 rfl (lv_at hl 0 rfl) ?_
          refine tf_get hx hb hts inlX9 hown hK (ci := 9) rfl hW ha0 rfl 0 rfl (by decide) (hts _ fl_X9_10) dX9_gatherWatchers_47 (fun v11 hv11 hsv11 => ?_)
          obtain ⟨ad12, rfl, had12⟩ := tf_v1 hv11
          refine lv_iload_n hx hb dX9_gatherWatchers_50 rfl (lv_at hl 2 rfl) ?_
          refine tf_calli (va_runV (As := [.int (Int32.ofInt x2_23)]) (rest := [.int (Int32.ofInt x1_23), .ref ad10]) ⟨hx, hb, hml, hown, hts⟩ (c_X3_watchers l g T ad12 had12 (x2_23) ⟨by omega, by omega⟩) (cwV 1 hts gv_X9_325 rfl rfl rfl hd_X3_watchers ⟨Nat.le_trans (by decide) hR1, Nat.le_trans (by decide) hR2⟩) (tf_preV hk hW had12 (ci := 3) rfl rfl trivial) rfl rfl hl.1 rfl (lv_room (Nat.le_of_ble_eq_true rfl)) dX9_gatherWatchers_51 ⟨Nat.zero_le _, Nat.zero_le _⟩) hW (by decide) (fun z13 H13 locs13 hW hF13 hp13 => ?_)
          obtain ⟨hp13_0, hp13_1⟩ := hp13
          refine tf_iast (t0 := 0) hx hb hK hW had10 rfl rfl (by omega) (by omega) (by decide) (tf_u0 (by omega) (by omega)) dX9_gatherWatchers_54 (fun H14 locs14 hW hs14 ht14 hq14 => ?_)
          refine lv_iinc (v := Int32.ofInt ((x1_23 + 1))) (lv' := [(1, .int (Int32.ofInt ((x1_23 + 1)))), (0, .ref a0), (2, .int (Int32.ofInt x2_23))]) hx hb dX9_gatherWatchers_55 hl (k := 1) rfl (Int32.ofInt_add _ _).symm (by decide) rfl (fun ls hl => ?_)
          exact j_58 ((x1_23 + 1)) ⟨by omega, by omega⟩ ⟨by omega, by omega⟩ (by omega) _ _ hW  _ (lv_sub hl [1, 0, 2] rfl)
  refine tf_enter (As := [.ref a0]) hargs (Nat.le_of_ble_eq_true rfl) (fun ls hl => ?_)
  have hl : lv_has ls 3 [(0, .ref a0)] := hl
  refine lv_aload_n hx hb dX9_gatherWatchers_0 rfl (lv_at hl 0 rfl) ?_
  refine tf_get hx hb hts inlX9 hown hK (ci := 9) rfl hW ha0 rfl 2 rfl (by decide) (hts _ fl_X9_23) dX9_gatherWatchers_1 (fun v15 hv15 hsv15 => ?_)
  obtain ⟨ad16, rfl, had16⟩ := tf_v1 hv15
  refine lv_aload_n hx hb dX9_gatherWatchers_4 rfl (lv_at hl 0 rfl) ?_
  refine tf_get hx hb hts inlX9 hown hK (ci := 9) rfl hW ha0 rfl 0 rfl (by decide) (hts _ fl_X9_10) dX9_gatherWatchers_5 (fun v17 hv17 hsv17 => ?_)
  obtain ⟨ad18, rfl, had18⟩ := tf_v1 hv17
  refine lv_aload_n hx hb dX9_gatherWatchers_8 rfl (lv_at hl 0 rfl) ?_
  refine tf_get hx hb hts inlX9 hown hK (ci := 9) rfl hW ha0 rfl 0 rfl (by decide) (hts _ fl_X9_10) dX9_gatherWatchers_9 (fun v19 hv19 hsv19 => ?_)
  obtain rfl : v19 = .ref ad18 := Option.some.inj (hsv19.symm.trans hsv17)
  refine tf_get hx hb hts inlX3 hown hK (ci := 3) rfl hW had18 rfl 0 rfl (by decide) (hts _ fl_X9_79) dX9_gatherWatchers_12 (fun v20 hv20 hsv20 => ?_)
  obtain ⟨ad21, rfl, had21⟩ := tf_v1 hv20
  refine tf_calli (va_runV (As := [.ref ad18, .ref ad21]) (rest := []) ⟨hx, hb, hml, hown, hts⟩ (c_X7_allOver l g T ad16 had16 ad18 had18 ad21 had21 hE) (cwV 2 hts gv_X9_193 rfl rfl rfl hd_X7_allOver ⟨Nat.le_trans (by decide) hR1, Nat.le_trans (by decide) hR2⟩) (tf_preV hk hW had16 (ci := 7) rfl rfl trivial) rfl rfl hl.1 rfl (lv_room (Nat.le_of_ble_eq_true rfl)) dX9_gatherWatchers_15 ⟨Nat.zero_le _, Nat.zero_le _⟩) hW (by decide) (fun z22 H22 locs22 hW hF22 hp22 => ?_)
  have hs23 := tf_keepF hF22 ha0 rfl rfl (by decide) hsv17
  obtain ⟨hp22_0, hp22_1⟩ := hp22
  refine lv_pop hx hb dX9_gatherWatchers_18 rfl ?_
  refine tf_iconst hx hb dX9_gatherWatchers_19 ?_
  refine lv_istore_n (lv' := [(1, .int (Int32.ofInt 0)), (0, .ref a0)]) hx hb dX9_gatherWatchers_20 rfl hl (by decide) rfl (fun ls hl => ?_)
  refine tf_iconst hx hb dX9_gatherWatchers_21 ?_
  refine lv_istore_n (lv' := [(2, .int (Int32.ofInt 0)), (1, .int (Int32.ofInt 0)), (0, .ref a0)]) hx hb dX9_gatherWatchers_22 rfl hl (by decide) rfl (fun ls hl => ?_)
  exact j_23 ((100 - 0 + 1 : Int)).toNat (0) ⟨by omega, by omega⟩ (0) ⟨by omega, by omega⟩ (by omega) (by omega) _ _ hW  _ (lv_sub hl [2, 1, 0] rfl)

abbrev M_X9_watchesAll : List (Nat × Nat) := []
set_option maxHeartbeats 4000000 in
set_option maxRecDepth 100000 in
theorem c_X9_watchesAll (l : Launch) (g : tf_G) (T : tf_T) (a0 : Nat) (ha0 : T a0 = some (26, 0)) (x1 : Int) (hp1 : (-2147483648) ≤ x1 ∧ x1 ≤ 2147483647) (x2 : Int) (hp2 : (-2147483648) ≤ x2 ∧ x2 ≤ 2147483647) : Met l yX9_watchesAll (cd_X9_watchesAll :: wsL_law) ({ frames := 1, cells := 0, slots := 0, locals := 24 }) (tf_P g T [.ref a0, .int (Int32.ofInt x1), .int (Int32.ofInt x2)] (fun H => True)) (tf_Qi g M_X9_watchesAll T (fun z _ _ => z = 0 ∨ z = 1)) 0 0 (fun q => tf_B g ≤ q) := by
  refine Met.ofW (cc := cX9_watchesAll) (maxL := 4) (ret := (some .boolean)) (by decide) rfl ?_
  intro p e s m args below meth c s₁ B hml hv
  obtain ⟨hargs, hk, hW0, hB, hpre⟩ := hv
  have hx := B.exec
  have hb := B.bytes
  have hr := B.returns
  have hts : ∀ w ∈ wsL_law, w.before args s = true := fun w h => atoms_spec (ws := cd_X9_watchesAll :: wsL_law) B.pre w (List.mem_cons_of_mem _ h)
  have hown : s.vm.findClass RX9 = some m.cls := findClass_of_methodNamed B.named
  have hlocks := B.notSynchronized
  have hK := hk.1
  have hW := tf_n.start (M := M_X9_watchesAll) hW0 hB
  obtain ⟨Q, hQ⟩ : ∃ q, q = MQ below (tf_Qi g M_X9_watchesAll T (fun z _ _ => z = 0 ∨ z = 1)) args s 0 0 (fun q => tf_B g ≤ q) := ⟨_, rfl⟩
  rw [← hQ]
  obtain ⟨R, hR⟩ : ∃ q, q = (headSpec (cd_X9_watchesAll :: wsL_law) ({ frames := 1, cells := 0, slots := 0, locals := 24 })).room := ⟨_, rfl⟩
  rw [← hR]
  have hR1 : 1 ≤ R.frames := by rw [hR]; exact Nat.le_refl _
  have hR2 : 24 ≤ R.locals := by rw [hR]; exact Nat.le_refl _
  have hR3 : 0 ≤ R.cells := by rw [hR]; exact Nat.le_refl _
  have hR4 : 0 ≤ R.slots := by rw [hR]; exact Nat.le_refl _
  have hin := (name_of_methodNamed B.named B.method).1
  clear hR B
  have j_2 : ∀ (n_2 : Nat), (-2147483648) ≤ x1 ∧ x1 ≤ 2147483647 → (-2147483648) ≤ x2 ∧ x2 ≤ 2147483647 → ∀ (x3_2 : Int), 0 ≤ x3_2 ∧ x3_2 ≤ 100 → (100 - x3_2 + 1 ≤ (n_2 : Int)) → ∀ (H : Heap) (locs : List Loc), tf_n tf_kt g M_X9_watchesAll T s.heap T H locs → ∀ (ls : Array Slot), lv_has ls 4 [(0, .ref a0), (1, .int (Int32.ofInt x1)), (2, .int (Int32.ofInt x2)), (3, .int (Int32.ofInt x3_2))] → W p l e R s m args below meth c H locs 0 0 Q (F0 m 2 ls []) := by
    intro n_2
    induction n_2 with
    | zero =>
      intro hx1_2 hx2_2 x3_2 hx3_2 hm_2
      exfalso; omega
    | succ n_2 ih_2 =>
      intro hx1_2 hx2_2 x3_2 hx3_2 hm_2 H locs hW  ls hl
      refine lv_iload_n hx hb dX9_watchesAll_2 rfl (lv_at hl 3 rfl) ?_
      refine lv_iload_n hx hb dX9_watchesAll_3 rfl (lv_at hl 2 rfl) ?_
      refine tf_icmp_ge (tgt := 32) hx hb ⟨by omega, by omega⟩ ⟨by omega, by omega⟩ dX9_watchesAll_4 (by decide) (fun h1 => ?_) (fun h1 => ?_)
      · refine tf_iconst hx hb dX9_watchesAll_32 ?_
        exact tf_retz (z := 1) hx hb hr hlocks hQ hW (by omega) (show (1) = 0 ∨ (1) = 1 by omega) dX9_watchesAll_33
      · refine lv_iload_n hx hb dX9_watchesAll_7 rfl (lv_at hl 3 rfl) ?_
        refine tf_bipush hx hb dX9_watchesAll_8 (by decide) ?_
        refine tf_icmp_ge (tgt := 32) hx hb ⟨by omega, by omega⟩ ⟨by decide, by decide⟩ dX9_watchesAll_10 (by decide) (fun h2 => ?_) (fun h2 => ?_)
        · refine tf_iconst hx hb dX9_watchesAll_32 ?_
          exact tf_retz (z := 1) hx hb hr hlocks hQ hW (by omega) (show (1) = 0 ∨ (1) = 1 by omega) dX9_watchesAll_33
        · refine lv_aload_n hx hb dX9_watchesAll_13 rfl (lv_at hl 0 rfl) ?_
          refine tf_get hx hb hts inlX9 hown hK (ci := 9) rfl hW ha0 rfl 5 rfl (by decide) (hts _ fl_X9_41) dX9_watchesAll_14 (fun v3 hv3 hsv3 => ?_)
          obtain ⟨ad4, rfl, had4⟩ := tf_v1 hv3
          refine lv_iload_n hx hb dX9_watchesAll_17 rfl (lv_at hl 3 rfl) ?_
          refine tf_iald (t0 := 0) hx hb hK hW had4 rfl rfl (by omega) (by omega) dX9_watchesAll_18 (fun v5 hv5 hsv5 => ?_)
          obtain ⟨z6, rfl, hz6⟩ := tf_v0 hv5
          refine lv_iload_n hx hb dX9_watchesAll_19 rfl (lv_at hl 1 rfl) ?_
          refine tf_iand_any hx hb dX9_watchesAll_20 (fun z7 hz7 => ?_)
          refine tf_if_ne (tgt := 26) hx hb ⟨by omega, by omega⟩ dX9_watchesAll_21 (by decide) (fun h8 => ?_) (fun h8 => ?_)
          · refine lv_iinc (v := Int32.ofInt ((x3_2 + 1))) (lv' := [(3, .int (Int32.ofInt ((x3_2 + 1)))), (0, .ref a0), (1, .int (Int32.ofInt x1)), (2, .int (Int32.ofInt x2))]) hx hb dX9_watchesAll_26 hl (k := 3) rfl (Int32.ofInt_add _ _).symm (by decide) rfl (fun ls hl => ?_)
            refine lv_goto (tgt := 2) hx hb dX9_watchesAll_29 (by decide) ?_
            exact ih_2 ⟨by omega, by omega⟩ ⟨by omega, by omega⟩ ((x3_2 + 1)) ⟨by omega, by omega⟩ (by omega) _ _ hW  _ (lv_sub hl [1, 2, 3, 0] rfl)
          · refine tf_iconst hx hb dX9_watchesAll_24 ?_
            exact tf_retz (z := 0) hx hb hr hlocks hQ hW (by omega) (show (0) = 0 ∨ (0) = 1 by omega) dX9_watchesAll_25
  refine tf_enter (As := [.ref a0, .int (Int32.ofInt x1), .int (Int32.ofInt x2)]) hargs (Nat.le_of_ble_eq_true rfl) (fun ls hl => ?_)
  have hl : lv_has ls 4 [(0, .ref a0), (1, .int (Int32.ofInt x1)), (2, .int (Int32.ofInt x2))] := hl
  refine tf_iconst hx hb dX9_watchesAll_0 ?_
  refine lv_istore_n (lv' := [(3, .int (Int32.ofInt 0)), (0, .ref a0), (1, .int (Int32.ofInt x1)), (2, .int (Int32.ofInt x2))]) hx hb dX9_watchesAll_1 rfl hl (by decide) rfl (fun ls hl => ?_)
  exact j_2 ((100 - 0 + 1 : Int)).toNat ⟨by omega, by omega⟩ ⟨by omega, by omega⟩ (0) ⟨by omega, by omega⟩ (by omega) _ _ hW  _ (lv_sub hl [1, 2, 3, 0] rfl)

abbrev M_X9_glass : List (Nat × Nat) := [(0, 0), (4, 0), (24, 5)]
set_option maxHeartbeats 4000000 in
set_option maxRecDepth 100000 in
theorem c_X9_glass (l : Launch) (g : tf_G) (T : tf_T) (a0 : Nat) (ha0 : T a0 = some (26, 0)) (x1 : Int) (hp1 : (-2147483648) ≤ x1 ∧ x1 ≤ 2147483647) (hE : tf_E g T) : Met l yX9_glass (cd_X9_glass :: wsL_law) ({ frames := 8, cells := 0, slots := 0, locals := 209 }) (tf_P g T [.ref a0, .int (Int32.ofInt x1)] (fun H => True)) (tf_Qi g M_X9_glass T (fun z _ _ => (-2147483648) ≤ z ∧ z ≤ 2147483647)) 0 0 (fun q => tf_B g ≤ q) := by
  refine Met.ofW (cc := cX9_glass) (maxL := 8) (ret := (some .int)) (by decide) rfl ?_
  intro p e s m args below meth c s₁ B hml hv
  obtain ⟨hargs, hk, hW0, hB, hpre⟩ := hv
  have hx := B.exec
  have hb := B.bytes
  have hr := B.returns
  have hts : ∀ w ∈ wsL_law, w.before args s = true := fun w h => atoms_spec (ws := cd_X9_glass :: wsL_law) B.pre w (List.mem_cons_of_mem _ h)
  have hown : s.vm.findClass RX9 = some m.cls := findClass_of_methodNamed B.named
  have hlocks := B.notSynchronized
  have hK := hk.1
  have hW := tf_n.start (M := M_X9_glass) hW0 hB
  obtain ⟨Q, hQ⟩ : ∃ q, q = MQ below (tf_Qi g M_X9_glass T (fun z _ _ => (-2147483648) ≤ z ∧ z ≤ 2147483647)) args s 0 0 (fun q => tf_B g ≤ q) := ⟨_, rfl⟩
  rw [← hQ]
  obtain ⟨R, hR⟩ : ∃ q, q = (headSpec (cd_X9_glass :: wsL_law) ({ frames := 8, cells := 0, slots := 0, locals := 209 })).room := ⟨_, rfl⟩
  rw [← hR]
  have hR1 : 8 ≤ R.frames := by rw [hR]; exact Nat.le_refl _
  have hR2 : 209 ≤ R.locals := by rw [hR]; exact Nat.le_refl _
  have hR3 : 0 ≤ R.cells := by rw [hR]; exact Nat.le_refl _
  have hR4 : 0 ≤ R.slots := by rw [hR]; exact Nat.le_refl _
  have hin := (name_of_methodNamed B.named B.method).1
  clear hR B
  have j_28 : ∀ (n_28 : Nat), 0 ≤ x1 ∧ x1 ≤ 2 → ∀ (x2_28 : Int), (-2147483648) ≤ x2_28 ∧ x2_28 ≤ 2147483647 → ∀ (x3_28 : Int), (-2147483648) ≤ x3_28 ∧ x3_28 ≤ 13 → ∀ (x4_28 : Int), (-1) ≤ x4_28 ∧ x4_28 ≤ 2147483646 → ∀ (x5_28 : Int), (-2147483648) ≤ x5_28 ∧ x5_28 ≤ 2147483647 → ∀ (x6_28 : Int), 0 ≤ x6_28 ∧ x6_28 ≤ 2147483647 → (2147483647 - x6_28 + 1 ≤ (n_28 : Int)) → ∀ (H : Heap) (locs : List Loc), tf_n tf_kt g M_X9_glass T s.heap T H locs → ∀ (ls : Array Slot), lv_has ls 8 [(0, .ref a0), (1, .int (Int32.ofInt x1)), (2, .int (Int32.ofInt x2_28)), (3, .int (Int32.ofInt x3_28)), (4, .int (Int32.ofInt x4_28)), (5, .int (Int32.ofInt x5_28)), (6, .int (Int32.ofInt x6_28))] → W p l e R s m args below meth c H locs 0 0 Q (F0 m 28 ls []) := by
    intro n_28
    induction n_28 with
    | zero =>
      intro hx1_28 x2_28 hx2_28 x3_28 hx3_28 x4_28 hx4_28 x5_28 hx5_28 x6_28 hx6_28 hm_28
      exfalso; omega
    | succ n_28 ih_28 =>
      intro hx1_28 x2_28 hx2_28 x3_28 hx3_28 x4_28 hx4_28 x5_28 hx5_28 x6_28 hx6_28 hm_28 H locs hW  ls hl
      have j_99 : 0 ≤ x1 ∧ x1 ≤ 2 → (-2147483648) ≤ x2_28 ∧ x2_28 ≤ 2147483647 → ∀ (x3_99 : Int), (-2147483648) ≤ x3_99 ∧ x3_99 ≤ 13 → ∀ (x4_99 : Int), (-1) ≤ x4_99 ∧ x4_99 ≤ 2147483646 → ∀ (x5_99 : Int), (-2147483648) ≤ x5_99 ∧ x5_99 ≤ 2147483647 → 0 ≤ x6_28 ∧ x6_28 ≤ 2147483646 → ∀ (H : Heap) (locs : List Loc), tf_n tf_kt g M_X9_glass T s.heap T H locs → ∀ (ls : Array Slot), lv_has ls 8 [(0, .ref a0), (1, .int (Int32.ofInt x1)), (2, .int (Int32.ofInt x2_28)), (3, .int (Int32.ofInt x3_99)), (4, .int (Int32.ofInt x4_99)), (5, .int (Int32.ofInt x5_99)), (6, .int (Int32.ofInt x6_28))] → W p l e R s m args below meth c H locs 0 0 Q (F0 m 99 ls []) := by
        intro hx1_99 hx2_99 x3_99 hx3_99 x4_99 hx4_99 x5_99 hx5_99 hx6_99 H locs hW  ls hl
        refine lv_iinc (v := Int32.ofInt ((x6_28 + 1))) (lv' := [(6, .int (Int32.ofInt ((x6_28 + 1)))), (0, .ref a0), (1, .int (Int32.ofInt x1)), (2, .int (Int32.ofInt x2_28)), (3, .int (Int32.ofInt x3_99)), (4, .int (Int32.ofInt x4_99)), (5, .int (Int32.ofInt x5_99))]) hx hb dX9_glass_99 hl (k := 6) rfl (Int32.ofInt_add _ _).symm (by decide) rfl (fun ls hl => ?_)
        refine lv_goto (tgt := 28) hx hb dX9_glass_102 (by decide) ?_
        exact ih_28 ⟨by omega, by omega⟩ (x2_28) ⟨by omega, by omega⟩ (x3_99) ⟨by omega, by omega⟩ (x4_99) ⟨by omega, by omega⟩ (x5_99) ⟨by omega, by omega⟩ ((x6_28 + 1)) ⟨by omega, by omega⟩ (by omega) _ _ hW  _ (lv_sub hl [1, 2, 3, 4, 5, 6, 0] rfl)
      have j_94 : 0 ≤ x1 ∧ x1 ≤ 2 → (-2147483648) ≤ x2_28 ∧ x2_28 ≤ 2147483647 → ∀ (x5_94 : Int), (-2147483648) ≤ x5_94 ∧ x5_94 ≤ 2147483647 → 0 ≤ x6_28 ∧ x6_28 ≤ 2147483646 → ∀ (x7_94 : Int), (-2147483648) ≤ x7_94 ∧ x7_94 ≤ 13 → ∀ (y0_94 : Int), (-1) ≤ y0_94 ∧ y0_94 ≤ 2147483646 → ∀ (H : Heap) (locs : List Loc), tf_n tf_kt g M_X9_glass T s.heap T H locs → ∀ (ls : Array Slot), lv_has ls 8 [(0, .ref a0), (1, .int (Int32.ofInt x1)), (2, .int (Int32.ofInt x2_28)), (5, .int (Int32.ofInt x5_94)), (6, .int (Int32.ofInt x6_28)), (7, .int (Int32.ofInt x7_94))] → W p l e R s m args below meth c H locs 0 0 Q (F0 m 94 ls [.int (Int32.ofInt y0_94)]) := by
        intro hx1_94 hx2_94 x5_94 hx5_94 hx6_94 x7_94 hx7_94 y0_94 hy0_94 H locs hW  ls hl
        refine lv_istore (lv' := [(4, .int (Int32.ofInt y0_94)), (0, .ref a0), (1, .int (Int32.ofInt x1)), (2, .int (Int32.ofInt x2_28)), (5, .int (Int32.ofInt x5_94)), (6, .int (Int32.ofInt x6_28)), (7, .int (Int32.ofInt x7_94))]) hx hb dX9_glass_94 hl (by decide) rfl (fun ls hl => ?_)
        refine lv_iload hx hb dX9_glass_96 (lv_at hl 6 rfl) ?_
        refine lv_istore_n (lv' := [(3, .int (Int32.ofInt x7_94)), (4, .int (Int32.ofInt y0_94)), (0, .ref a0), (1, .int (Int32.ofInt x1)), (2, .int (Int32.ofInt x2_28)), (5, .int (Int32.ofInt x5_94)), (6, .int (Int32.ofInt x6_28)), (7, .int (Int32.ofInt x7_94))]) hx hb dX9_glass_98 rfl hl (by decide) rfl (fun ls hl => ?_)
        exact j_99 ⟨by omega, by omega⟩ ⟨by omega, by omega⟩ (x7_94) ⟨by omega, by omega⟩ (y0_94) ⟨by omega, by omega⟩ (x5_94) ⟨by omega, by omega⟩ ⟨by omega, by omega⟩ _ _ hW  _ (lv_sub hl [2, 3, 4, 0, 1, 5, 6] rfl)
      have j_79 : 0 ≤ x1 ∧ x1 ≤ 2 → (-2147483648) ≤ x2_28 ∧ x2_28 ≤ 2147483647 → (-2147483648) ≤ x3_28 ∧ x3_28 ≤ 13 → (-1) ≤ x4_28 ∧ x4_28 ≤ 2147483646 → 0 ≤ x6_28 ∧ x6_28 ≤ 2147483646 → ∀ (x7_79 : Int), (-2147483648) ≤ x7_79 ∧ x7_79 ≤ 13 → ∀ (y0_79 : Int), (-2147483648) ≤ y0_79 ∧ y0_79 ≤ 2147483647 → ∀ (H : Heap) (locs : List Loc), tf_n tf_kt g M_X9_glass T s.heap T H locs → ∀ (ls : Array Slot), lv_has ls 8 [(0, .ref a0), (1, .int (Int32.ofInt x1)), (2, .int (Int32.ofInt x2_28)), (3, .int (Int32.ofInt x3_28)), (4, .int (Int32.ofInt x4_28)), (6, .int (Int32.ofInt x6_28)), (7, .int (Int32.ofInt x7_79))] → W p l e R s m args below meth c H locs 0 0 Q (F0 m 79 ls [.int (Int32.ofInt y0_79)]) := by
        intro hx1_79 hx2_79 hx3_79 hx4_79 hx6_79 x7_79 hx7_79 y0_79 hy0_79 H locs hW  ls hl
        refine lv_istore (lv' := [(5, .int (Int32.ofInt y0_79)), (0, .ref a0), (1, .int (Int32.ofInt x1)), (2, .int (Int32.ofInt x2_28)), (3, .int (Int32.ofInt x3_28)), (4, .int (Int32.ofInt x4_28)), (6, .int (Int32.ofInt x6_28)), (7, .int (Int32.ofInt x7_79))]) hx hb dX9_glass_79 hl (by decide) rfl (fun ls hl => ?_)
        refine lv_iload hx hb dX9_glass_81 (lv_at hl 7 rfl) ?_
        refine lv_iload_n hx hb dX9_glass_83 rfl (lv_at hl 4 rfl) ?_
        refine tf_icmp_ge (tgt := 92) hx hb ⟨by omega, by omega⟩ ⟨by omega, by omega⟩ dX9_glass_84 (by decide) (fun h1 => ?_) (fun h1 => ?_)
        · refine lv_iload hx hb dX9_glass_92 (lv_at hl 5 rfl) ?_
          exact j_94 ⟨by omega, by omega⟩ ⟨by omega, by omega⟩ (y0_79) ⟨by omega, by omega⟩ ⟨by omega, by omega⟩ (x7_79) ⟨by omega, by omega⟩ (x4_28) ⟨by omega, by omega⟩ _ _ hW  _ (lv_sub hl [1, 2, 3, 0, 6, 7] rfl)
        · refine lv_iload hx hb dX9_glass_87 (lv_at hl 6 rfl) ?_
          refine lv_goto (tgt := 94) hx hb dX9_glass_89 (by decide) ?_
          exact j_94 ⟨by omega, by omega⟩ ⟨by omega, by omega⟩ (y0_79) ⟨by omega, by omega⟩ ⟨by omega, by omega⟩ (x7_79) ⟨by omega, by omega⟩ (x6_28) ⟨by omega, by omega⟩ _ _ hW  _ (lv_sub hl [1, 2, 3, 0, 6, 7] rfl)
      refine lv_iload hx hb dX9_glass_28 (lv_at hl 6 rfl) ?_
      refine tf_iconst hx hb dX9_glass_30 ?_
      refine lv_aload_n hx hb dX9_glass_31 rfl (lv_at hl 0 rfl) ?_
      refine tf_get hx hb hts inlX9 hown hK (ci := 9) rfl hW ha0 rfl 0 rfl (by decide) (hts _ fl_X9_10) dX9_glass_32 (fun v2 hv2 hsv2 => ?_)
      obtain ⟨ad3, rfl, had3⟩ := tf_v1 hv2
      refine tf_get hx hb hts inlX3 hown hK (ci := 3) rfl hW had3 rfl 11 rfl (by decide) (hts _ fl_X9_307) dX9_glass_35 (fun v4 hv4 hsv4 => ?_)
      obtain ⟨z5, rfl, hz5⟩ := tf_v0 hv4
      refine tf_ishl_any hx hb dX9_glass_38 (fun z6 hz6 => ?_)
      refine tf_icmp_ge (tgt := 105) hx hb ⟨by omega, by omega⟩ ⟨by omega, by omega⟩ dX9_glass_39 (by decide) (fun h7 => ?_) (fun h7 => ?_)
      · refine lv_iload_n hx hb dX9_glass_105 rfl (lv_at hl 1 rfl) ?_
        refine tf_iconst hx hb dX9_glass_106 ?_
        refine tf_icmp_ne (tgt := 113) hx hb ⟨by omega, by omega⟩ ⟨by decide, by decide⟩ dX9_glass_107 (by decide) (fun h8 => ?_) (fun h8 => ?_)
        · refine lv_iload_n hx hb dX9_glass_113 rfl (lv_at hl 1 rfl) ?_
          refine tf_iconst hx hb dX9_glass_114 ?_
          refine tf_icmp_eq (tgt := 124) hx hb ⟨by omega, by omega⟩ ⟨by decide, by decide⟩ dX9_glass_115 (by decide) (fun h9 => ?_) (fun h9 => ?_)
          · refine lv_iload hx hb dX9_glass_124 (lv_at hl 4 rfl) ?_
            refine lv_goto (tgt := 130) hx hb dX9_glass_126 (by decide) ?_
            exact tf_reti (z := x4_28) hx hb hr hlocks hQ hW (show (-2147483648) ≤ (x4_28) ∧ (x4_28) ≤ 2147483647 by omega) dX9_glass_130
          · refine lv_iload hx hb dX9_glass_118 (lv_at hl 4 rfl) ?_
            refine tf_iconst hx hb dX9_glass_120 ?_
            refine tf_icmp_ne (tgt := 129) hx hb ⟨by omega, by omega⟩ ⟨by decide, by decide⟩ dX9_glass_121 (by decide) (fun h10 => ?_) (fun h10 => ?_)
            · refine lv_iload_n hx hb dX9_glass_129 rfl (lv_at hl 3 rfl) ?_
              exact tf_reti (z := x3_28) hx hb hr hlocks hQ hW (show (-2147483648) ≤ (x3_28) ∧ (x3_28) ≤ 2147483647 by omega) dX9_glass_130
            · refine lv_iload hx hb dX9_glass_124 (lv_at hl 4 rfl) ?_
              refine lv_goto (tgt := 130) hx hb dX9_glass_126 (by decide) ?_
              exact tf_reti (z := x4_28) hx hb hr hlocks hQ hW (show (-2147483648) ≤ (x4_28) ∧ (x4_28) ≤ 2147483647 by omega) dX9_glass_130
        · refine lv_iload hx hb dX9_glass_110 (lv_at hl 5 rfl) ?_
          exact tf_reti (z := x5_28) hx hb hr hlocks hQ hW (show (-2147483648) ≤ (x5_28) ∧ (x5_28) ≤ 2147483647 by omega) dX9_glass_112
      · refine lv_iload hx hb dX9_glass_42 (lv_at hl 6 rfl) ?_
        refine tf_calli (va_runS (As := [.int (Int32.ofInt x6_28)]) (rest := []) ⟨hx, hb, hml, hown, hts⟩ (c_J6_bitCount_0f7a4 l g T (x6_28) ⟨by omega, by omega⟩) ⟨callB_of 1 hts (gw_ws cm_J6_bitCount_0f7a4) rfl rfl rfl (hts _ (tw42 (i := 20) rfl)) (hts _ (tw52 (i := 9) rfl)) hd_J6_bitCount_0f7a4.2 ⟨Nat.le_trans (by decide) hR1, Nat.le_trans (by decide) hR2⟩, hts _ (tw42 (i := 19) rfl)⟩ (tf_preS hk hW trivial) rfl rfl hl.1 rfl (lv_room (Nat.le_of_ble_eq_true rfl)) dX9_glass_44 ⟨Nat.zero_le _, Nat.zero_le _⟩) hW (by decide) (fun z11 H11 locs11 hW hF11 hp11 => ?_)
        obtain ⟨hp11_0, hp11_1, hp11_2⟩ := hp11
        refine lv_istore (lv' := [(7, .int (Int32.ofInt z11)), (0, .ref a0), (1, .int (Int32.ofInt x1)), (2, .int (Int32.ofInt x2_28)), (3, .int (Int32.ofInt x3_28)), (4, .int (Int32.ofInt x4_28)), (5, .int (Int32.ofInt x5_28)), (6, .int (Int32.ofInt x6_28))]) hx hb dX9_glass_47 hl (by decide) rfl (fun ls hl => ?_)
        refine lv_iload hx hb dX9_glass_49 (lv_at hl 0 rfl) ?_
        refine lv_iload_n hx hb dX9_glass_51 rfl (lv_at hl 4 rfl) ?_
        refine tf_icmp_gt (tgt := 99) hx hb ⟨by omega, by omega⟩ ⟨by omega, by omega⟩ dX9_glass_52 (by decide) (fun h12 => ?_) (fun h12 => ?_)
        · exact j_99 ⟨by omega, by omega⟩ ⟨by omega, by omega⟩ (x3_28) ⟨by omega, by omega⟩ (x4_28) ⟨by omega, by omega⟩ (x5_28) ⟨by omega, by omega⟩ ⟨by omega, by omega⟩ _ _ hW  _ (lv_sub hl [1, 2, 3, 4, 5, 6, 7] rfl)
        · refine lv_aload_n hx hb dX9_glass_55 rfl (lv_at hl 1 rfl) ?_
          refine lv_iload hx hb dX9_glass_56 (lv_at hl 7 rfl) ?_
          refine lv_iload_n hx hb dX9_glass_58 rfl (lv_at hl 3 rfl) ?_
          refine tf_calli (va_runV (As := [.int (Int32.ofInt x6_28), .int (Int32.ofInt x2_28)]) (rest := []) ⟨hx, hb, hml, hown, hts⟩ (c_X9_watchesAll l g T a0 ha0 (x6_28) ⟨by omega, by omega⟩ (x2_28) ⟨by omega, by omega⟩) (cwV 2 hts gv_X9_321 rfl rfl rfl hd_X9_watchesAll ⟨Nat.le_trans (by decide) hR1, Nat.le_trans (by decide) hR2⟩) (tf_preV hk hW ha0 (ci := 9) rfl rfl trivial) rfl rfl hl.1 rfl (lv_room (Nat.le_of_ble_eq_true rfl)) dX9_glass_59 ⟨Nat.zero_le _, Nat.zero_le _⟩) hW (by decide) (fun z13 H13 locs13 hW hF13 hp13 => ?_)
          have hp13 : z13 = 0 ∨ z13 = 1 := hp13
          refine tf_if_eq (tgt := 99) hx hb ⟨by omega, by omega⟩ dX9_glass_62 (by decide) (fun h14 => ?_) (fun h14 => ?_)
          · exact j_99 ⟨by omega, by omega⟩ ⟨by omega, by omega⟩ (x3_28) ⟨by omega, by omega⟩ (x4_28) ⟨by omega, by omega⟩ (x5_28) ⟨by omega, by omega⟩ ⟨by omega, by omega⟩ _ _ hW  _ (lv_sub hl [1, 2, 3, 4, 5, 6, 7] rfl)
          · refine lv_iload hx hb dX9_glass_65 (lv_at hl 0 rfl) ?_
            refine lv_iload_n hx hb dX9_glass_67 rfl (lv_at hl 4 rfl) ?_
            refine tf_icmp_ge (tgt := 75) hx hb ⟨by omega, by omega⟩ ⟨by omega, by omega⟩ dX9_glass_68 (by decide) (fun h15 => ?_) (fun h15 => ?_)
            · refine lv_iload hx hb dX9_glass_75 (lv_at hl 6 rfl) ?_
              refine tf_iconst hx hb dX9_glass_77 ?_
              refine tf_iadd_any hx hb dX9_glass_78 (fun z16 hz16 => ?_)
              exact j_79 ⟨by omega, by omega⟩ ⟨by omega, by omega⟩ ⟨by omega, by omega⟩ ⟨by omega, by omega⟩ ⟨by omega, by omega⟩ (z11) ⟨by omega, by omega⟩ (z16) ⟨by omega, by omega⟩ _ _ hW  _ (lv_sub hl [1, 2, 3, 4, 5, 7, 0] rfl)
            · refine tf_iconst hx hb dX9_glass_71 ?_
              refine lv_goto (tgt := 79) hx hb dX9_glass_72 (by decide) ?_
              exact j_79 ⟨by omega, by omega⟩ ⟨by omega, by omega⟩ ⟨by omega, by omega⟩ ⟨by omega, by omega⟩ ⟨by omega, by omega⟩ (z11) ⟨by omega, by omega⟩ (1) ⟨by omega, by omega⟩ _ _ hW  _ (lv_sub hl [1, 2, 3, 4, 5, 7, 0] rfl)
  refine tf_enter (As := [.ref a0, .int (Int32.ofInt x1)]) hargs (Nat.le_of_ble_eq_true rfl) (fun ls hl => ?_)
  have hl : lv_has ls 8 [(0, .ref a0), (1, .int (Int32.ofInt x1))] := hl
  refine lv_iload_n hx hb dX9_glass_0 rfl (lv_at hl 1 rfl) ?_
  refine tf_iconst hx hb dX9_glass_1 ?_
  refine tf_iconst hx hb dX9_glass_2 ?_
  refine tf_calli (va_runS (As := [.int (Int32.ofInt x1), .int (Int32.ofInt 0), .int (Int32.ofInt 2)]) (rest := []) ⟨hx, hb, hml, hown, hts⟩ (c_X9_isWithin l g T (x1) ⟨by omega, by omega⟩ (0) ⟨by omega, by omega⟩ (2) ⟨by omega, by omega⟩) ⟨callB_of 3 hts (gw_ws cm_X9_isWithin) rfl rfl rfl (hts _ (tw1 (i := 2) rfl)) (hts _ (tw9 (i := 19) rfl)) hd_X9_isWithin.2 ⟨Nat.le_trans (by decide) hR1, Nat.le_trans (by decide) hR2⟩, hts _ (tw8 (i := 17) rfl)⟩ (tf_preS hk hW trivial) rfl rfl hl.1 rfl (lv_room (Nat.le_of_ble_eq_true rfl)) dX9_glass_3 ⟨Nat.zero_le _, Nat.zero_le _⟩) hW (by decide) (fun z17 H17 locs17 hW hF17 hp17 => ?_)
  rcases hp17 with ⟨rfl, h18, h19⟩ | ⟨rfl, h20⟩
  · refine tf_if_ne (tgt := 11) hx hb ⟨by decide, by decide⟩ dX9_glass_6 (by decide) (fun h21 => ?_) (fun h21 => ?_)
    · refine lv_aload_n hx hb dX9_glass_11 rfl (lv_at hl 0 rfl) ?_
      refine tf_calli (va_runV (As := []) (rest := []) ⟨hx, hb, hml, hown, hts⟩ (c_X9_gatherWatchers l g T a0 ha0 hE) (cwV 0 hts gv_X9_313 rfl rfl rfl hd_X9_gatherWatchers ⟨Nat.le_trans (by decide) hR1, Nat.le_trans (by decide) hR2⟩) (tf_preV hk hW ha0 (ci := 9) rfl rfl trivial) rfl rfl hl.1 rfl (lv_room (Nat.le_of_ble_eq_true rfl)) dX9_glass_12 ⟨Nat.zero_le _, Nat.zero_le _⟩) hW (by decide) (fun z22 H22 locs22 hW hF22 hp22 => ?_)
      obtain ⟨hp22_0, hp22_1⟩ := hp22
      refine lv_istore_n (lv' := [(2, .int (Int32.ofInt z22)), (0, .ref a0), (1, .int (Int32.ofInt x1))]) hx hb dX9_glass_15 rfl hl (by decide) rfl (fun ls hl => ?_)
      refine tf_bipush hx hb dX9_glass_16 (by decide) ?_
      refine lv_istore_n (lv' := [(3, .int (Int32.ofInt 13)), (2, .int (Int32.ofInt z22)), (0, .ref a0), (1, .int (Int32.ofInt x1))]) hx hb dX9_glass_18 rfl hl (by decide) rfl (fun ls hl => ?_)
      refine tf_iconst hx hb dX9_glass_19 ?_
      refine lv_istore (lv' := [(4, .int (Int32.ofInt ((-1)))), (3, .int (Int32.ofInt 13)), (2, .int (Int32.ofInt z22)), (0, .ref a0), (1, .int (Int32.ofInt x1))]) hx hb dX9_glass_20 hl (by decide) rfl (fun ls hl => ?_)
      refine tf_iconst hx hb dX9_glass_22 ?_
      refine lv_istore (lv' := [(5, .int (Int32.ofInt 0)), (4, .int (Int32.ofInt ((-1)))), (3, .int (Int32.ofInt 13)), (2, .int (Int32.ofInt z22)), (0, .ref a0), (1, .int (Int32.ofInt x1))]) hx hb dX9_glass_23 hl (by decide) rfl (fun ls hl => ?_)
      refine tf_iconst hx hb dX9_glass_25 ?_
      refine lv_istore (lv' := [(6, .int (Int32.ofInt 0)), (5, .int (Int32.ofInt 0)), (4, .int (Int32.ofInt ((-1)))), (3, .int (Int32.ofInt 13)), (2, .int (Int32.ofInt z22)), (0, .ref a0), (1, .int (Int32.ofInt x1))]) hx hb dX9_glass_26 hl (by decide) rfl (fun ls hl => ?_)
      exact j_28 ((2147483647 - 0 + 1 : Int)).toNat ⟨by omega, by omega⟩ (z22) ⟨by omega, by omega⟩ (13) ⟨by omega, by omega⟩ ((-1)) ⟨by omega, by omega⟩ (0) ⟨by omega, by omega⟩ (0) ⟨by omega, by omega⟩ (by omega) _ _ hW  _ (lv_sub hl [5, 6, 4, 3, 2, 1, 0] rfl)
    · exfalso; omega
  · refine tf_if_ne (tgt := 11) hx hb ⟨by decide, by decide⟩ dX9_glass_6 (by decide) (fun h23 => ?_) (fun h23 => ?_)
    · exfalso; omega
    · refine tf_iconst hx hb dX9_glass_9 ?_
      exact tf_reti (z := (-1)) hx hb hr hlocks hQ hW (show (-2147483648) ≤ ((-1)) ∧ ((-1)) ≤ 2147483647 by omega) dX9_glass_10

abbrev M_X9_saltCells : List (Nat × Nat) := [(0, 0), (4, 0), (24, 5)]
set_option maxHeartbeats 4000000 in
set_option maxRecDepth 100000 in
theorem c_X9_saltCells (l : Launch) (g : tf_G) (T : tf_T) (a0 : Nat) (ha0 : T a0 = some (26, 0)) (x1 : Int) (hp1 : 0 ≤ x1 ∧ x1 ≤ 3) (x2 : Int) (hp2 : 0 ≤ x2 ∧ x2 ≤ 9999) (hE : tf_E g T) : Met l yX9_saltCells (cd_X9_saltCells :: wsL_law) ({ frames := 5, cells := 0, slots := 0, locals := 131 }) (tf_P g T [.ref a0, .int (Int32.ofInt x1), .int (Int32.ofInt x2)] (fun H => True)) (tf_Qi g M_X9_saltCells T (fun z _ _ => (-2147483648) ≤ z ∧ z ≤ 2147483647)) 0 0 (fun q => tf_B g ≤ q) := by
  refine Met.ofW (cc := cX9_saltCells) (maxL := 6) (ret := (some .int)) (by decide) rfl ?_
  intro p e s m args below meth c s₁ B hml hv
  obtain ⟨hargs, hk, hW0, hB, hpre⟩ := hv
  have hx := B.exec
  have hb := B.bytes
  have hr := B.returns
  have hts : ∀ w ∈ wsL_law, w.before args s = true := fun w h => atoms_spec (ws := cd_X9_saltCells :: wsL_law) B.pre w (List.mem_cons_of_mem _ h)
  have hown : s.vm.findClass RX9 = some m.cls := findClass_of_methodNamed B.named
  have hlocks := B.notSynchronized
  have hK := hk.1
  have hW := tf_n.start (M := M_X9_saltCells) hW0 hB
  obtain ⟨Q, hQ⟩ : ∃ q, q = MQ below (tf_Qi g M_X9_saltCells T (fun z _ _ => (-2147483648) ≤ z ∧ z ≤ 2147483647)) args s 0 0 (fun q => tf_B g ≤ q) := ⟨_, rfl⟩
  rw [← hQ]
  obtain ⟨R, hR⟩ : ∃ q, q = (headSpec (cd_X9_saltCells :: wsL_law) ({ frames := 5, cells := 0, slots := 0, locals := 131 })).room := ⟨_, rfl⟩
  rw [← hR]
  have hR1 : 5 ≤ R.frames := by rw [hR]; exact Nat.le_refl _
  have hR2 : 131 ≤ R.locals := by rw [hR]; exact Nat.le_refl _
  have hR3 : 0 ≤ R.cells := by rw [hR]; exact Nat.le_refl _
  have hR4 : 0 ≤ R.slots := by rw [hR]; exact Nat.le_refl _
  have hin := (name_of_methodNamed B.named B.method).1
  clear hR B
  have j_5 : ∀ (n_5 : Nat), 0 ≤ x1 ∧ x1 ≤ 3 → 0 ≤ x2 ∧ x2 ≤ 9999 → ∀ (x3_5 : Int), (-2147483648) ≤ x3_5 ∧ x3_5 ≤ 2147483647 → ∀ (x4_5 : Int), 0 ≤ x4_5 ∧ x4_5 ≤ 100 → (100 - x4_5 + 1 ≤ (n_5 : Int)) → ∀ (H : Heap) (locs : List Loc), tf_n tf_kt g M_X9_saltCells T s.heap T H locs → ∀ (ls : Array Slot), lv_has ls 6 [(0, .ref a0), (1, .int (Int32.ofInt x1)), (2, .int (Int32.ofInt x2)), (3, .int (Int32.ofInt x3_5)), (4, .int (Int32.ofInt x4_5))] → W p l e R s m args below meth c H locs 0 0 Q (F0 m 5 ls []) := by
    intro n_5
    induction n_5 with
    | zero =>
      intro hx1_5 hx2_5 x3_5 hx3_5 x4_5 hx4_5 hm_5
      exfalso; omega
    | succ n_5 ih_5 =>
      intro hx1_5 hx2_5 x3_5 hx3_5 x4_5 hx4_5 hm_5 H locs hW  ls hl
      have j_69 : 0 ≤ x1 ∧ x1 ≤ 3 → 0 ≤ x2 ∧ x2 ≤ 9999 → ∀ (x3_69 : Int), (-2147483648) ≤ x3_69 ∧ x3_69 ≤ 2147483647 → 0 ≤ x4_5 ∧ x4_5 ≤ 99 → ∀ (H : Heap) (locs : List Loc), tf_n tf_kt g M_X9_saltCells T s.heap T H locs → ∀ (ls : Array Slot), lv_has ls 6 [(0, .ref a0), (1, .int (Int32.ofInt x1)), (2, .int (Int32.ofInt x2)), (3, .int (Int32.ofInt x3_69)), (4, .int (Int32.ofInt x4_5))] → W p l e R s m args below meth c H locs 0 0 Q (F0 m 69 ls []) := by
        intro hx1_69 hx2_69 x3_69 hx3_69 hx4_69 H locs hW  ls hl
        refine lv_iinc (v := Int32.ofInt ((x4_5 + 1))) (lv' := [(4, .int (Int32.ofInt ((x4_5 + 1)))), (0, .ref a0), (1, .int (Int32.ofInt x1)), (2, .int (Int32.ofInt x2)), (3, .int (Int32.ofInt x3_69))]) hx hb dX9_saltCells_69 hl (k := 4) rfl (Int32.ofInt_add _ _).symm (by decide) rfl (fun ls hl => ?_)
        refine lv_goto (tgt := 5) hx hb dX9_saltCells_72 (by decide) ?_
        exact ih_5 ⟨by omega, by omega⟩ ⟨by omega, by omega⟩ (x3_69) ⟨by omega, by omega⟩ ((x4_5 + 1)) ⟨by omega, by omega⟩ (by omega) _ _ hW  _ (lv_sub hl [1, 2, 3, 4, 0] rfl)
      have j_67 : 0 ≤ x1 ∧ x1 ≤ 3 → 0 ≤ x2 ∧ x2 ≤ 9999 → 0 ≤ x4_5 ∧ x4_5 ≤ 99 → (-2147483648) ≤ x3_5 ∧ x3_5 ≤ 2147483647 → ∀ (y1_67 : Int), 0 ≤ y1_67 ∧ y1_67 ≤ 1 → ∀ (H : Heap) (locs : List Loc), tf_n tf_kt g M_X9_saltCells T s.heap T H locs → ∀ (ls : Array Slot), lv_has ls 6 [(0, .ref a0), (1, .int (Int32.ofInt x1)), (2, .int (Int32.ofInt x2)), (4, .int (Int32.ofInt x4_5))] → W p l e R s m args below meth c H locs 0 0 Q (F0 m 67 ls [.int (Int32.ofInt y1_67), .int (Int32.ofInt x3_5)]) := by
        intro hx1_67 hx2_67 hx4_67 hy0_67 y1_67 hy1_67 H locs hW  ls hl
        refine tf_iadd_any hx hb dX9_saltCells_67 (fun z1 hz1 => ?_)
        refine lv_istore_n (lv' := [(3, .int (Int32.ofInt z1)), (0, .ref a0), (1, .int (Int32.ofInt x1)), (2, .int (Int32.ofInt x2)), (4, .int (Int32.ofInt x4_5))]) hx hb dX9_saltCells_68 rfl hl (by decide) rfl (fun ls hl => ?_)
        exact j_69 ⟨by omega, by omega⟩ ⟨by omega, by omega⟩ (z1) ⟨by omega, by omega⟩ ⟨by omega, by omega⟩ _ _ hW  _ (lv_sub hl [1, 2, 3, 0, 4] rfl)
      refine lv_iload hx hb dX9_saltCells_5 (lv_at hl 4 rfl) ?_
      refine tf_bipush hx hb dX9_saltCells_7 (by decide) ?_
      refine tf_icmp_ge (tgt := 75) hx hb ⟨by omega, by omega⟩ ⟨by decide, by decide⟩ dX9_saltCells_9 (by decide) (fun h2 => ?_) (fun h2 => ?_)
      · refine lv_iload_n hx hb dX9_saltCells_75 rfl (lv_at hl 3 rfl) ?_
        exact tf_reti (z := x3_5) hx hb hr hlocks hQ hW (show (-2147483648) ≤ (x3_5) ∧ (x3_5) ≤ 2147483647 by omega) dX9_saltCells_76
      · refine lv_aload_n hx hb dX9_saltCells_12 rfl (lv_at hl 0 rfl) ?_
        refine tf_get hx hb hts inlX9 hown hK (ci := 9) rfl hW ha0 rfl 0 rfl (by decide) (hts _ fl_X9_10) dX9_saltCells_13 (fun v3 hv3 hsv3 => ?_)
        obtain ⟨ad4, rfl, had4⟩ := tf_v1 hv3
        refine lv_iload hx hb dX9_saltCells_16 (lv_at hl 4 rfl) ?_
        refine tf_calli (va_runV (As := [.int (Int32.ofInt x4_5)]) (rest := []) ⟨hx, hb, hml, hown, hts⟩ (c_X3_isGround l g T ad4 had4 (x4_5) ⟨by omega, by omega⟩) (cwV 1 hts gv_X9_124 rfl rfl rfl hd_X3_isGround ⟨Nat.le_trans (by decide) hR1, Nat.le_trans (by decide) hR2⟩) (tf_preV hk hW had4 (ci := 3) rfl rfl trivial) rfl rfl hl.1 rfl (lv_room (Nat.le_of_ble_eq_true rfl)) dX9_saltCells_18 ⟨Nat.zero_le _, Nat.zero_le _⟩) hW (by decide) (fun z5 H5 locs5 hW hF5 hp5 => ?_)
        have hs6 := tf_keepF hF5 ha0 rfl rfl (by decide) hsv3
        rcases hp5 with ⟨rfl, h7, h8⟩ | ⟨rfl⟩
        · refine tf_if_eq (tgt := 69) hx hb ⟨by decide, by decide⟩ dX9_saltCells_21 (by decide) (fun h9 => ?_) (fun h9 => ?_)
          · exfalso; omega
          · refine lv_aload_n hx hb dX9_saltCells_24 rfl (lv_at hl 0 rfl) ?_
            refine tf_get hx hb hts inlX9 hown hK (ci := 9) rfl hW ha0 rfl 2 rfl (by decide) (hts _ fl_X9_23) dX9_saltCells_25 (fun v10 hv10 hsv10 => ?_)
            obtain ⟨ad11, rfl, had11⟩ := tf_v1 hv10
            refine lv_aload_n hx hb dX9_saltCells_28 rfl (lv_at hl 0 rfl) ?_
            refine tf_get hx hb hts inlX9 hown hK (ci := 9) rfl hW ha0 rfl 0 rfl (by decide) (hts _ fl_X9_10) dX9_saltCells_29 (fun v12 hv12 hsv12 => ?_)
            obtain rfl : v12 = .ref ad4 := Option.some.inj (hsv12.symm.trans hs6)
            refine lv_aload_n hx hb dX9_saltCells_32 rfl (lv_at hl 0 rfl) ?_
            refine tf_get hx hb hts inlX9 hown hK (ci := 9) rfl hW ha0 rfl 0 rfl (by decide) (hts _ fl_X9_10) dX9_saltCells_33 (fun v13 hv13 hsv13 => ?_)
            obtain rfl : v13 = .ref ad4 := Option.some.inj (hsv13.symm.trans hs6)
            refine tf_get hx hb hts inlX3 hown hK (ci := 3) rfl hW had4 rfl 0 rfl (by decide) (hts _ fl_X9_79) dX9_saltCells_36 (fun v14 hv14 hsv14 => ?_)
            obtain ⟨ad15, rfl, had15⟩ := tf_v1 hv14
            refine lv_iload hx hb dX9_saltCells_39 (lv_at hl 4 rfl) ?_
            refine tf_calli (va_runS (As := [.int (Int32.ofInt x4_5)]) (rest := [.ref ad15, .ref ad4, .ref ad11]) ⟨hx, hb, hml, hown, hts⟩ (c_X9_spotOf l g T (x4_5) ⟨by omega, by omega⟩) ⟨callB_of 1 hts (gw_ws cm_X9_spotOf) rfl rfl rfl (hts _ (tw1 (i := 2) rfl)) (hts _ (tw15 (i := 8) rfl)) hd_X9_spotOf.2 ⟨Nat.le_trans (by decide) hR1, Nat.le_trans (by decide) hR2⟩, hts _ (tw9 (i := 2) rfl)⟩ (tf_preS hk hW trivial) rfl rfl hl.1 rfl (lv_room (Nat.le_of_ble_eq_true rfl)) dX9_saltCells_41 ⟨Nat.zero_le _, Nat.zero_le _⟩) hW (by decide) (fun z16 H16 locs16 hW hF16 hp16 => ?_)
            have hs17 := tf_keepF hF16 ha0 rfl rfl (by decide) hs6
            obtain ⟨hp16_0, hp16_1⟩ := hp16
            refine lv_iload_n hx hb dX9_saltCells_44 rfl (lv_at hl 1 rfl) ?_
            refine tf_calli (va_runV (As := [.ref ad4, .ref ad15, .int (Int32.ofInt z16), .int (Int32.ofInt x1)]) (rest := []) ⟨hx, hb, hml, hown, hts⟩ (c_X7_quick l g T ad11 had11 ad4 had4 ad15 had15 (z16) ⟨by omega, by omega⟩ (x1) ⟨by omega, by omega⟩ hE) (cwV 4 hts gv_X9_179 rfl rfl rfl hd_X7_quick ⟨Nat.le_trans (by decide) hR1, Nat.le_trans (by decide) hR2⟩) (tf_preV hk hW had11 (ci := 7) rfl rfl trivial) rfl rfl hl.1 rfl (lv_room (Nat.le_of_ble_eq_true rfl)) dX9_saltCells_45 ⟨Nat.zero_le _, Nat.zero_le _⟩) hW (by decide) (fun z18 H18 locs18 hW hF18 hp18 => ?_)
            have hs19 := tf_keepF hF18 ha0 rfl rfl (by decide) hs17
            obtain ⟨hp18_0, hp18_1⟩ := hp18
            refine lv_istore (lv' := [(5, .int (Int32.ofInt z18)), (0, .ref a0), (1, .int (Int32.ofInt x1)), (2, .int (Int32.ofInt x2)), (3, .int (Int32.ofInt x3_5)), (4, .int (Int32.ofInt x4_5))]) hx hb dX9_saltCells_48 hl (by decide) rfl (fun ls hl => ?_)
            refine lv_iload_n hx hb dX9_saltCells_50 rfl (lv_at hl 4 rfl) ?_
            refine lv_iload hx hb dX9_saltCells_51 (lv_at hl 0 rfl) ?_
            refine lv_iload_n hx hb dX9_saltCells_53 rfl (lv_at hl 3 rfl) ?_
            refine tf_calli (va_runS (As := [.int (Int32.ofInt z18), .int (Int32.ofInt x2)]) (rest := [.int (Int32.ofInt x3_5)]) ⟨hx, hb, hml, hown, hts⟩ (c_X9_leastPaceAbove l g T (z18) ⟨by omega, by omega⟩ (x2) ⟨by omega, by omega⟩) ⟨callB_of 2 hts (gw_ws cm_X9_leastPaceAbove) rfl rfl rfl (hts _ (tw1 (i := 2) rfl)) (hts _ (tw53 (i := 9) rfl)) hd_X9_leastPaceAbove.2 ⟨Nat.le_trans (by decide) hR1, Nat.le_trans (by decide) hR2⟩, hts _ (tw38 (i := 4) rfl)⟩ (tf_preS hk hW trivial) rfl rfl hl.1 rfl (lv_room (Nat.le_of_ble_eq_true rfl)) dX9_saltCells_54 ⟨Nat.zero_le _, Nat.zero_le _⟩) hW (by decide) (fun z20 H20 locs20 hW hF20 hp20 => ?_)
            have hs21 := tf_keepF hF20 ha0 rfl rfl (by decide) hs19
            obtain ⟨hp20_0, hp20_1⟩ := hp20
            refine tf_bipush hx hb dX9_saltCells_57 (by decide) ?_
            refine tf_icmp_ge (tgt := 66) hx hb ⟨by omega, by omega⟩ ⟨by decide, by decide⟩ dX9_saltCells_59 (by decide) (fun h22 => ?_) (fun h22 => ?_)
            · refine tf_iconst hx hb dX9_saltCells_66 ?_
              exact j_67 ⟨by omega, by omega⟩ ⟨by omega, by omega⟩ ⟨by omega, by omega⟩ ⟨by omega, by omega⟩ (0) ⟨by omega, by omega⟩ _ _ hW  _ (lv_sub hl [1, 2, 3, 5] rfl)
            · refine tf_iconst hx hb dX9_saltCells_62 ?_
              refine lv_goto (tgt := 67) hx hb dX9_saltCells_63 (by decide) ?_
              exact j_67 ⟨by omega, by omega⟩ ⟨by omega, by omega⟩ ⟨by omega, by omega⟩ ⟨by omega, by omega⟩ (1) ⟨by omega, by omega⟩ _ _ hW  _ (lv_sub hl [1, 2, 3, 5] rfl)
        · refine tf_if_eq (tgt := 69) hx hb ⟨by decide, by decide⟩ dX9_saltCells_21 (by decide) (fun h23 => ?_) (fun h23 => ?_)
          · exact j_69 ⟨by omega, by omega⟩ ⟨by omega, by omega⟩ (x3_5) ⟨by omega, by omega⟩ ⟨by omega, by omega⟩ _ _ hW  _ (lv_sub hl [0, 1, 2, 3, 4] rfl)
          · exfalso; omega
  refine tf_enter (As := [.ref a0, .int (Int32.ofInt x1), .int (Int32.ofInt x2)]) hargs (Nat.le_of_ble_eq_true rfl) (fun ls hl => ?_)
  have hl : lv_has ls 6 [(0, .ref a0), (1, .int (Int32.ofInt x1)), (2, .int (Int32.ofInt x2))] := hl
  refine tf_iconst hx hb dX9_saltCells_0 ?_
  refine lv_istore_n (lv' := [(3, .int (Int32.ofInt 0)), (0, .ref a0), (1, .int (Int32.ofInt x1)), (2, .int (Int32.ofInt x2))]) hx hb dX9_saltCells_1 rfl hl (by decide) rfl (fun ls hl => ?_)
  refine tf_iconst hx hb dX9_saltCells_2 ?_
  refine lv_istore (lv' := [(4, .int (Int32.ofInt 0)), (3, .int (Int32.ofInt 0)), (0, .ref a0), (1, .int (Int32.ofInt x1)), (2, .int (Int32.ofInt x2))]) hx hb dX9_saltCells_3 hl (by decide) rfl (fun ls hl => ?_)
  exact j_5 ((100 - 0 + 1 : Int)).toNat ⟨by omega, by omega⟩ ⟨by omega, by omega⟩ (0) ⟨by omega, by omega⟩ (0) ⟨by omega, by omega⟩ (by omega) _ _ hW  _ (lv_sub hl [2, 3, 4, 1, 0] rfl)

abbrev M_X9_salt : List (Nat × Nat) := [(0, 0), (4, 0), (24, 5)]
set_option maxHeartbeats 4000000 in
set_option maxRecDepth 100000 in
theorem c_X9_salt (l : Launch) (g : tf_G) (T : tf_T) (a0 : Nat) (ha0 : T a0 = some (26, 0)) (x1 : Int) (hp1 : (-2147483648) ≤ x1 ∧ x1 ≤ 2147483647) (x2 : Int) (hp2 : (-2147483648) ≤ x2 ∧ x2 ≤ 2147483647) (x3 : Int) (hp3 : (-2147483648) ≤ x3 ∧ x3 ≤ 2147483647) (hE : tf_E g T) : Met l yX9_salt (cd_X9_salt :: wsL_law) ({ frames := 6, cells := 0, slots := 0, locals := 156 }) (tf_P g T [.ref a0, .int (Int32.ofInt x1), .int (Int32.ofInt x2), .int (Int32.ofInt x3)] (fun H => True)) (tf_Qi g M_X9_salt T (fun z _ _ => (-2147483648) ≤ z ∧ z ≤ 2147483647)) 0 0 (fun q => tf_B g ≤ q) := by
  refine Met.ofW (cc := cX9_salt) (maxL := 5) (ret := (some .int)) (by decide) rfl ?_
  intro p e s m args below meth c s₁ B hml hv
  obtain ⟨hargs, hk, hW0, hB, hpre⟩ := hv
  have hx := B.exec
  have hb := B.bytes
  have hr := B.returns
  have hts : ∀ w ∈ wsL_law, w.before args s = true := fun w h => atoms_spec (ws := cd_X9_salt :: wsL_law) B.pre w (List.mem_cons_of_mem _ h)
  have hown : s.vm.findClass RX9 = some m.cls := findClass_of_methodNamed B.named
  have hlocks := B.notSynchronized
  have hK := hk.1
  have hW := tf_n.start (M := M_X9_salt) hW0 hB
  obtain ⟨Q, hQ⟩ : ∃ q, q = MQ below (tf_Qi g M_X9_salt T (fun z _ _ => (-2147483648) ≤ z ∧ z ≤ 2147483647)) args s 0 0 (fun q => tf_B g ≤ q) := ⟨_, rfl⟩
  rw [← hQ]
  obtain ⟨R, hR⟩ : ∃ q, q = (headSpec (cd_X9_salt :: wsL_law) ({ frames := 6, cells := 0, slots := 0, locals := 156 })).room := ⟨_, rfl⟩
  rw [← hR]
  have hR1 : 6 ≤ R.frames := by rw [hR]; exact Nat.le_refl _
  have hR2 : 156 ≤ R.locals := by rw [hR]; exact Nat.le_refl _
  have hR3 : 0 ≤ R.cells := by rw [hR]; exact Nat.le_refl _
  have hR4 : 0 ≤ R.slots := by rw [hR]; exact Nat.le_refl _
  have hin := (name_of_methodNamed B.named B.method).1
  clear hR B
  refine tf_enter (As := [.ref a0, .int (Int32.ofInt x1), .int (Int32.ofInt x2), .int (Int32.ofInt x3)]) hargs (Nat.le_of_ble_eq_true rfl) (fun ls hl => ?_)
  have hl : lv_has ls 5 [(0, .ref a0), (1, .int (Int32.ofInt x1)), (2, .int (Int32.ofInt x2)), (3, .int (Int32.ofInt x3))] := hl
  refine lv_iload_n hx hb dX9_salt_0 rfl (lv_at hl 2 rfl) ?_
  refine tf_calli (va_runS (As := [.int (Int32.ofInt x2)]) (rest := []) ⟨hx, hb, hml, hown, hts⟩ (c_X9_isWay l g T (x2) ⟨by omega, by omega⟩) ⟨callB_of 1 hts (gw_ws cm_X9_isWay) rfl rfl rfl (hts _ (tw1 (i := 2) rfl)) (hts _ (tw16 (i := 17) rfl)) hd_X9_isWay.2 ⟨Nat.le_trans (by decide) hR1, Nat.le_trans (by decide) hR2⟩, hts _ (tw16 (i := 18) rfl)⟩ (tf_preS hk hW trivial) rfl rfl hl.1 rfl (lv_room (Nat.le_of_ble_eq_true rfl)) dX9_salt_1 ⟨Nat.zero_le _, Nat.zero_le _⟩) hW (by decide) (fun z1 H1 locs1 hW hF1 hp1 => ?_)
  rcases hp1 with ⟨rfl, h2, h3⟩ | ⟨rfl, h4⟩
  · refine tf_if_eq (tgt := 18) hx hb ⟨by decide, by decide⟩ dX9_salt_4 (by decide) (fun h5 => ?_) (fun h5 => ?_)
    · exfalso; omega
    · refine lv_iload_n hx hb dX9_salt_7 rfl (lv_at hl 3 rfl) ?_
      refine tf_iconst hx hb dX9_salt_8 ?_
      refine tf_sipush hx hb dX9_salt_9 (by decide) ?_
      refine tf_calli (va_runS (As := [.int (Int32.ofInt x3), .int (Int32.ofInt 0), .int (Int32.ofInt 9999)]) (rest := []) ⟨hx, hb, hml, hown, hts⟩ (c_X9_isWithin l g T (x3) ⟨by omega, by omega⟩ (0) ⟨by omega, by omega⟩ (9999) ⟨by omega, by omega⟩) ⟨callB_of 3 hts (gw_ws cm_X9_isWithin) rfl rfl rfl (hts _ (tw1 (i := 2) rfl)) (hts _ (tw9 (i := 19) rfl)) hd_X9_isWithin.2 ⟨Nat.le_trans (by decide) hR1, Nat.le_trans (by decide) hR2⟩, hts _ (tw8 (i := 17) rfl)⟩ (tf_preS hk hW trivial) rfl rfl hl.1 rfl (lv_room (Nat.le_of_ble_eq_true rfl)) dX9_salt_12 ⟨Nat.zero_le _, Nat.zero_le _⟩) hW (by decide) (fun z6 H6 locs6 hW hF6 hp6 => ?_)
      rcases hp6 with ⟨rfl, h7, h8⟩ | ⟨rfl, h9⟩
      · refine tf_if_ne (tgt := 20) hx hb ⟨by decide, by decide⟩ dX9_salt_15 (by decide) (fun h10 => ?_) (fun h10 => ?_)
        · refine lv_iload_n hx hb dX9_salt_20 rfl (lv_at hl 1 rfl) ?_
          refine tf_iconst hx hb dX9_salt_21 ?_
          refine tf_icmp_ne (tgt := 32) hx hb ⟨by omega, by omega⟩ ⟨by decide, by decide⟩ dX9_salt_22 (by decide) (fun h11 => ?_) (fun h11 => ?_)
          · refine lv_aload_n hx hb dX9_salt_32 rfl (lv_at hl 0 rfl) ?_
            refine tf_get hx hb hts inlX9 hown hK (ci := 9) rfl hW ha0 rfl 0 rfl (by decide) (hts _ fl_X9_10) dX9_salt_33 (fun v12 hv12 hsv12 => ?_)
            obtain ⟨ad13, rfl, had13⟩ := tf_v1 hv12
            refine lv_iload_n hx hb dX9_salt_36 rfl (lv_at hl 1 rfl) ?_
            refine tf_calli (va_runV (As := [.int (Int32.ofInt x1)]) (rest := []) ⟨hx, hb, hml, hown, hts⟩ (c_X3_isGround l g T ad13 had13 (x1) ⟨by omega, by omega⟩) (cwV 1 hts gv_X9_124 rfl rfl rfl hd_X3_isGround ⟨Nat.le_trans (by decide) hR1, Nat.le_trans (by decide) hR2⟩) (tf_preV hk hW had13 (ci := 3) rfl rfl trivial) rfl rfl hl.1 rfl (lv_room (Nat.le_of_ble_eq_true rfl)) dX9_salt_37 ⟨Nat.zero_le _, Nat.zero_le _⟩) hW (by decide) (fun z14 H14 locs14 hW hF14 hp14 => ?_)
            have hs15 := tf_keepF hF14 ha0 rfl rfl (by decide) hsv12
            rcases hp14 with ⟨rfl, h16, h17⟩ | ⟨rfl⟩
            · refine tf_if_ne (tgt := 45) hx hb ⟨by decide, by decide⟩ dX9_salt_40 (by decide) (fun h18 => ?_) (fun h18 => ?_)
              · refine lv_aload_n hx hb dX9_salt_45 rfl (lv_at hl 0 rfl) ?_
                refine tf_get hx hb hts inlX9 hown hK (ci := 9) rfl hW ha0 rfl 2 rfl (by decide) (hts _ fl_X9_23) dX9_salt_46 (fun v19 hv19 hsv19 => ?_)
                obtain ⟨ad20, rfl, had20⟩ := tf_v1 hv19
                refine lv_aload_n hx hb dX9_salt_49 rfl (lv_at hl 0 rfl) ?_
                refine tf_get hx hb hts inlX9 hown hK (ci := 9) rfl hW ha0 rfl 0 rfl (by decide) (hts _ fl_X9_10) dX9_salt_50 (fun v21 hv21 hsv21 => ?_)
                obtain rfl : v21 = .ref ad13 := Option.some.inj (hsv21.symm.trans hs15)
                refine lv_aload_n hx hb dX9_salt_53 rfl (lv_at hl 0 rfl) ?_
                refine tf_get hx hb hts inlX9 hown hK (ci := 9) rfl hW ha0 rfl 0 rfl (by decide) (hts _ fl_X9_10) dX9_salt_54 (fun v22 hv22 hsv22 => ?_)
                obtain rfl : v22 = .ref ad13 := Option.some.inj (hsv22.symm.trans hs15)
                refine tf_get hx hb hts inlX3 hown hK (ci := 3) rfl hW had13 rfl 0 rfl (by decide) (hts _ fl_X9_79) dX9_salt_57 (fun v23 hv23 hsv23 => ?_)
                obtain ⟨ad24, rfl, had24⟩ := tf_v1 hv23
                refine lv_iload_n hx hb dX9_salt_60 rfl (lv_at hl 1 rfl) ?_
                refine tf_calli (va_runS (As := [.int (Int32.ofInt x1)]) (rest := [.ref ad24, .ref ad13, .ref ad20]) ⟨hx, hb, hml, hown, hts⟩ (c_X9_spotOf l g T (x1) ⟨by omega, by omega⟩) ⟨callB_of 1 hts (gw_ws cm_X9_spotOf) rfl rfl rfl (hts _ (tw1 (i := 2) rfl)) (hts _ (tw15 (i := 8) rfl)) hd_X9_spotOf.2 ⟨Nat.le_trans (by decide) hR1, Nat.le_trans (by decide) hR2⟩, hts _ (tw9 (i := 2) rfl)⟩ (tf_preS hk hW trivial) rfl rfl hl.1 rfl (lv_room (Nat.le_of_ble_eq_true rfl)) dX9_salt_61 ⟨Nat.zero_le _, Nat.zero_le _⟩) hW (by decide) (fun z25 H25 locs25 hW hF25 hp25 => ?_)
                have hs26 := tf_keepF hF25 ha0 rfl rfl (by decide) hs15
                obtain ⟨hp25_0, hp25_1⟩ := hp25
                refine lv_iload_n hx hb dX9_salt_64 rfl (lv_at hl 2 rfl) ?_
                refine tf_calli (va_runV (As := [.ref ad13, .ref ad24, .int (Int32.ofInt z25), .int (Int32.ofInt x2)]) (rest := []) ⟨hx, hb, hml, hown, hts⟩ (c_X7_quick l g T ad20 had20 ad13 had13 ad24 had24 (z25) ⟨by omega, by omega⟩ (x2) ⟨by omega, by omega⟩ hE) (cwV 4 hts gv_X9_179 rfl rfl rfl hd_X7_quick ⟨Nat.le_trans (by decide) hR1, Nat.le_trans (by decide) hR2⟩) (tf_preV hk hW had20 (ci := 7) rfl rfl trivial) rfl rfl hl.1 rfl (lv_room (Nat.le_of_ble_eq_true rfl)) dX9_salt_65 ⟨Nat.zero_le _, Nat.zero_le _⟩) hW (by decide) (fun z27 H27 locs27 hW hF27 hp27 => ?_)
                have hs28 := tf_keepF hF27 ha0 rfl rfl (by decide) hs26
                obtain ⟨hp27_0, hp27_1⟩ := hp27
                refine lv_iload_n hx hb dX9_salt_68 rfl (lv_at hl 3 rfl) ?_
                refine tf_calli (va_runS (As := [.int (Int32.ofInt z27), .int (Int32.ofInt x3)]) (rest := []) ⟨hx, hb, hml, hown, hts⟩ (c_X9_leastPaceAbove l g T (z27) ⟨by omega, by omega⟩ (x3) ⟨by omega, by omega⟩) ⟨callB_of 2 hts (gw_ws cm_X9_leastPaceAbove) rfl rfl rfl (hts _ (tw1 (i := 2) rfl)) (hts _ (tw53 (i := 9) rfl)) hd_X9_leastPaceAbove.2 ⟨Nat.le_trans (by decide) hR1, Nat.le_trans (by decide) hR2⟩, hts _ (tw38 (i := 4) rfl)⟩ (tf_preS hk hW trivial) rfl rfl hl.1 rfl (lv_room (Nat.le_of_ble_eq_true rfl)) dX9_salt_69 ⟨Nat.zero_le _, Nat.zero_le _⟩) hW (by decide) (fun z29 H29 locs29 hW hF29 hp29 => ?_)
                have hs30 := tf_keepF hF29 ha0 rfl rfl (by decide) hs28
                obtain ⟨hp29_0, hp29_1⟩ := hp29
                refine lv_istore (lv' := [(4, .int (Int32.ofInt z29)), (0, .ref a0), (1, .int (Int32.ofInt x1)), (2, .int (Int32.ofInt x2)), (3, .int (Int32.ofInt x3))]) hx hb dX9_salt_72 hl (by decide) rfl (fun ls hl => ?_)
                refine lv_iload hx hb dX9_salt_74 (lv_at hl 0 rfl) ?_
                refine tf_bipush hx hb dX9_salt_76 (by decide) ?_
                refine tf_icmp_ge (tgt := 86) hx hb ⟨by omega, by omega⟩ ⟨by decide, by decide⟩ dX9_salt_78 (by decide) (fun h31 => ?_) (fun h31 => ?_)
                · refine tf_iconst hx hb dX9_salt_86 ?_
                  exact tf_reti (z := (-1)) hx hb hr hlocks hQ hW (show (-2147483648) ≤ ((-1)) ∧ ((-1)) ≤ 2147483647 by omega) dX9_salt_87
                · refine lv_iload hx hb dX9_salt_81 (lv_at hl 0 rfl) ?_
                  refine lv_goto (tgt := 87) hx hb dX9_salt_83 (by decide) ?_
                  exact tf_reti (z := z29) hx hb hr hlocks hQ hW (show (-2147483648) ≤ (z29) ∧ (z29) ≤ 2147483647 by omega) dX9_salt_87
              · exfalso; omega
            · refine tf_if_ne (tgt := 45) hx hb ⟨by decide, by decide⟩ dX9_salt_40 (by decide) (fun h32 => ?_) (fun h32 => ?_)
              · exfalso; omega
              · refine tf_iconst hx hb dX9_salt_43 ?_
                exact tf_reti (z := (-1)) hx hb hr hlocks hQ hW (show (-2147483648) ≤ ((-1)) ∧ ((-1)) ≤ 2147483647 by omega) dX9_salt_44
          · refine lv_aload_n hx hb dX9_salt_25 rfl (lv_at hl 0 rfl) ?_
            refine lv_iload_n hx hb dX9_salt_26 rfl (lv_at hl 2 rfl) ?_
            refine lv_iload_n hx hb dX9_salt_27 rfl (lv_at hl 3 rfl) ?_
            refine tf_calli (va_runV (As := [.int (Int32.ofInt x2), .int (Int32.ofInt x3)]) (rest := []) ⟨hx, hb, hml, hown, hts⟩ (c_X9_saltCells l g T a0 ha0 (x2) ⟨by omega, by omega⟩ (x3) ⟨by omega, by omega⟩ hE) (cwV 2 hts gv_X9_328 rfl rfl rfl hd_X9_saltCells ⟨Nat.le_trans (by decide) hR1, Nat.le_trans (by decide) hR2⟩) (tf_preV hk hW ha0 (ci := 9) rfl rfl trivial) rfl rfl hl.1 rfl (lv_room (Nat.le_of_ble_eq_true rfl)) dX9_salt_28 ⟨Nat.zero_le _, Nat.zero_le _⟩) hW (by decide) (fun z33 H33 locs33 hW hF33 hp33 => ?_)
            obtain ⟨hp33_0, hp33_1⟩ := hp33
            exact tf_reti (z := z33) hx hb hr hlocks hQ hW (show (-2147483648) ≤ (z33) ∧ (z33) ≤ 2147483647 by omega) dX9_salt_31
        · exfalso; omega
      · refine tf_if_ne (tgt := 20) hx hb ⟨by decide, by decide⟩ dX9_salt_15 (by decide) (fun h34 => ?_) (fun h34 => ?_)
        · exfalso; omega
        · refine tf_iconst hx hb dX9_salt_18 ?_
          exact tf_reti (z := (-1)) hx hb hr hlocks hQ hW (show (-2147483648) ≤ ((-1)) ∧ ((-1)) ≤ 2147483647 by omega) dX9_salt_19
  · refine tf_if_eq (tgt := 18) hx hb ⟨by decide, by decide⟩ dX9_salt_4 (by decide) (fun h35 => ?_) (fun h35 => ?_)
    · refine tf_iconst hx hb dX9_salt_18 ?_
      exact tf_reti (z := (-1)) hx hb hr hlocks hQ hW (show (-2147483648) ≤ ((-1)) ∧ ((-1)) ≤ 2147483647 by omega) dX9_salt_19
    · exfalso; omega

abbrev M_X9_odds : List (Nat × Nat) := [(0, 0), (1, 0), (4, 0), (24, 5)]
set_option maxHeartbeats 4000000 in
set_option maxRecDepth 100000 in
theorem c_X9_odds (l : Launch) (g : tf_G) (T : tf_T) (a0 : Nat) (ha0 : T a0 = some (26, 0)) (x1 : Int) (hp1 : (-2147483648) ≤ x1 ∧ x1 ≤ 2147483647) (x2 : Int) (hp2 : (-2147483648) ≤ x2 ∧ x2 ≤ 2147483647) (x3 : Int) (hp3 : (-2147483648) ≤ x3 ∧ x3 ≤ 2147483647) (x4 : Int) (hp4 : (-2147483648) ≤ x4 ∧ x4 ≤ 2147483647) (x5 : Int) (hp5 : (-2147483648) ≤ x5 ∧ x5 ≤ 2147483647) (hE : tf_E g T) : Met l yX9_odds (cd_X9_odds :: wsL_law) ({ frames := 5, cells := 0, slots := 0, locals := 131 }) (tf_P g T [.ref a0, .int (Int32.ofInt x1), .int (Int32.ofInt x2), .int (Int32.ofInt x3), .int (Int32.ofInt x4), .int (Int32.ofInt x5)] (fun H => True)) (tf_Qi g M_X9_odds T (fun z _ _ => (-2147483648) ≤ z ∧ z ≤ 2147483647)) 0 0 (fun q => tf_B g ≤ q) := by
  refine Met.ofW (cc := cX9_odds) (maxL := 12) (ret := (some .int)) (by decide) rfl ?_
  intro p e s m args below meth c s₁ B hml hv
  obtain ⟨hargs, hk, hW0, hB, hpre⟩ := hv
  have hx := B.exec
  have hb := B.bytes
  have hr := B.returns
  have hts : ∀ w ∈ wsL_law, w.before args s = true := fun w h => atoms_spec (ws := cd_X9_odds :: wsL_law) B.pre w (List.mem_cons_of_mem _ h)
  have hown : s.vm.findClass RX9 = some m.cls := findClass_of_methodNamed B.named
  have hlocks := B.notSynchronized
  have hK := hk.1
  have hW := tf_n.start (M := M_X9_odds) hW0 hB
  obtain ⟨Q, hQ⟩ : ∃ q, q = MQ below (tf_Qi g M_X9_odds T (fun z _ _ => (-2147483648) ≤ z ∧ z ≤ 2147483647)) args s 0 0 (fun q => tf_B g ≤ q) := ⟨_, rfl⟩
  rw [← hQ]
  obtain ⟨R, hR⟩ : ∃ q, q = (headSpec (cd_X9_odds :: wsL_law) ({ frames := 5, cells := 0, slots := 0, locals := 131 })).room := ⟨_, rfl⟩
  rw [← hR]
  have hR1 : 5 ≤ R.frames := by rw [hR]; exact Nat.le_refl _
  have hR2 : 131 ≤ R.locals := by rw [hR]; exact Nat.le_refl _
  have hR3 : 0 ≤ R.cells := by rw [hR]; exact Nat.le_refl _
  have hR4 : 0 ≤ R.slots := by rw [hR]; exact Nat.le_refl _
  have hin := (name_of_methodNamed B.named B.method).1
  clear hR B
  have j_147 : ∀ (n_147 : Nat), 0 ≤ x3 ∧ x3 ≤ 3 → 0 ≤ x4 ∧ x4 ≤ 9 → 0 ≤ x5 ∧ x5 ≤ 1 → ∀ (x6_147 : Int), (-2147483648) ≤ x6_147 ∧ x6_147 ≤ 2147483647 → ∀ (x7_147 : Int), (-2147483648) ≤ x7_147 ∧ x7_147 ≤ 2147483647 → ∀ (x8_147 : Int), (-2147483648) ≤ x8_147 ∧ x8_147 ≤ 2147483647 → ∀ (x9_147 : Int), (-2147483648) ≤ x9_147 ∧ x9_147 ≤ 2147483647 → ∀ (x10_147 : Int), 0 ≤ x10_147 ∧ x10_147 ≤ 10 → (10 - x10_147 + 1 ≤ (n_147 : Int)) → ∀ (H : Heap) (locs : List Loc), tf_n tf_kt g M_X9_odds T s.heap T H locs → ∀ (ls : Array Slot), lv_has ls 12 [(0, .ref a0), (3, .int (Int32.ofInt x3)), (4, .int (Int32.ofInt x4)), (5, .int (Int32.ofInt x5)), (6, .int (Int32.ofInt x6_147)), (7, .int (Int32.ofInt x7_147)), (8, .int (Int32.ofInt x8_147)), (9, .int (Int32.ofInt x9_147)), (10, .int (Int32.ofInt x10_147))] → W p l e R s m args below meth c H locs 0 0 Q (F0 m 147 ls []) := by
    intro n_147
    induction n_147 with
    | zero =>
      intro hx3_147 hx4_147 hx5_147 x6_147 hx6_147 x7_147 hx7_147 x8_147 hx8_147 x9_147 hx9_147 x10_147 hx10_147 hm_147
      exfalso; omega
    | succ n_147 ih_147 =>
      intro hx3_147 hx4_147 hx5_147 x6_147 hx6_147 x7_147 hx7_147 x8_147 hx8_147 x9_147 hx9_147 x10_147 hx10_147 hm_147 H locs hW  ls hl
      have j_215 : 0 ≤ x3 ∧ x3 ≤ 3 → 0 ≤ x4 ∧ x4 ≤ 9 → 0 ≤ x5 ∧ x5 ≤ 1 → (-2147483648) ≤ x6_147 ∧ x6_147 ≤ 2147483647 → (-2147483648) ≤ x7_147 ∧ x7_147 ≤ 2147483647 → ∀ (x8_215 : Int), (-2147483648) ≤ x8_215 ∧ x8_215 ≤ 2147483647 → ∀ (x9_215 : Int), (-2147483648) ≤ x9_215 ∧ x9_215 ≤ 2147483647 → 0 ≤ x10_147 ∧ x10_147 ≤ 9 → ∀ (H : Heap) (locs : List Loc), tf_n tf_kt g M_X9_odds T s.heap T H locs → ∀ (ls : Array Slot), lv_has ls 12 [(0, .ref a0), (3, .int (Int32.ofInt x3)), (4, .int (Int32.ofInt x4)), (5, .int (Int32.ofInt x5)), (6, .int (Int32.ofInt x6_147)), (7, .int (Int32.ofInt x7_147)), (8, .int (Int32.ofInt x8_215)), (9, .int (Int32.ofInt x9_215)), (10, .int (Int32.ofInt x10_147))] → W p l e R s m args below meth c H locs 0 0 Q (F0 m 215 ls []) := by
        intro hx3_215 hx4_215 hx5_215 hx6_215 hx7_215 x8_215 hx8_215 x9_215 hx9_215 hx10_215 H locs hW  ls hl
        refine lv_iinc (v := Int32.ofInt ((x10_147 + 1))) (lv' := [(10, .int (Int32.ofInt ((x10_147 + 1)))), (0, .ref a0), (3, .int (Int32.ofInt x3)), (4, .int (Int32.ofInt x4)), (5, .int (Int32.ofInt x5)), (6, .int (Int32.ofInt x6_147)), (7, .int (Int32.ofInt x7_147)), (8, .int (Int32.ofInt x8_215)), (9, .int (Int32.ofInt x9_215))]) hx hb dX9_odds_215 hl (k := 8) rfl (Int32.ofInt_add _ _).symm (by decide) rfl (fun ls hl => ?_)
        refine lv_goto (tgt := 147) hx hb dX9_odds_218 (by decide) ?_
        exact ih_147 ⟨by omega, by omega⟩ ⟨by omega, by omega⟩ ⟨by omega, by omega⟩ (x6_147) ⟨by omega, by omega⟩ (x7_147) ⟨by omega, by omega⟩ (x8_215) ⟨by omega, by omega⟩ (x9_215) ⟨by omega, by omega⟩ ((x10_147 + 1)) ⟨by omega, by omega⟩ (by omega) _ _ hW  _ (lv_sub hl [1, 2, 3, 4, 5, 6, 7, 8, 0] rfl)
      have j_212 : 0 ≤ x3 ∧ x3 ≤ 3 → 0 ≤ x4 ∧ x4 ≤ 9 → 0 ≤ x5 ∧ x5 ≤ 1 → (-2147483648) ≤ x6_147 ∧ x6_147 ≤ 2147483647 → (-2147483648) ≤ x7_147 ∧ x7_147 ≤ 2147483647 → ∀ (x8_212 : Int), (-2147483648) ≤ x8_212 ∧ x8_212 ≤ 2147483647 → 0 ≤ x10_147 ∧ x10_147 ≤ 9 → (-2147483648) ≤ x9_147 ∧ x9_147 ≤ 2147483647 → ∀ (y1_212 : Int), (-2147483648) ≤ y1_212 ∧ y1_212 ≤ 2147483647 → ∀ (H : Heap) (locs : List Loc), tf_n tf_kt g M_X9_odds T s.heap T H locs → ∀ (ls : Array Slot), lv_has ls 12 [(0, .ref a0), (3, .int (Int32.ofInt x3)), (4, .int (Int32.ofInt x4)), (5, .int (Int32.ofInt x5)), (6, .int (Int32.ofInt x6_147)), (7, .int (Int32.ofInt x7_147)), (8, .int (Int32.ofInt x8_212)), (10, .int (Int32.ofInt x10_147))] → W p l e R s m args below meth c H locs 0 0 Q (F0 m 212 ls [.int (Int32.ofInt y1_212), .int (Int32.ofInt x9_147)]) := by
        intro hx3_212 hx4_212 hx5_212 hx6_212 hx7_212 x8_212 hx8_212 hx10_212 hy0_212 y1_212 hy1_212 H locs hW  ls hl
        refine tf_iadd_any hx hb dX9_odds_212 (fun z1 hz1 => ?_)
        refine lv_istore (lv' := [(9, .int (Int32.ofInt z1)), (0, .ref a0), (3, .int (Int32.ofInt x3)), (4, .int (Int32.ofInt x4)), (5, .int (Int32.ofInt x5)), (6, .int (Int32.ofInt x6_147)), (7, .int (Int32.ofInt x7_147)), (8, .int (Int32.ofInt x8_212)), (10, .int (Int32.ofInt x10_147))]) hx hb dX9_odds_213 hl (by decide) rfl (fun ls hl => ?_)
        exact j_215 ⟨by omega, by omega⟩ ⟨by omega, by omega⟩ ⟨by omega, by omega⟩ ⟨by omega, by omega⟩ ⟨by omega, by omega⟩ (x8_212) ⟨by omega, by omega⟩ (z1) ⟨by omega, by omega⟩ ⟨by omega, by omega⟩ _ _ hW  _ (lv_sub hl [1, 2, 3, 4, 5, 6, 7, 0, 8] rfl)
      refine lv_iload hx hb dX9_odds_147 (lv_at hl 8 rfl) ?_
      refine tf_bipush hx hb dX9_odds_149 (by decide) ?_
      refine tf_icmp_ge (tgt := 221) hx hb ⟨by omega, by omega⟩ ⟨by decide, by decide⟩ dX9_odds_151 (by decide) (fun h2 => ?_) (fun h2 => ?_)
      · refine lv_iload hx hb dX9_odds_221 (lv_at hl 6 rfl) ?_
        refine lv_iload hx hb dX9_odds_223 (lv_at hl 7 rfl) ?_
        refine tf_calli (va_runS (As := [.int (Int32.ofInt x8_147), .int (Int32.ofInt x9_147)]) (rest := []) ⟨hx, hb, hml, hown, hts⟩ (c_X9_greatestDivisor l g T (x8_147) ⟨by omega, by omega⟩ (x9_147) ⟨by omega, by omega⟩) ⟨callB_of 2 hts (gw_ws cm_X9_greatestDivisor) rfl rfl rfl (hts _ (tw1 (i := 2) rfl)) (hts _ (tw53 (i := 23) rfl)) hd_X9_greatestDivisor.2 ⟨Nat.le_trans (by decide) hR1, Nat.le_trans (by decide) hR2⟩, hts _ (tw54 (i := 0) rfl)⟩ (tf_preS hk hW trivial) rfl rfl hl.1 rfl (lv_room (Nat.le_of_ble_eq_true rfl)) dX9_odds_225 ⟨Nat.zero_le _, Nat.zero_le _⟩) hW (by decide) (fun z3 H3 locs3 hW hF3 hp3 => ?_)
        obtain ⟨hp3_0, hp3_1⟩ := hp3
        refine lv_istore (lv' := [(10, .int (Int32.ofInt z3)), (0, .ref a0), (3, .int (Int32.ofInt x3)), (4, .int (Int32.ofInt x4)), (5, .int (Int32.ofInt x5)), (6, .int (Int32.ofInt x6_147)), (7, .int (Int32.ofInt x7_147)), (8, .int (Int32.ofInt x8_147)), (9, .int (Int32.ofInt x9_147))]) hx hb dX9_odds_228 hl (by decide) rfl (fun ls hl => ?_)
        refine lv_iload hx hb dX9_odds_230 (lv_at hl 0 rfl) ?_
        refine tf_if_gt (tgt := 238) hx hb ⟨by omega, by omega⟩ dX9_odds_232 (by decide) (fun h4 => ?_) (fun h4 => ?_)
        · refine lv_iload hx hb dX9_odds_238 (lv_at hl 4 rfl) ?_
          refine tf_if_ne (tgt := 251) hx hb ⟨by omega, by omega⟩ dX9_odds_240 (by decide) (fun h5 => ?_) (fun h5 => ?_)
          · refine lv_iload hx hb dX9_odds_251 (lv_at hl 7 rfl) ?_
            refine lv_iload hx hb dX9_odds_253 (lv_at hl 0 rfl) ?_
            refine tf_idiv_any hx hb (by omega) ⟨by omega, by omega⟩ dX9_odds_255 (fun z6 hz6 => ?_)
            exact tf_reti (z := z6) hx hb hr hlocks hQ hW (show (-2147483648) ≤ (z6) ∧ (z6) ≤ 2147483647 by omega) dX9_odds_256
          · refine lv_iload hx hb dX9_odds_243 (lv_at hl 8 rfl) ?_
            refine lv_iload hx hb dX9_odds_245 (lv_at hl 0 rfl) ?_
            refine tf_idiv_any hx hb (by omega) ⟨by omega, by omega⟩ dX9_odds_247 (fun z7 hz7 => ?_)
            refine lv_goto (tgt := 256) hx hb dX9_odds_248 (by decide) ?_
            exact tf_reti (z := z7) hx hb hr hlocks hQ hW (show (-2147483648) ≤ (z7) ∧ (z7) ≤ 2147483647 by omega) dX9_odds_256
        · refine lv_iload hx hb dX9_odds_235 (lv_at hl 4 rfl) ?_
          exact tf_reti (z := x5) hx hb hr hlocks hQ hW (show (-2147483648) ≤ (x5) ∧ (x5) ≤ 2147483647 by omega) dX9_odds_237
      · refine lv_iload hx hb dX9_odds_154 (lv_at hl 8 rfl) ?_
        refine lv_iload hx hb dX9_odds_156 (lv_at hl 4 rfl) ?_
        refine tf_imul_any hx hb dX9_odds_158 (fun z8 hz8 => ?_)
        refine lv_iload hx hb dX9_odds_159 (lv_at hl 2 rfl) ?_
        refine lv_iload hx hb dX9_odds_161 (lv_at hl 4 rfl) ?_
        refine tf_imul_any hx hb dX9_odds_163 (fun z9 hz9 => ?_)
        refine tf_icmp_lt (tgt := 215) hx hb ⟨by omega, by omega⟩ ⟨by omega, by omega⟩ dX9_odds_164 (by decide) (fun h10 => ?_) (fun h10 => ?_)
        · exact j_215 ⟨by omega, by omega⟩ ⟨by omega, by omega⟩ ⟨by omega, by omega⟩ ⟨by omega, by omega⟩ ⟨by omega, by omega⟩ (x8_147) ⟨by omega, by omega⟩ (x9_147) ⟨by omega, by omega⟩ ⟨by omega, by omega⟩ _ _ hW  _ (lv_sub hl [0, 1, 2, 3, 4, 5, 6, 7, 8] rfl)
        · refine lv_aload_n hx hb dX9_odds_167 rfl (lv_at hl 0 rfl) ?_
          refine tf_get hx hb hts inlX9 hown hK (ci := 9) rfl hW ha0 rfl 0 rfl (by decide) (hts _ fl_X9_10) dX9_odds_168 (fun v11 hv11 hsv11 => ?_)
          obtain ⟨ad12, rfl, had12⟩ := tf_v1 hv11
          refine tf_get hx hb hts inlX3 hown hK (ci := 3) rfl hW had12 rfl 5 rfl (by decide) (hts _ fl_X9_334) dX9_odds_171 (fun v13 hv13 hsv13 => ?_)
          obtain ⟨ad14, rfl, had14⟩ := tf_v1 hv13
          refine lv_iload_n hx hb dX9_odds_174 rfl (lv_at hl 1 rfl) ?_
          refine tf_bipush hx hb dX9_odds_175 (by decide) ?_
          refine tf_imul hx hb dX9_odds_177 ?_
          refine lv_iload hx hb dX9_odds_178 (lv_at hl 8 rfl) ?_
          refine tf_iadd hx hb dX9_odds_180 ?_
          refine tf_iald (t0 := 0) hx hb hK hW had14 rfl rfl (by omega) (by omega) dX9_odds_181 (fun v15 hv15 hsv15 => ?_)
          obtain ⟨z16, rfl, hz16⟩ := tf_v0 hv15
          refine lv_istore (lv' := [(11, .int (Int32.ofInt z16)), (0, .ref a0), (3, .int (Int32.ofInt x3)), (4, .int (Int32.ofInt x4)), (5, .int (Int32.ofInt x5)), (6, .int (Int32.ofInt x6_147)), (7, .int (Int32.ofInt x7_147)), (8, .int (Int32.ofInt x8_147)), (9, .int (Int32.ofInt x9_147)), (10, .int (Int32.ofInt x10_147))]) hx hb dX9_odds_182 hl (by decide) rfl (fun ls hl => ?_)
          refine lv_iload hx hb dX9_odds_184 (lv_at hl 7 rfl) ?_
          refine lv_iload hx hb dX9_odds_186 (lv_at hl 0 rfl) ?_
          refine tf_iadd_any hx hb dX9_odds_188 (fun z17 hz17 => ?_)
          refine lv_istore (lv' := [(8, .int (Int32.ofInt z17)), (11, .int (Int32.ofInt z16)), (0, .ref a0), (3, .int (Int32.ofInt x3)), (4, .int (Int32.ofInt x4)), (5, .int (Int32.ofInt x5)), (6, .int (Int32.ofInt x6_147)), (7, .int (Int32.ofInt x7_147)), (9, .int (Int32.ofInt x9_147)), (10, .int (Int32.ofInt x10_147))]) hx hb dX9_odds_189 hl (by decide) rfl (fun ls hl => ?_)
          refine lv_iload hx hb dX9_odds_191 (lv_at hl 8 rfl) ?_
          refine lv_iload hx hb dX9_odds_193 (lv_at hl 9 rfl) ?_
          refine lv_iload hx hb dX9_odds_195 (lv_at hl 7 rfl) ?_
          refine tf_imul_any hx hb dX9_odds_197 (fun z18 hz18 => ?_)
          refine lv_iload hx hb dX9_odds_198 (lv_at hl 4 rfl) ?_
          refine lv_iload hx hb dX9_odds_200 (lv_at hl 6 rfl) ?_
          refine tf_imul_any hx hb dX9_odds_202 (fun z19 hz19 => ?_)
          refine tf_icmp_ge (tgt := 211) hx hb ⟨by omega, by omega⟩ ⟨by omega, by omega⟩ dX9_odds_203 (by decide) (fun h20 => ?_) (fun h20 => ?_)
          · refine tf_iconst hx hb dX9_odds_211 ?_
            exact j_212 ⟨by omega, by omega⟩ ⟨by omega, by omega⟩ ⟨by omega, by omega⟩ ⟨by omega, by omega⟩ ⟨by omega, by omega⟩ (z17) ⟨by omega, by omega⟩ ⟨by omega, by omega⟩ ⟨by omega, by omega⟩ (0) ⟨by omega, by omega⟩ _ _ hW  _ (lv_sub hl [2, 3, 4, 5, 6, 7, 0, 9] rfl)
          · refine lv_iload hx hb dX9_odds_206 (lv_at hl 1 rfl) ?_
            refine lv_goto (tgt := 212) hx hb dX9_odds_208 (by decide) ?_
            exact j_212 ⟨by omega, by omega⟩ ⟨by omega, by omega⟩ ⟨by omega, by omega⟩ ⟨by omega, by omega⟩ ⟨by omega, by omega⟩ (z17) ⟨by omega, by omega⟩ ⟨by omega, by omega⟩ ⟨by omega, by omega⟩ (z16) ⟨by omega, by omega⟩ _ _ hW  _ (lv_sub hl [2, 3, 4, 5, 6, 7, 0, 9] rfl)
  refine tf_enter (As := [.ref a0, .int (Int32.ofInt x1), .int (Int32.ofInt x2), .int (Int32.ofInt x3), .int (Int32.ofInt x4), .int (Int32.ofInt x5)]) hargs (Nat.le_of_ble_eq_true rfl) (fun ls hl => ?_)
  have hl : lv_has ls 12 [(0, .ref a0), (1, .int (Int32.ofInt x1)), (2, .int (Int32.ofInt x2)), (3, .int (Int32.ofInt x3)), (4, .int (Int32.ofInt x4)), (5, .int (Int32.ofInt x5))] := hl
  refine lv_aload_n hx hb dX9_odds_0 rfl (lv_at hl 0 rfl) ?_
  refine tf_get hx hb hts inlX9 hown hK (ci := 9) rfl hW ha0 rfl 0 rfl (by decide) (hts _ fl_X9_10) dX9_odds_1 (fun v21 hv21 hsv21 => ?_)
  obtain ⟨ad22, rfl, had22⟩ := tf_v1 hv21
  refine tf_get hx hb hts inlX3 hown hK (ci := 3) rfl hW had22 rfl 1 rfl (by decide) (hts _ fl_X9_89) dX9_odds_4 (fun v23 hv23 hsv23 => ?_)
  obtain ⟨ad24, rfl, had24⟩ := tf_v1 hv23
  refine lv_iload_n hx hb dX9_odds_7 rfl (lv_at hl 1 rfl) ?_
  refine tf_calli (va_runV (As := [.int (Int32.ofInt x1)]) (rest := []) ⟨hx, hb, hml, hown, hts⟩ (c_X5_has l g T ad24 had24 (x1) ⟨by omega, by omega⟩) (cwV 1 hts gv_X9_106 rfl rfl rfl hd_X5_has ⟨Nat.le_trans (by decide) hR1, Nat.le_trans (by decide) hR2⟩) (tf_preV hk hW had24 (ci := 5) rfl rfl trivial) rfl rfl hl.1 rfl (lv_room (Nat.le_of_ble_eq_true rfl)) dX9_odds_8 ⟨Nat.zero_le _, Nat.zero_le _⟩) hW (by decide) (fun z25 H25 locs25 hW hF25 hp25 => ?_)
  have hs26 := tf_keepF hF25 ha0 rfl rfl (by decide) hsv21
  have hs27 := tf_keepF hF25 had22 rfl rfl (by decide) hsv23
  rcases hp25 with ⟨rfl, h28, h29⟩ | ⟨rfl⟩
  · refine tf_if_eq (tgt := 50) hx hb ⟨by decide, by decide⟩ dX9_odds_11 (by decide) (fun h30 => ?_) (fun h30 => ?_)
    · exfalso; omega
    · refine lv_aload_n hx hb dX9_odds_14 rfl (lv_at hl 0 rfl) ?_
      refine tf_get hx hb hts inlX9 hown hK (ci := 9) rfl hW ha0 rfl 0 rfl (by decide) (hts _ fl_X9_10) dX9_odds_15 (fun v31 hv31 hsv31 => ?_)
      obtain rfl : v31 = .ref ad22 := Option.some.inj (hsv31.symm.trans hs26)
      refine lv_iload_n hx hb dX9_odds_18 rfl (lv_at hl 2 rfl) ?_
      refine tf_calli (va_runV (As := [.int (Int32.ofInt x2)]) (rest := []) ⟨hx, hb, hml, hown, hts⟩ (c_X3_isGround l g T ad22 had22 (x2) ⟨by omega, by omega⟩) (cwV 1 hts gv_X9_124 rfl rfl rfl hd_X3_isGround ⟨Nat.le_trans (by decide) hR1, Nat.le_trans (by decide) hR2⟩) (tf_preV hk hW had22 (ci := 3) rfl rfl trivial) rfl rfl hl.1 rfl (lv_room (Nat.le_of_ble_eq_true rfl)) dX9_odds_19 ⟨Nat.zero_le _, Nat.zero_le _⟩) hW (by decide) (fun z32 H32 locs32 hW hF32 hp32 => ?_)
      have hs33 := tf_keepF hF32 ha0 rfl rfl (by decide) hs26
      have hs34 := tf_keepF hF32 had22 rfl rfl (by decide) hs27
      rcases hp32 with ⟨rfl, h35, h36⟩ | ⟨rfl⟩
      · refine tf_if_eq (tgt := 50) hx hb ⟨by decide, by decide⟩ dX9_odds_22 (by decide) (fun h37 => ?_) (fun h37 => ?_)
        · exfalso; omega
        · refine lv_iload_n hx hb dX9_odds_25 rfl (lv_at hl 3 rfl) ?_
          refine tf_calli (va_runS (As := [.int (Int32.ofInt x3)]) (rest := []) ⟨hx, hb, hml, hown, hts⟩ (c_X9_isWay l g T (x3) ⟨by omega, by omega⟩) ⟨callB_of 1 hts (gw_ws cm_X9_isWay) rfl rfl rfl (hts _ (tw1 (i := 2) rfl)) (hts _ (tw16 (i := 17) rfl)) hd_X9_isWay.2 ⟨Nat.le_trans (by decide) hR1, Nat.le_trans (by decide) hR2⟩, hts _ (tw16 (i := 18) rfl)⟩ (tf_preS hk hW trivial) rfl rfl hl.1 rfl (lv_room (Nat.le_of_ble_eq_true rfl)) dX9_odds_26 ⟨Nat.zero_le _, Nat.zero_le _⟩) hW (by decide) (fun z38 H38 locs38 hW hF38 hp38 => ?_)
          have hs39 := tf_keepF hF38 ha0 rfl rfl (by decide) hs33
          have hs40 := tf_keepF hF38 had22 rfl rfl (by decide) hs34
          rcases hp38 with ⟨rfl, h41, h42⟩ | ⟨rfl, h43⟩
          · refine tf_if_eq (tgt := 50) hx hb ⟨by decide, by decide⟩ dX9_odds_29 (by decide) (fun h44 => ?_) (fun h44 => ?_)
            · exfalso; omega
            · refine lv_iload hx hb dX9_odds_32 (lv_at hl 4 rfl) ?_
              refine tf_calli (va_runS (As := [.int (Int32.ofInt x4)]) (rest := []) ⟨hx, hb, hml, hown, hts⟩ (c_X9_isPace l g T (x4) ⟨by omega, by omega⟩) ⟨callB_of 1 hts (gw_ws cm_X9_isPace) rfl rfl rfl (hts _ (tw1 (i := 2) rfl)) (hts _ (tw16 (i := 20) rfl)) hd_X9_isPace.2 ⟨Nat.le_trans (by decide) hR1, Nat.le_trans (by decide) hR2⟩, hts _ (tw16 (i := 21) rfl)⟩ (tf_preS hk hW trivial) rfl rfl hl.1 rfl (lv_room (Nat.le_of_ble_eq_true rfl)) dX9_odds_34 ⟨Nat.zero_le _, Nat.zero_le _⟩) hW (by decide) (fun z45 H45 locs45 hW hF45 hp45 => ?_)
              have hs46 := tf_keepF hF45 ha0 rfl rfl (by decide) hs39
              have hs47 := tf_keepF hF45 had22 rfl rfl (by decide) hs40
              rcases hp45 with ⟨rfl, h48, h49⟩ | ⟨rfl, h50⟩
              · refine tf_if_eq (tgt := 50) hx hb ⟨by decide, by decide⟩ dX9_odds_37 (by decide) (fun h51 => ?_) (fun h51 => ?_)
                · exfalso; omega
                · refine lv_iload hx hb dX9_odds_40 (lv_at hl 5 rfl) ?_
                  refine tf_iconst hx hb dX9_odds_42 ?_
                  refine tf_iconst hx hb dX9_odds_43 ?_
                  refine tf_calli (va_runS (As := [.int (Int32.ofInt x5), .int (Int32.ofInt 0), .int (Int32.ofInt 1)]) (rest := []) ⟨hx, hb, hml, hown, hts⟩ (c_X9_isWithin l g T (x5) ⟨by omega, by omega⟩ (0) ⟨by omega, by omega⟩ (1) ⟨by omega, by omega⟩) ⟨callB_of 3 hts (gw_ws cm_X9_isWithin) rfl rfl rfl (hts _ (tw1 (i := 2) rfl)) (hts _ (tw9 (i := 19) rfl)) hd_X9_isWithin.2 ⟨Nat.le_trans (by decide) hR1, Nat.le_trans (by decide) hR2⟩, hts _ (tw8 (i := 17) rfl)⟩ (tf_preS hk hW trivial) rfl rfl hl.1 rfl (lv_room (Nat.le_of_ble_eq_true rfl)) dX9_odds_44 ⟨Nat.zero_le _, Nat.zero_le _⟩) hW (by decide) (fun z52 H52 locs52 hW hF52 hp52 => ?_)
                  have hs53 := tf_keepF hF52 ha0 rfl rfl (by decide) hs46
                  have hs54 := tf_keepF hF52 had22 rfl rfl (by decide) hs47
                  rcases hp52 with ⟨rfl, h55, h56⟩ | ⟨rfl, h57⟩
                  · refine tf_if_ne (tgt := 52) hx hb ⟨by decide, by decide⟩ dX9_odds_47 (by decide) (fun h58 => ?_) (fun h58 => ?_)
                    · refine lv_aload_n hx hb dX9_odds_52 rfl (lv_at hl 0 rfl) ?_
                      refine tf_get hx hb hts inlX9 hown hK (ci := 9) rfl hW ha0 rfl 2 rfl (by decide) (hts _ fl_X9_23) dX9_odds_53 (fun v59 hv59 hsv59 => ?_)
                      obtain ⟨ad60, rfl, had60⟩ := tf_v1 hv59
                      refine lv_aload_n hx hb dX9_odds_56 rfl (lv_at hl 0 rfl) ?_
                      refine tf_get hx hb hts inlX9 hown hK (ci := 9) rfl hW ha0 rfl 0 rfl (by decide) (hts _ fl_X9_10) dX9_odds_57 (fun v61 hv61 hsv61 => ?_)
                      obtain rfl : v61 = .ref ad22 := Option.some.inj (hsv61.symm.trans hs53)
                      refine lv_aload_n hx hb dX9_odds_60 rfl (lv_at hl 0 rfl) ?_
                      refine tf_get hx hb hts inlX9 hown hK (ci := 9) rfl hW ha0 rfl 0 rfl (by decide) (hts _ fl_X9_10) dX9_odds_61 (fun v62 hv62 hsv62 => ?_)
                      obtain rfl : v62 = .ref ad22 := Option.some.inj (hsv62.symm.trans hs53)
                      refine tf_get hx hb hts inlX3 hown hK (ci := 3) rfl hW had22 rfl 0 rfl (by decide) (hts _ fl_X9_79) dX9_odds_64 (fun v63 hv63 hsv63 => ?_)
                      obtain ⟨ad64, rfl, had64⟩ := tf_v1 hv63
                      refine lv_iload_n hx hb dX9_odds_67 rfl (lv_at hl 2 rfl) ?_
                      refine tf_calli (va_runS (As := [.int (Int32.ofInt x2)]) (rest := [.ref ad64, .ref ad22, .ref ad60]) ⟨hx, hb, hml, hown, hts⟩ (c_X9_spotOf l g T (x2) ⟨by omega, by omega⟩) ⟨callB_of 1 hts (gw_ws cm_X9_spotOf) rfl rfl rfl (hts _ (tw1 (i := 2) rfl)) (hts _ (tw15 (i := 8) rfl)) hd_X9_spotOf.2 ⟨Nat.le_trans (by decide) hR1, Nat.le_trans (by decide) hR2⟩, hts _ (tw9 (i := 2) rfl)⟩ (tf_preS hk hW trivial) rfl rfl hl.1 rfl (lv_room (Nat.le_of_ble_eq_true rfl)) dX9_odds_68 ⟨Nat.zero_le _, Nat.zero_le _⟩) hW (by decide) (fun z65 H65 locs65 hW hF65 hp65 => ?_)
                      have hs66 := tf_keepF hF65 ha0 rfl rfl (by decide) hs53
                      have hs67 := tf_keepF hF65 had22 rfl rfl (by decide) hs54
                      have hs68 := tf_keepF hF65 ha0 rfl rfl (by decide) hsv59
                      have hs69 := tf_keepF hF65 had22 rfl rfl (by decide) hsv63
                      obtain ⟨hp65_0, hp65_1⟩ := hp65
                      refine lv_iload_n hx hb dX9_odds_71 rfl (lv_at hl 3 rfl) ?_
                      refine tf_calli (va_runV (As := [.ref ad22, .ref ad64, .int (Int32.ofInt z65), .int (Int32.ofInt x3)]) (rest := []) ⟨hx, hb, hml, hown, hts⟩ (c_X7_quick l g T ad60 had60 ad22 had22 ad64 had64 (z65) ⟨by omega, by omega⟩ (x3) ⟨by omega, by omega⟩ hE) (cwV 4 hts gv_X9_179 rfl rfl rfl hd_X7_quick ⟨Nat.le_trans (by decide) hR1, Nat.le_trans (by decide) hR2⟩) (tf_preV hk hW had60 (ci := 7) rfl rfl trivial) rfl rfl hl.1 rfl (lv_room (Nat.le_of_ble_eq_true rfl)) dX9_odds_72 ⟨Nat.zero_le _, Nat.zero_le _⟩) hW (by decide) (fun z70 H70 locs70 hW hF70 hp70 => ?_)
                      have hs71 := tf_keepF hF70 ha0 rfl rfl (by decide) hs66
                      have hs72 := tf_keepF hF70 had22 rfl rfl (by decide) hs67
                      have hs73 := tf_keepF hF70 ha0 rfl rfl (by decide) hs68
                      have hs74 := tf_keepF hF70 had22 rfl rfl (by decide) hs69
                      obtain ⟨hp70_0, hp70_1⟩ := hp70
                      refine lv_istore (lv' := [(6, .int (Int32.ofInt z70)), (0, .ref a0), (1, .int (Int32.ofInt x1)), (2, .int (Int32.ofInt x2)), (3, .int (Int32.ofInt x3)), (4, .int (Int32.ofInt x4)), (5, .int (Int32.ofInt x5))]) hx hb dX9_odds_75 hl (by decide) rfl (fun ls hl => ?_)
                      refine lv_aload_n hx hb dX9_odds_77 rfl (lv_at hl 1 rfl) ?_
                      refine tf_get hx hb hts inlX9 hown hK (ci := 9) rfl hW ha0 rfl 3 rfl (by decide) (hts _ fl_X9_30) dX9_odds_78 (fun v75 hv75 hsv75 => ?_)
                      obtain ⟨ad76, rfl, had76⟩ := tf_v1 hv75
                      refine tf_get hx hb hts inlX6 hown hK (ci := 6) rfl hW had76 rfl 0 rfl (by decide) (hts _ fl_X9_208) dX9_odds_81 (fun v77 hv77 hsv77 => ?_)
                      obtain ⟨ad78, rfl, had78⟩ := tf_v1 hv77
                      refine lv_aload_n hx hb dX9_odds_84 rfl (lv_at hl 1 rfl) ?_
                      refine tf_get hx hb hts inlX9 hown hK (ci := 9) rfl hW ha0 rfl 0 rfl (by decide) (hts _ fl_X9_10) dX9_odds_85 (fun v79 hv79 hsv79 => ?_)
                      obtain rfl : v79 = .ref ad22 := Option.some.inj (hsv79.symm.trans hs71)
                      refine tf_get hx hb hts inlX3 hown hK (ci := 3) rfl hW had22 rfl 0 rfl (by decide) (hts _ fl_X9_79) dX9_odds_88 (fun v80 hv80 hsv80 => ?_)
                      obtain rfl : v80 = .ref ad64 := Option.some.inj (hsv80.symm.trans hs74)
                      refine tf_callv (va_runV (As := [.ref ad64]) (rest := []) ⟨hx, hb, hml, hown, hts⟩ (c_X0_become l g T ad78 had78 ad64 had64) (cwV 1 hts gv_X9_209 rfl rfl rfl hd_X0_become ⟨Nat.le_trans (by decide) hR1, Nat.le_trans (by decide) hR2⟩) (tf_preV hk hW had78 (ci := 0) rfl rfl trivial) rfl rfl hl.1 rfl (lv_room (Nat.le_of_ble_eq_true rfl)) dX9_odds_91 ⟨Nat.zero_le _, Nat.zero_le _⟩) hW (by decide) (fun H81 locs81 hW hF81 hp81 => ?_)
                      have hs82 := tf_keepF hF81 ha0 rfl rfl (by decide) hs71
                      have hs83 := tf_keepF hF81 had22 rfl rfl (by decide) hs72
                      have hs84 := tf_keepF hF81 ha0 rfl rfl (by decide) hs73
                      have hs85 := tf_keepF hF81 had22 rfl rfl (by decide) hs74
                      have hs86 := tf_keepF hF81 ha0 rfl rfl (by decide) hsv75
                      have hs87 := tf_keepF hF81 had76 rfl rfl (by decide) hsv77
                      refine lv_aload_n hx hb dX9_odds_94 rfl (lv_at hl 1 rfl) ?_
                      refine tf_get hx hb hts inlX9 hown hK (ci := 9) rfl hW ha0 rfl 0 rfl (by decide) (hts _ fl_X9_10) dX9_odds_95 (fun v88 hv88 hsv88 => ?_)
                      obtain rfl : v88 = .ref ad22 := Option.some.inj (hsv88.symm.trans hs82)
                      refine tf_get hx hb hts inlX3 hown hK (ci := 3) rfl hW had22 rfl 1 rfl (by decide) (hts _ fl_X9_89) dX9_odds_98 (fun v89 hv89 hsv89 => ?_)
                      obtain rfl : v89 = .ref ad24 := Option.some.inj (hsv89.symm.trans hs83)
                      refine lv_iload_n hx hb dX9_odds_101 rfl (lv_at hl 2 rfl) ?_
                      refine tf_iconst hx hb dX9_odds_102 ?_
                      refine lv_aload_n hx hb dX9_odds_103 rfl (lv_at hl 1 rfl) ?_
                      refine tf_get hx hb hts inlX9 hown hK (ci := 9) rfl hW ha0 rfl 3 rfl (by decide) (hts _ fl_X9_30) dX9_odds_104 (fun v90 hv90 hsv90 => ?_)
                      obtain rfl : v90 = .ref ad76 := Option.some.inj (hsv90.symm.trans hs86)
                      refine tf_get hx hb hts inlX6 hown hK (ci := 6) rfl hW had76 rfl 0 rfl (by decide) (hts _ fl_X9_208) dX9_odds_107 (fun v91 hv91 hsv91 => ?_)
                      obtain rfl : v91 = .ref ad78 := Option.some.inj (hsv91.symm.trans hs87)
                      refine tf_callv (va_runV (As := [.int (Int32.ofInt x1), .int (Int32.ofInt 0), .ref ad78]) (rest := []) ⟨hx, hb, hml, hown, hts⟩ (c_X5_makeHigh l g T ad24 had24 (x1) ⟨by omega, by omega⟩ (0) ⟨by omega, by omega⟩ ad78 had78) (cwV 3 hts gv_X9_114 rfl rfl rfl hd_X5_makeHigh ⟨Nat.le_trans (by decide) hR1, Nat.le_trans (by decide) hR2⟩) (tf_preV hk hW had24 (ci := 5) rfl rfl trivial) rfl rfl hl.1 rfl (lv_room (Nat.le_of_ble_eq_true rfl)) dX9_odds_110 ⟨Nat.zero_le _, Nat.zero_le _⟩) hW (by decide) (fun H92 locs92 hW hF92 hp92 => ?_)
                      have hs93 := tf_keepF hF92 ha0 rfl rfl (by decide) hs82
                      have hs94 := tf_keepF hF92 had22 rfl rfl (by decide) hs83
                      have hs95 := tf_keepF hF92 ha0 rfl rfl (by decide) hs84
                      have hs96 := tf_keepF hF92 had22 rfl rfl (by decide) hs85
                      have hs97 := tf_keepF hF92 ha0 rfl rfl (by decide) hs86
                      have hs98 := tf_keepF hF92 had76 rfl rfl (by decide) hs87
                      refine lv_aload_n hx hb dX9_odds_113 rfl (lv_at hl 1 rfl) ?_
                      refine tf_get hx hb hts inlX9 hown hK (ci := 9) rfl hW ha0 rfl 2 rfl (by decide) (hts _ fl_X9_23) dX9_odds_114 (fun v99 hv99 hsv99 => ?_)
                      obtain rfl : v99 = .ref ad60 := Option.some.inj (hsv99.symm.trans hs95)
                      refine lv_aload_n hx hb dX9_odds_117 rfl (lv_at hl 1 rfl) ?_
                      refine tf_get hx hb hts inlX9 hown hK (ci := 9) rfl hW ha0 rfl 0 rfl (by decide) (hts _ fl_X9_10) dX9_odds_118 (fun v100 hv100 hsv100 => ?_)
                      obtain rfl : v100 = .ref ad22 := Option.some.inj (hsv100.symm.trans hs93)
                      refine lv_aload_n hx hb dX9_odds_121 rfl (lv_at hl 1 rfl) ?_
                      refine tf_get hx hb hts inlX9 hown hK (ci := 9) rfl hW ha0 rfl 3 rfl (by decide) (hts _ fl_X9_30) dX9_odds_122 (fun v101 hv101 hsv101 => ?_)
                      obtain rfl : v101 = .ref ad76 := Option.some.inj (hsv101.symm.trans hs97)
                      refine tf_get hx hb hts inlX6 hown hK (ci := 6) rfl hW had76 rfl 0 rfl (by decide) (hts _ fl_X9_208) dX9_odds_125 (fun v102 hv102 hsv102 => ?_)
                      obtain rfl : v102 = .ref ad78 := Option.some.inj (hsv102.symm.trans hs98)
                      refine lv_iload_n hx hb dX9_odds_128 rfl (lv_at hl 3 rfl) ?_
                      refine tf_calli (va_runS (As := [.int (Int32.ofInt x2)]) (rest := [.ref ad78, .ref ad22, .ref ad60]) ⟨hx, hb, hml, hown, hts⟩ (c_X9_spotOf l g T (x2) ⟨by omega, by omega⟩) ⟨callB_of 1 hts (gw_ws cm_X9_spotOf) rfl rfl rfl (hts _ (tw1 (i := 2) rfl)) (hts _ (tw15 (i := 8) rfl)) hd_X9_spotOf.2 ⟨Nat.le_trans (by decide) hR1, Nat.le_trans (by decide) hR2⟩, hts _ (tw9 (i := 2) rfl)⟩ (tf_preS hk hW trivial) rfl rfl hl.1 rfl (lv_room (Nat.le_of_ble_eq_true rfl)) dX9_odds_129 ⟨Nat.zero_le _, Nat.zero_le _⟩) hW (by decide) (fun z103 H103 locs103 hW hF103 hp103 => ?_)
                      have hs104 := tf_keepF hF103 ha0 rfl rfl (by decide) hs93
                      have hs105 := tf_keepF hF103 had22 rfl rfl (by decide) hs94
                      have hs106 := tf_keepF hF103 ha0 rfl rfl (by decide) hs95
                      have hs107 := tf_keepF hF103 had22 rfl rfl (by decide) hs96
                      have hs108 := tf_keepF hF103 ha0 rfl rfl (by decide) hs97
                      have hs109 := tf_keepF hF103 had76 rfl rfl (by decide) hs98
                      obtain ⟨hp103_0, hp103_1⟩ := hp103
                      refine lv_iload_n hx hb dX9_odds_132 rfl (lv_at hl 4 rfl) ?_
                      refine tf_calli (va_runV (As := [.ref ad22, .ref ad78, .int (Int32.ofInt z103), .int (Int32.ofInt x3)]) (rest := []) ⟨hx, hb, hml, hown, hts⟩ (c_X7_quick l g T ad60 had60 ad22 had22 ad78 had78 (z103) ⟨by omega, by omega⟩ (x3) ⟨by omega, by omega⟩ hE) (cwV 4 hts gv_X9_179 rfl rfl rfl hd_X7_quick ⟨Nat.le_trans (by decide) hR1, Nat.le_trans (by decide) hR2⟩) (tf_preV hk hW had60 (ci := 7) rfl rfl trivial) rfl rfl hl.1 rfl (lv_room (Nat.le_of_ble_eq_true rfl)) dX9_odds_133 ⟨Nat.zero_le _, Nat.zero_le _⟩) hW (by decide) (fun z110 H110 locs110 hW hF110 hp110 => ?_)
                      have hs111 := tf_keepF hF110 ha0 rfl rfl (by decide) hs104
                      have hs112 := tf_keepF hF110 had22 rfl rfl (by decide) hs105
                      have hs113 := tf_keepF hF110 ha0 rfl rfl (by decide) hs106
                      have hs114 := tf_keepF hF110 had22 rfl rfl (by decide) hs107
                      have hs115 := tf_keepF hF110 ha0 rfl rfl (by decide) hs108
                      have hs116 := tf_keepF hF110 had76 rfl rfl (by decide) hs109
                      obtain ⟨hp110_0, hp110_1⟩ := hp110
                      refine lv_istore (lv' := [(7, .int (Int32.ofInt z110)), (6, .int (Int32.ofInt z70)), (0, .ref a0), (1, .int (Int32.ofInt x1)), (2, .int (Int32.ofInt x2)), (3, .int (Int32.ofInt x3)), (4, .int (Int32.ofInt x4)), (5, .int (Int32.ofInt x5))]) hx hb dX9_odds_136 hl (by decide) rfl (fun ls hl => ?_)
                      refine tf_iconst hx hb dX9_odds_138 ?_
                      refine lv_istore (lv' := [(8, .int (Int32.ofInt 0)), (7, .int (Int32.ofInt z110)), (6, .int (Int32.ofInt z70)), (0, .ref a0), (1, .int (Int32.ofInt x1)), (2, .int (Int32.ofInt x2)), (3, .int (Int32.ofInt x3)), (4, .int (Int32.ofInt x4)), (5, .int (Int32.ofInt x5))]) hx hb dX9_odds_139 hl (by decide) rfl (fun ls hl => ?_)
                      refine tf_iconst hx hb dX9_odds_141 ?_
                      refine lv_istore (lv' := [(9, .int (Int32.ofInt 0)), (8, .int (Int32.ofInt 0)), (7, .int (Int32.ofInt z110)), (6, .int (Int32.ofInt z70)), (0, .ref a0), (1, .int (Int32.ofInt x1)), (2, .int (Int32.ofInt x2)), (3, .int (Int32.ofInt x3)), (4, .int (Int32.ofInt x4)), (5, .int (Int32.ofInt x5))]) hx hb dX9_odds_142 hl (by decide) rfl (fun ls hl => ?_)
                      refine tf_iconst hx hb dX9_odds_144 ?_
                      refine lv_istore (lv' := [(10, .int (Int32.ofInt 0)), (9, .int (Int32.ofInt 0)), (8, .int (Int32.ofInt 0)), (7, .int (Int32.ofInt z110)), (6, .int (Int32.ofInt z70)), (0, .ref a0), (1, .int (Int32.ofInt x1)), (2, .int (Int32.ofInt x2)), (3, .int (Int32.ofInt x3)), (4, .int (Int32.ofInt x4)), (5, .int (Int32.ofInt x5))]) hx hb dX9_odds_145 hl (by decide) rfl (fun ls hl => ?_)
                      exact j_147 ((10 - 0 + 1 : Int)).toNat ⟨by omega, by omega⟩ ⟨by omega, by omega⟩ ⟨by omega, by omega⟩ (z70) ⟨by omega, by omega⟩ (z110) ⟨by omega, by omega⟩ (0) ⟨by omega, by omega⟩ (0) ⟨by omega, by omega⟩ (0) ⟨by omega, by omega⟩ (by omega) _ _ hW  _ (lv_sub hl [5, 8, 9, 10, 4, 3, 2, 1, 0] rfl)
                    · exfalso; omega
                  · refine tf_if_ne (tgt := 52) hx hb ⟨by decide, by decide⟩ dX9_odds_47 (by decide) (fun h117 => ?_) (fun h117 => ?_)
                    · exfalso; omega
                    · refine tf_iconst hx hb dX9_odds_50 ?_
                      exact tf_reti (z := (-1)) hx hb hr hlocks hQ hW (show (-2147483648) ≤ ((-1)) ∧ ((-1)) ≤ 2147483647 by omega) dX9_odds_51
              · refine tf_if_eq (tgt := 50) hx hb ⟨by decide, by decide⟩ dX9_odds_37 (by decide) (fun h118 => ?_) (fun h118 => ?_)
                · refine tf_iconst hx hb dX9_odds_50 ?_
                  exact tf_reti (z := (-1)) hx hb hr hlocks hQ hW (show (-2147483648) ≤ ((-1)) ∧ ((-1)) ≤ 2147483647 by omega) dX9_odds_51
                · exfalso; omega
          · refine tf_if_eq (tgt := 50) hx hb ⟨by decide, by decide⟩ dX9_odds_29 (by decide) (fun h119 => ?_) (fun h119 => ?_)
            · refine tf_iconst hx hb dX9_odds_50 ?_
              exact tf_reti (z := (-1)) hx hb hr hlocks hQ hW (show (-2147483648) ≤ ((-1)) ∧ ((-1)) ≤ 2147483647 by omega) dX9_odds_51
            · exfalso; omega
      · refine tf_if_eq (tgt := 50) hx hb ⟨by decide, by decide⟩ dX9_odds_22 (by decide) (fun h120 => ?_) (fun h120 => ?_)
        · refine tf_iconst hx hb dX9_odds_50 ?_
          exact tf_reti (z := (-1)) hx hb hr hlocks hQ hW (show (-2147483648) ≤ ((-1)) ∧ ((-1)) ≤ 2147483647 by omega) dX9_odds_51
        · exfalso; omega
  · refine tf_if_eq (tgt := 50) hx hb ⟨by decide, by decide⟩ dX9_odds_11 (by decide) (fun h121 => ?_) (fun h121 => ?_)
    · refine tf_iconst hx hb dX9_odds_50 ?_
      exact tf_reti (z := (-1)) hx hb hr hlocks hQ hW (show (-2147483648) ≤ ((-1)) ∧ ((-1)) ≤ 2147483647 by omega) dX9_odds_51
    · exfalso; omega

abbrev M_X9_tooQuickHours : List (Nat × Nat) := [(0, 0), (4, 0), (24, 5)]
set_option maxHeartbeats 4000000 in
set_option maxRecDepth 100000 in
theorem c_X9_tooQuickHours (l : Launch) (g : tf_G) (T : tf_T) (a0 : Nat) (ha0 : T a0 = some (26, 0)) (hE : tf_E g T) : Met l yX9_tooQuickHours (cd_X9_tooQuickHours :: wsL_law) ({ frames := 6, cells := 0, slots := 0, locals := 159 }) (tf_P g T [.ref a0] (fun H => True)) (tf_Qi g M_X9_tooQuickHours T (fun z _ _ => (-2147483648) ≤ z ∧ z ≤ 2147483647)) 0 0 (fun q => tf_B g ≤ q) := by
  refine Met.ofW (cc := cX9_tooQuickHours) (maxL := 6) (ret := (some .int)) (by decide) rfl ?_
  intro p e s m args below meth c s₁ B hml hv
  obtain ⟨hargs, hk, hW0, hB, hpre⟩ := hv
  have hx := B.exec
  have hb := B.bytes
  have hr := B.returns
  have hts : ∀ w ∈ wsL_law, w.before args s = true := fun w h => atoms_spec (ws := cd_X9_tooQuickHours :: wsL_law) B.pre w (List.mem_cons_of_mem _ h)
  have hown : s.vm.findClass RX9 = some m.cls := findClass_of_methodNamed B.named
  have hlocks := B.notSynchronized
  have hK := hk.1
  have hW := tf_n.start (M := M_X9_tooQuickHours) hW0 hB
  obtain ⟨Q, hQ⟩ : ∃ q, q = MQ below (tf_Qi g M_X9_tooQuickHours T (fun z _ _ => (-2147483648) ≤ z ∧ z ≤ 2147483647)) args s 0 0 (fun q => tf_B g ≤ q) := ⟨_, rfl⟩
  rw [← hQ]
  obtain ⟨R, hR⟩ : ∃ q, q = (headSpec (cd_X9_tooQuickHours :: wsL_law) ({ frames := 6, cells := 0, slots := 0, locals := 159 })).room := ⟨_, rfl⟩
  rw [← hR]
  have hR1 : 6 ≤ R.frames := by rw [hR]; exact Nat.le_refl _
  have hR2 : 159 ≤ R.locals := by rw [hR]; exact Nat.le_refl _
  have hR3 : 0 ≤ R.cells := by rw [hR]; exact Nat.le_refl _
  have hR4 : 0 ≤ R.slots := by rw [hR]; exact Nat.le_refl _
  have hin := (name_of_methodNamed B.named B.method).1
  clear hR B
  have j_4 : ∀ (n_4 : Nat), ∀ (x1_4 : Int), (-2147483648) ≤ x1_4 ∧ x1_4 ≤ 2147483647 → ∀ (x2_4 : Int), 0 ≤ x2_4 ∧ x2_4 ≤ 4 → (4 - x2_4 + 1 ≤ (n_4 : Int)) → ∀ (H : Heap) (locs : List Loc), tf_n tf_kt g M_X9_tooQuickHours T s.heap T H locs → ∀ (ls : Array Slot), lv_has ls 6 [(0, .ref a0), (1, .int (Int32.ofInt x1_4)), (2, .int (Int32.ofInt x2_4))] → W p l e R s m args below meth c H locs 0 0 Q (F0 m 4 ls []) := by
    intro n_4
    induction n_4 with
    | zero =>
      intro x1_4 hx1_4 x2_4 hx2_4 hm_4
      exfalso; omega
    | succ n_4 ih_4 =>
      intro x1_4 hx1_4 x2_4 hx2_4 hm_4 H locs hW  ls hl
      have j_49 : ∀ (n_49 : Nat), ∀ (x1_49 : Int), (-2147483648) ≤ x1_49 ∧ x1_49 ≤ 2147483647 → 0 ≤ x2_4 ∧ x2_4 ≤ 3 → ∀ (x3_49 : Int), (-2147483648) ≤ x3_49 ∧ x3_49 ≤ 2147483647 → ∀ (x4_49 : Int), 0 ≤ x4_49 ∧ x4_49 ≤ 24 → (24 - x4_49 + 1 ≤ (n_49 : Int)) → ∀ (H : Heap) (locs : List Loc), tf_n tf_kt g M_X9_tooQuickHours T s.heap T H locs → ∀ (ls : Array Slot), lv_has ls 6 [(0, .ref a0), (1, .int (Int32.ofInt x1_49)), (2, .int (Int32.ofInt x2_4)), (3, .int (Int32.ofInt x3_49)), (4, .int (Int32.ofInt x4_49))] → W p l e R s m args below meth c H locs 0 0 Q (F0 m 49 ls []) := by
        intro n_49
        induction n_49 with
        | zero =>
          intro x1_49 hx1_49 hx2_49 x3_49 hx3_49 x4_49 hx4_49 hm_49
          exfalso; omega
        | succ n_49 ih_49 =>
          intro x1_49 hx1_49 hx2_49 x3_49 hx3_49 x4_49 hx4_49 hm_49 H locs hW  ls hl
          have j_89 : 0 ≤ x2_4 ∧ x2_4 ≤ 3 → (-2147483648) ≤ x3_49 ∧ x3_49 ≤ 2147483647 → 0 ≤ x4_49 ∧ x4_49 ≤ 23 → (-2147483648) ≤ x1_49 ∧ x1_49 ≤ 2147483647 → ∀ (y1_89 : Int), 0 ≤ y1_89 ∧ y1_89 ≤ 1 → ∀ (H : Heap) (locs : List Loc), tf_n tf_kt g M_X9_tooQuickHours T s.heap T H locs → ∀ (ls : Array Slot), lv_has ls 6 [(0, .ref a0), (2, .int (Int32.ofInt x2_4)), (3, .int (Int32.ofInt x3_49)), (4, .int (Int32.ofInt x4_49))] → W p l e R s m args below meth c H locs 0 0 Q (F0 m 89 ls [.int (Int32.ofInt y1_89), .int (Int32.ofInt x1_49)]) := by
            intro hx2_89 hx3_89 hx4_89 hy0_89 y1_89 hy1_89 H locs hW  ls hl
            refine tf_iadd_any hx hb dX9_tooQuickHours_89 (fun z1 hz1 => ?_)
            refine lv_istore_n (lv' := [(1, .int (Int32.ofInt z1)), (0, .ref a0), (2, .int (Int32.ofInt x2_4)), (3, .int (Int32.ofInt x3_49)), (4, .int (Int32.ofInt x4_49))]) hx hb dX9_tooQuickHours_90 rfl hl (by decide) rfl (fun ls hl => ?_)
            refine lv_iinc (v := Int32.ofInt ((x4_49 + 1))) (lv' := [(4, .int (Int32.ofInt ((x4_49 + 1)))), (1, .int (Int32.ofInt z1)), (0, .ref a0), (2, .int (Int32.ofInt x2_4)), (3, .int (Int32.ofInt x3_49))]) hx hb dX9_tooQuickHours_91 hl (k := 4) rfl (Int32.ofInt_add _ _).symm (by decide) rfl (fun ls hl => ?_)
            refine lv_goto (tgt := 49) hx hb dX9_tooQuickHours_94 (by decide) ?_
            exact ih_49 (z1) ⟨by omega, by omega⟩ ⟨by omega, by omega⟩ (x3_49) ⟨by omega, by omega⟩ ((x4_49 + 1)) ⟨by omega, by omega⟩ (by omega) _ _ hW  _ (lv_sub hl [2, 1, 3, 4, 0] rfl)
          have j_88 : 0 ≤ x2_4 ∧ x2_4 ≤ 3 → (-2147483648) ≤ x3_49 ∧ x3_49 ≤ 2147483647 → 0 ≤ x4_49 ∧ x4_49 ≤ 23 → (-2147483648) ≤ x1_49 ∧ x1_49 ≤ 2147483647 → ∀ (H : Heap) (locs : List Loc), tf_n tf_kt g M_X9_tooQuickHours T s.heap T H locs → ∀ (ls : Array Slot), lv_has ls 6 [(0, .ref a0), (2, .int (Int32.ofInt x2_4)), (3, .int (Int32.ofInt x3_49)), (4, .int (Int32.ofInt x4_49))] → W p l e R s m args below meth c H locs 0 0 Q (F0 m 88 ls [.int (Int32.ofInt x1_49)]) := by
            intro hx2_88 hx3_88 hx4_88 hy0_88 H locs hW  ls hl
            refine tf_iconst hx hb dX9_tooQuickHours_88 ?_
            exact j_89 ⟨by omega, by omega⟩ ⟨by omega, by omega⟩ ⟨by omega, by omega⟩ ⟨by omega, by omega⟩ (0) ⟨by omega, by omega⟩ _ _ hW  _ (lv_sub hl [0, 1, 2, 3] rfl)
          refine lv_iload hx hb dX9_tooQuickHours_49 (lv_at hl 4 rfl) ?_
          refine tf_bipush hx hb dX9_tooQuickHours_51 (by decide) ?_
          refine tf_icmp_ge (tgt := 97) hx hb ⟨by omega, by omega⟩ ⟨by decide, by decide⟩ dX9_tooQuickHours_53 (by decide) (fun h2 => ?_) (fun h2 => ?_)
          · refine lv_iinc (v := Int32.ofInt ((x2_4 + 1))) (lv' := [(2, .int (Int32.ofInt ((x2_4 + 1)))), (0, .ref a0), (1, .int (Int32.ofInt x1_49)), (3, .int (Int32.ofInt x3_49)), (4, .int (Int32.ofInt x4_49))]) hx hb dX9_tooQuickHours_97 hl (k := 2) rfl (Int32.ofInt_add _ _).symm (by decide) rfl (fun ls hl => ?_)
            refine lv_goto (tgt := 4) hx hb dX9_tooQuickHours_100 (by decide) ?_
            exact ih_4 (x1_49) ⟨by omega, by omega⟩ ((x2_4 + 1)) ⟨by omega, by omega⟩ (by omega) _ _ hW  _ (lv_sub hl [1, 2, 0] rfl)
          · refine lv_aload_n hx hb dX9_tooQuickHours_56 rfl (lv_at hl 0 rfl) ?_
            refine tf_get hx hb hts inlX9 hown hK (ci := 9) rfl hW ha0 rfl 10 rfl (by decide) (hts _ fl_X9_58) dX9_tooQuickHours_57 (fun v3 hv3 hsv3 => ?_)
            obtain ⟨ad4, rfl, had4⟩ := tf_v1 hv3
            refine lv_iload hx hb dX9_tooQuickHours_60 (lv_at hl 4 rfl) ?_
            refine tf_iald (t0 := 0) hx hb hK hW had4 rfl rfl (by omega) (by omega) dX9_tooQuickHours_62 (fun v5 hv5 hsv5 => ?_)
            obtain ⟨z6, rfl, hz6⟩ := tf_v0 hv5
            refine lv_istore (lv' := [(5, .int (Int32.ofInt z6)), (0, .ref a0), (1, .int (Int32.ofInt x1_49)), (2, .int (Int32.ofInt x2_4)), (3, .int (Int32.ofInt x3_49)), (4, .int (Int32.ofInt x4_49))]) hx hb dX9_tooQuickHours_63 hl (by decide) rfl (fun ls hl => ?_)
            refine lv_iload_n hx hb dX9_tooQuickHours_65 rfl (lv_at hl 2 rfl) ?_
            refine lv_iload hx hb dX9_tooQuickHours_66 (lv_at hl 0 rfl) ?_
            refine tf_bipush hx hb dX9_tooQuickHours_68 (by decide) ?_
            refine tf_idiv_c hx hb ⟨by omega, by omega⟩ ⟨by decide, by decide⟩ (by decide) dX9_tooQuickHours_70 (fun z7 hz7 => ?_)
            refine lv_iload_n hx hb dX9_tooQuickHours_71 rfl (lv_at hl 3 rfl) ?_
            refine tf_icmp_ne (tgt := 88) hx hb ⟨by omega, by omega⟩ ⟨by omega, by omega⟩ dX9_tooQuickHours_72 (by decide) (fun h8 => ?_) (fun h8 => ?_)
            · exact j_88 ⟨by omega, by omega⟩ ⟨by omega, by omega⟩ ⟨by omega, by omega⟩ ⟨by omega, by omega⟩ _ _ hW  _ (lv_sub hl [1, 3, 4, 5] rfl)
            · refine lv_iload hx hb dX9_tooQuickHours_75 (lv_at hl 0 rfl) ?_
              refine tf_bipush hx hb dX9_tooQuickHours_77 (by decide) ?_
              refine tf_irem_any hx hb (by omega) ⟨by decide, by decide⟩ dX9_tooQuickHours_79 (fun z9 hz9 => ?_)
              refine lv_iload_n hx hb dX9_tooQuickHours_80 rfl (lv_at hl 4 rfl) ?_
              refine tf_icmp_lt (tgt := 88) hx hb ⟨by omega, by omega⟩ ⟨by omega, by omega⟩ dX9_tooQuickHours_81 (by decide) (fun h10 => ?_) (fun h10 => ?_)
              · exact j_88 ⟨by omega, by omega⟩ ⟨by omega, by omega⟩ ⟨by omega, by omega⟩ ⟨by omega, by omega⟩ _ _ hW  _ (lv_sub hl [1, 3, 4, 5] rfl)
              · refine tf_iconst hx hb dX9_tooQuickHours_84 ?_
                refine lv_goto (tgt := 89) hx hb dX9_tooQuickHours_85 (by decide) ?_
                exact j_89 ⟨by omega, by omega⟩ ⟨by omega, by omega⟩ ⟨by omega, by omega⟩ ⟨by omega, by omega⟩ (1) ⟨by omega, by omega⟩ _ _ hW  _ (lv_sub hl [1, 3, 4, 5] rfl)
      have j_45 : (-2147483648) ≤ x1_4 ∧ x1_4 ≤ 2147483647 → 0 ≤ x2_4 ∧ x2_4 ≤ 3 → ∀ (y0_45 : Int), (-2147483648) ≤ y0_45 ∧ y0_45 ≤ 2147483647 → ∀ (H : Heap) (locs : List Loc), tf_n tf_kt g M_X9_tooQuickHours T s.heap T H locs → ∀ (ls : Array Slot), lv_has ls 6 [(0, .ref a0), (1, .int (Int32.ofInt x1_4)), (2, .int (Int32.ofInt x2_4))] → W p l e R s m args below meth c H locs 0 0 Q (F0 m 45 ls [.int (Int32.ofInt y0_45)]) := by
        intro hx1_45 hx2_45 y0_45 hy0_45 H locs hW  ls hl
        refine lv_istore_n (lv' := [(3, .int (Int32.ofInt y0_45)), (0, .ref a0), (1, .int (Int32.ofInt x1_4)), (2, .int (Int32.ofInt x2_4))]) hx hb dX9_tooQuickHours_45 rfl hl (by decide) rfl (fun ls hl => ?_)
        refine tf_iconst hx hb dX9_tooQuickHours_46 ?_
        refine lv_istore (lv' := [(4, .int (Int32.ofInt 0)), (3, .int (Int32.ofInt y0_45)), (0, .ref a0), (1, .int (Int32.ofInt x1_4)), (2, .int (Int32.ofInt x2_4))]) hx hb dX9_tooQuickHours_47 hl (by decide) rfl (fun ls hl => ?_)
        exact j_49 ((24 - 0 + 1 : Int)).toNat (x1_4) ⟨by omega, by omega⟩ ⟨by omega, by omega⟩ (y0_45) ⟨by omega, by omega⟩ (0) ⟨by omega, by omega⟩ (by omega) _ _ hW  _ (lv_sub hl [2, 3, 4, 1, 0] rfl)
      refine lv_iload_n hx hb dX9_tooQuickHours_4 rfl (lv_at hl 2 rfl) ?_
      refine tf_iconst hx hb dX9_tooQuickHours_5 ?_
      refine tf_icmp_ge (tgt := 103) hx hb ⟨by omega, by omega⟩ ⟨by decide, by decide⟩ dX9_tooQuickHours_6 (by decide) (fun h11 => ?_) (fun h11 => ?_)
      · refine lv_iload_n hx hb dX9_tooQuickHours_103 rfl (lv_at hl 1 rfl) ?_
        exact tf_reti (z := x1_4) hx hb hr hlocks hQ hW (show (-2147483648) ≤ (x1_4) ∧ (x1_4) ≤ 2147483647 by omega) dX9_tooQuickHours_104
      · refine lv_aload_n hx hb dX9_tooQuickHours_9 rfl (lv_at hl 0 rfl) ?_
        refine tf_get hx hb hts inlX9 hown hK (ci := 9) rfl hW ha0 rfl 0 rfl (by decide) (hts _ fl_X9_10) dX9_tooQuickHours_10 (fun v12 hv12 hsv12 => ?_)
        obtain ⟨ad13, rfl, had13⟩ := tf_v1 hv12
        refine tf_get hx hb hts inlX3 hown hK (ci := 3) rfl hW had13 rfl 6 rfl (by decide) (hts _ fl_X9_348) dX9_tooQuickHours_13 (fun v14 hv14 hsv14 => ?_)
        obtain ⟨ad15, rfl, had15⟩ := tf_v1 hv14
        refine lv_iload_n hx hb dX9_tooQuickHours_16 rfl (lv_at hl 2 rfl) ?_
        refine tf_iald (t0 := 0) hx hb hK hW had15 rfl rfl (by omega) (by omega) dX9_tooQuickHours_17 (fun v16 hv16 hsv16 => ?_)
        obtain ⟨z17, rfl, hz17⟩ := tf_v0 hv16
        refine tf_if_le (tgt := 43) hx hb ⟨by omega, by omega⟩ dX9_tooQuickHours_18 (by decide) (fun h18 => ?_) (fun h18 => ?_)
        · refine tf_bipush hx hb dX9_tooQuickHours_43 (by decide) ?_
          exact j_45 ⟨by omega, by omega⟩ ⟨by omega, by omega⟩ (10) ⟨by omega, by omega⟩ _ _ hW  _ (lv_sub hl [0, 1, 2] rfl)
        · refine lv_aload_n hx hb dX9_tooQuickHours_21 rfl (lv_at hl 0 rfl) ?_
          refine tf_get hx hb hts inlX9 hown hK (ci := 9) rfl hW ha0 rfl 2 rfl (by decide) (hts _ fl_X9_23) dX9_tooQuickHours_22 (fun v19 hv19 hsv19 => ?_)
          obtain ⟨ad20, rfl, had20⟩ := tf_v1 hv19
          refine lv_aload_n hx hb dX9_tooQuickHours_25 rfl (lv_at hl 0 rfl) ?_
          refine tf_get hx hb hts inlX9 hown hK (ci := 9) rfl hW ha0 rfl 0 rfl (by decide) (hts _ fl_X9_10) dX9_tooQuickHours_26 (fun v21 hv21 hsv21 => ?_)
          obtain rfl : v21 = .ref ad13 := Option.some.inj (hsv21.symm.trans hsv12)
          refine lv_aload_n hx hb dX9_tooQuickHours_29 rfl (lv_at hl 0 rfl) ?_
          refine tf_get hx hb hts inlX9 hown hK (ci := 9) rfl hW ha0 rfl 0 rfl (by decide) (hts _ fl_X9_10) dX9_tooQuickHours_30 (fun v22 hv22 hsv22 => ?_)
          obtain rfl : v22 = .ref ad13 := Option.some.inj (hsv22.symm.trans hsv12)
          refine tf_get hx hb hts inlX3 hown hK (ci := 3) rfl hW had13 rfl 0 rfl (by decide) (hts _ fl_X9_79) dX9_tooQuickHours_33 (fun v23 hv23 hsv23 => ?_)
          obtain ⟨ad24, rfl, had24⟩ := tf_v1 hv23
          refine lv_iload_n hx hb dX9_tooQuickHours_36 rfl (lv_at hl 2 rfl) ?_
          refine tf_calli (va_runV (As := [.ref ad13, .ref ad24, .int (Int32.ofInt x2_4)]) (rest := []) ⟨hx, hb, hml, hown, hts⟩ (c_X7_leastPaceOverLines l g T ad20 had20 ad13 had13 ad24 had24 (x2_4) ⟨by omega, by omega⟩ hE) (cwV 3 hts gv_X9_351 rfl rfl rfl hd_X7_leastPaceOverLines ⟨Nat.le_trans (by decide) hR1, Nat.le_trans (by decide) hR2⟩) (tf_preV hk hW had20 (ci := 7) rfl rfl trivial) rfl rfl hl.1 rfl (lv_room (Nat.le_of_ble_eq_true rfl)) dX9_tooQuickHours_37 ⟨Nat.zero_le _, Nat.zero_le _⟩) hW (by decide) (fun z25 H25 locs25 hW hF25 hp25 => ?_)
          have hs26 := tf_keepF hF25 ha0 rfl rfl (by decide) hsv12
          obtain ⟨hp25_0, hp25_1⟩ := hp25
          refine lv_goto (tgt := 45) hx hb dX9_tooQuickHours_40 (by decide) ?_
          exact j_45 ⟨by omega, by omega⟩ ⟨by omega, by omega⟩ (z25) ⟨by omega, by omega⟩ _ _ hW  _ (lv_sub hl [0, 1, 2] rfl)
  refine tf_enter (As := [.ref a0]) hargs (Nat.le_of_ble_eq_true rfl) (fun ls hl => ?_)
  have hl : lv_has ls 6 [(0, .ref a0)] := hl
  refine tf_iconst hx hb dX9_tooQuickHours_0 ?_
  refine lv_istore_n (lv' := [(1, .int (Int32.ofInt 0)), (0, .ref a0)]) hx hb dX9_tooQuickHours_1 rfl hl (by decide) rfl (fun ls hl => ?_)
  refine tf_iconst hx hb dX9_tooQuickHours_2 ?_
  refine lv_istore_n (lv' := [(2, .int (Int32.ofInt 0)), (1, .int (Int32.ofInt 0)), (0, .ref a0)]) hx hb dX9_tooQuickHours_3 rfl hl (by decide) rfl (fun ls hl => ?_)
  exact j_4 ((4 - 0 + 1 : Int)).toNat (0) ⟨by omega, by omega⟩ (0) ⟨by omega, by omega⟩ (by omega) _ _ hW  _ (lv_sub hl [2, 1, 0] rfl)

abbrev M_X9_day : List (Nat × Nat) := [(0, 0), (4, 0), (11, 0), (12, 0), (23, 2), (23, 6), (23, 10), (24, 5), (26, 11), (26, 13)]
set_option maxHeartbeats 4000000 in
set_option maxRecDepth 100000 in
theorem c_X9_day (l : Launch) (g : tf_G) (T : tf_T) (a0 : Nat) (ha0 : T a0 = some (26, 0)) (x1 : Int) (hp1 : (-2147483648) ≤ x1 ∧ x1 ≤ 2147483647) (hE : tf_E g T) : Met l yX9_day (cd_X9_day :: wsL_law) ({ frames := 7, cells := 0, slots := 0, locals := 184 }) (tf_P g T [.ref a0, .int (Int32.ofInt x1)] (fun H => True)) (tf_Qi g M_X9_day T (fun z _ _ => (-2147483648) ≤ z ∧ z ≤ 2147483647)) 0 0 (fun q => tf_B g ≤ q) := by
  refine Met.ofW (cc := cX9_day) (maxL := 5) (ret := (some .int)) (by decide) rfl ?_
  intro p e s m args below meth c s₁ B hml hv
  obtain ⟨hargs, hk, hW0, hB, hpre⟩ := hv
  have hx := B.exec
  have hb := B.bytes
  have hr := B.returns
  have hts : ∀ w ∈ wsL_law, w.before args s = true := fun w h => atoms_spec (ws := cd_X9_day :: wsL_law) B.pre w (List.mem_cons_of_mem _ h)
  have hown : s.vm.findClass RX9 = some m.cls := findClass_of_methodNamed B.named
  have hlocks := B.notSynchronized
  have hK := hk.1
  have hW := tf_n.start (M := M_X9_day) hW0 hB
  obtain ⟨Q, hQ⟩ : ∃ q, q = MQ below (tf_Qi g M_X9_day T (fun z _ _ => (-2147483648) ≤ z ∧ z ≤ 2147483647)) args s 0 0 (fun q => tf_B g ≤ q) := ⟨_, rfl⟩
  rw [← hQ]
  obtain ⟨R, hR⟩ : ∃ q, q = (headSpec (cd_X9_day :: wsL_law) ({ frames := 7, cells := 0, slots := 0, locals := 184 })).room := ⟨_, rfl⟩
  rw [← hR]
  have hR1 : 7 ≤ R.frames := by rw [hR]; exact Nat.le_refl _
  have hR2 : 184 ≤ R.locals := by rw [hR]; exact Nat.le_refl _
  have hR3 : 0 ≤ R.cells := by rw [hR]; exact Nat.le_refl _
  have hR4 : 0 ≤ R.slots := by rw [hR]; exact Nat.le_refl _
  have hin := (name_of_methodNamed B.named B.method).1
  clear hR B
  have j_41 : ∀ (n_41 : Nat), ∀ (x2_41 : Int), 1 ≤ x2_41 ∧ x2_41 ≤ 2147483647 → ∀ (x3_41 : Int), 0 ≤ x3_41 ∧ x3_41 ≤ 1000002 → ∀ (x4_41 : Int), 0 ≤ x4_41 ∧ x4_41 ≤ 24 → (24 - x4_41 + 1 ≤ (n_41 : Int)) → ∀ (H : Heap) (locs : List Loc), tf_n tf_kt g M_X9_day T s.heap T H locs → ∀ (ls : Array Slot), lv_has ls 5 [(0, .ref a0), (2, .int (Int32.ofInt x2_41)), (3, .int (Int32.ofInt x3_41)), (4, .int (Int32.ofInt x4_41))] → W p l e R s m args below meth c H locs 0 0 Q (F0 m 41 ls []) := by
    intro n_41
    induction n_41 with
    | zero =>
      intro x2_41 hx2_41 x3_41 hx3_41 x4_41 hx4_41 hm_41
      exfalso; omega
    | succ n_41 ih_41 =>
      intro x2_41 hx2_41 x3_41 hx3_41 x4_41 hx4_41 hm_41 H locs hW  ls hl
      refine lv_iload hx hb dX9_day_41 (lv_at hl 3 rfl) ?_
      refine tf_bipush hx hb dX9_day_43 (by decide) ?_
      refine tf_icmp_ge (tgt := 85) hx hb ⟨by omega, by omega⟩ ⟨by decide, by decide⟩ dX9_day_45 (by decide) (fun h1 => ?_) (fun h1 => ?_)
      · refine lv_aload_n hx hb dX9_day_85 rfl (lv_at hl 0 rfl) ?_
        refine tf_iconst hx hb dX9_day_86 ?_
        refine tf_put hx hb hts inlX9 tyX9 tyX9_ok nmX9 hown hK (ci := 9) rfl hW ha0 rfl rfl 11 rfl (by decide) (by decide) (hts _ fl_X9_61) rfl (tf_u0 (by omega) (by omega)) (tf_narZ (by omega)) (tf_fitZ (by omega)) dX9_day_87 (fun H2 locs2 hW hs2 ht2 hq2 => ?_)
        refine lv_aload_n hx hb dX9_day_90 rfl (lv_at hl 0 rfl) ?_
        refine lv_aload_n hx hb dX9_day_91 rfl (lv_at hl 0 rfl) ?_
        refine tf_calli (va_runV (As := []) (rest := [.ref a0]) ⟨hx, hb, hml, hown, hts⟩ (c_X9_tooQuickHours l g T a0 ha0 hE) (cwV 0 hts gv_X9_345 rfl rfl rfl hd_X9_tooQuickHours ⟨Nat.le_trans (by decide) hR1, Nat.le_trans (by decide) hR2⟩) (tf_preV hk hW ha0 (ci := 9) rfl rfl trivial) rfl rfl hl.1 rfl (lv_room (Nat.le_of_ble_eq_true rfl)) dX9_day_92 ⟨Nat.zero_le _, Nat.zero_le _⟩) hW (by decide) (fun z3 H3 locs3 hW hF3 hp3 => ?_)
        obtain ⟨hp3_0, hp3_1⟩ := hp3
        refine tf_calli (va_runV (As := [.int (Int32.ofInt z3)]) (rest := []) ⟨hx, hb, hml, hown, hts⟩ (c_X9_accept l g T a0 ha0 (z3) ⟨by omega, by omega⟩) (cwV 1 hts gv_X9_99 rfl rfl rfl hd_X9_accept ⟨Nat.le_trans (by decide) hR1, Nat.le_trans (by decide) hR2⟩) (tf_preV hk hW ha0 (ci := 9) rfl rfl trivial) rfl rfl hl.1 rfl (lv_room (Nat.le_of_ble_eq_true rfl)) dX9_day_95 ⟨Nat.zero_le _, Nat.zero_le _⟩) hW (by decide) (fun z4 H4 locs4 hW hF4 hp4 => ?_)
        obtain ⟨hp4_0, hp4_1, hp4_2⟩ := hp4
        exact tf_reti (z := z4) hx hb hr hlocks hQ hW (show (-2147483648) ≤ (z4) ∧ (z4) ≤ 2147483647 by omega) dX9_day_98
      · refine lv_iload_n hx hb dX9_day_48 rfl (lv_at hl 2 rfl) ?_
        refine tf_sipush hx hb dX9_day_49 (by decide) ?_
        refine tf_imul hx hb dX9_day_52 ?_
        refine tf_sipush hx hb dX9_day_53 (by decide) ?_
        refine tf_iadd hx hb dX9_day_56 ?_
        refine tf_ldcw (z := 1000003) hx hb hown (hts _ kc_X9_341) (by decide) dX9_day_57 ?_
        refine tf_irem hx hb ⟨by omega, by omega⟩ (by omega) ⟨by decide, by decide⟩ (by decide) dX9_day_60 ?_
        refine tf_name (fun z5 ez5 => ?_)
        refine lv_istore_n (lv' := [(3, .int (Int32.ofInt z5)), (0, .ref a0), (2, .int (Int32.ofInt x2_41)), (4, .int (Int32.ofInt x4_41))]) hx hb dX9_day_61 rfl hl (by decide) rfl (fun ls hl => ?_)
        refine lv_aload_n hx hb dX9_day_62 rfl (lv_at hl 1 rfl) ?_
        refine tf_get hx hb hts inlX9 hown hK (ci := 9) rfl hW ha0 rfl 10 rfl (by decide) (hts _ fl_X9_58) dX9_day_63 (fun v6 hv6 hsv6 => ?_)
        obtain ⟨ad7, rfl, had7⟩ := tf_v1 hv6
        refine lv_iload hx hb dX9_day_66 (lv_at hl 3 rfl) ?_
        refine lv_aload_n hx hb dX9_day_68 rfl (lv_at hl 1 rfl) ?_
        refine tf_get hx hb hts inlX9 hown hK (ci := 9) rfl hW ha0 rfl 0 rfl (by decide) (hts _ fl_X9_10) dX9_day_69 (fun v8 hv8 hsv8 => ?_)
        obtain ⟨ad9, rfl, had9⟩ := tf_v1 hv8
        refine lv_iload_n hx hb dX9_day_72 rfl (lv_at hl 0 rfl) ?_
        refine lv_iload_n hx hb dX9_day_73 rfl (lv_at hl 2 rfl) ?_
        refine tf_irem_pos hx hb ⟨by omega, by omega⟩ (by omega) ⟨by omega, by omega⟩ (by omega) dX9_day_74 (fun z10 hz10 => ?_)
        refine tf_calli (va_runV (As := [.int (Int32.ofInt z10)]) (rest := [.int (Int32.ofInt x4_41), .ref ad7]) ⟨hx, hb, hml, hown, hts⟩ (c_X3_hourOf l g T ad9 had9 (z10) ⟨by omega, by omega⟩) (cwV 1 hts gv_X9_342 rfl rfl rfl hd_X3_hourOf ⟨Nat.le_trans (by decide) hR1, Nat.le_trans (by decide) hR2⟩) (tf_preV hk hW had9 (ci := 3) rfl rfl trivial) rfl rfl hl.1 rfl (lv_room (Nat.le_of_ble_eq_true rfl)) dX9_day_75 ⟨Nat.zero_le _, Nat.zero_le _⟩) hW (by decide) (fun z11 H11 locs11 hW hF11 hp11 => ?_)
        obtain ⟨hp11_0, hp11_1⟩ := hp11
        refine tf_iast (t0 := 0) hx hb hK hW had7 rfl rfl (by omega) (by omega) (by decide) (tf_u0 (by omega) (by omega)) dX9_day_78 (fun H12 locs12 hW hs12 ht12 hq12 => ?_)
        refine lv_iinc (v := Int32.ofInt ((x4_41 + 1))) (lv' := [(4, .int (Int32.ofInt ((x4_41 + 1)))), (3, .int (Int32.ofInt z5)), (0, .ref a0), (2, .int (Int32.ofInt x2_41))]) hx hb dX9_day_79 hl (k := 3) rfl (Int32.ofInt_add _ _).symm (by decide) rfl (fun ls hl => ?_)
        refine lv_goto (tgt := 41) hx hb dX9_day_82 (by decide) ?_
        exact ih_41 (x2_41) ⟨by omega, by omega⟩ (z5) ⟨by omega, by omega⟩ ((x4_41 + 1)) ⟨by omega, by omega⟩ (by omega) _ _ hW  _ (lv_sub hl [2, 3, 1, 0] rfl)
  refine tf_enter (As := [.ref a0, .int (Int32.ofInt x1)]) hargs (Nat.le_of_ble_eq_true rfl) (fun ls hl => ?_)
  have hl : lv_has ls 5 [(0, .ref a0), (1, .int (Int32.ofInt x1))] := hl
  refine lv_iload_n hx hb dX9_day_0 rfl (lv_at hl 1 rfl) ?_
  refine tf_iconst hx hb dX9_day_1 ?_
  refine tf_ldcw (z := 1000000) hx hb hown (hts _ kc_X9_340) (by decide) dX9_day_2 ?_
  refine tf_calli (va_runS (As := [.int (Int32.ofInt x1), .int (Int32.ofInt 0), .int (Int32.ofInt 1000000)]) (rest := []) ⟨hx, hb, hml, hown, hts⟩ (c_X9_isWithin l g T (x1) ⟨by omega, by omega⟩ (0) ⟨by omega, by omega⟩ (1000000) ⟨by omega, by omega⟩) ⟨callB_of 3 hts (gw_ws cm_X9_isWithin) rfl rfl rfl (hts _ (tw1 (i := 2) rfl)) (hts _ (tw9 (i := 19) rfl)) hd_X9_isWithin.2 ⟨Nat.le_trans (by decide) hR1, Nat.le_trans (by decide) hR2⟩, hts _ (tw8 (i := 17) rfl)⟩ (tf_preS hk hW trivial) rfl rfl hl.1 rfl (lv_room (Nat.le_of_ble_eq_true rfl)) dX9_day_5 ⟨Nat.zero_le _, Nat.zero_le _⟩) hW (by decide) (fun z13 H13 locs13 hW hF13 hp13 => ?_)
  rcases hp13 with ⟨rfl, h14, h15⟩ | ⟨rfl, h16⟩
  · refine tf_if_ne (tgt := 17) hx hb ⟨by decide, by decide⟩ dX9_day_8 (by decide) (fun h17 => ?_) (fun h17 => ?_)
    · refine lv_aload_n hx hb dX9_day_17 rfl (lv_at hl 0 rfl) ?_
      refine tf_get hx hb hts inlX9 hown hK (ci := 9) rfl hW ha0 rfl 0 rfl (by decide) (hts _ fl_X9_10) dX9_day_18 (fun v18 hv18 hsv18 => ?_)
      obtain ⟨ad19, rfl, had19⟩ := tf_v1 hv18
      refine tf_calli (va_runV (As := []) (rest := []) ⟨hx, hb, hml, hown, hts⟩ (c_X3_allHours l g T ad19 had19) (cwV 0 hts gv_X9_160 rfl rfl rfl hd_X3_allHours ⟨Nat.le_trans (by decide) hR1, Nat.le_trans (by decide) hR2⟩) (tf_preV hk hW had19 (ci := 3) rfl rfl trivial) rfl rfl hl.1 rfl (lv_room (Nat.le_of_ble_eq_true rfl)) dX9_day_21 ⟨Nat.zero_le _, Nat.zero_le _⟩) hW (by decide) (fun z20 H20 locs20 hW hF20 hp20 => ?_)
      obtain ⟨hp20_0, hp20_1⟩ := hp20
      refine lv_istore_n (lv' := [(2, .int (Int32.ofInt z20)), (0, .ref a0), (1, .int (Int32.ofInt x1))]) hx hb dX9_day_24 rfl hl (by decide) rfl (fun ls hl => ?_)
      refine lv_iload_n hx hb dX9_day_25 rfl (lv_at hl 0 rfl) ?_
      refine tf_if_gt (tgt := 36) hx hb ⟨by omega, by omega⟩ dX9_day_26 (by decide) (fun h21 => ?_) (fun h21 => ?_)
      · refine lv_iload_n hx hb dX9_day_36 rfl (lv_at hl 2 rfl) ?_
        refine lv_istore_n (lv' := [(3, .int (Int32.ofInt x1)), (2, .int (Int32.ofInt z20)), (0, .ref a0), (1, .int (Int32.ofInt x1))]) hx hb dX9_day_37 rfl hl (by decide) rfl (fun ls hl => ?_)
        refine tf_iconst hx hb dX9_day_38 ?_
        refine lv_istore (lv' := [(4, .int (Int32.ofInt 0)), (3, .int (Int32.ofInt x1)), (2, .int (Int32.ofInt z20)), (0, .ref a0), (1, .int (Int32.ofInt x1))]) hx hb dX9_day_39 hl (by decide) rfl (fun ls hl => ?_)
        exact j_41 ((24 - 0 + 1 : Int)).toNat (z20) ⟨by omega, by omega⟩ (x1) ⟨by omega, by omega⟩ (0) ⟨by omega, by omega⟩ (by omega) _ _ hW  _ (lv_sub hl [3, 2, 1, 0] rfl)
      · refine lv_aload_n hx hb dX9_day_29 rfl (lv_at hl 1 rfl) ?_
        refine tf_bipush hx hb dX9_day_30 (by decide) ?_
        refine tf_calli (va_runV (As := [.int (Int32.ofInt ((-3)))]) (rest := []) ⟨hx, hb, hml, hown, hts⟩ (c_X9_refuse l g T a0 ha0 ((-3)) ⟨by omega, by omega⟩) (cwV 1 hts gv_X9_75 rfl rfl rfl hd_X9_refuse ⟨Nat.le_trans (by decide) hR1, Nat.le_trans (by decide) hR2⟩) (tf_preV hk hW ha0 (ci := 9) rfl rfl trivial) rfl rfl hl.1 rfl (lv_room (Nat.le_of_ble_eq_true rfl)) dX9_day_32 ⟨Nat.zero_le _, Nat.zero_le _⟩) hW (by decide) (fun z22 H22 locs22 hW hF22 hp22 => ?_)
        obtain ⟨hp22_0, hp22_1, hp22_2⟩ := hp22
        exact tf_reti (z := z22) hx hb hr hlocks hQ hW (show (-2147483648) ≤ (z22) ∧ (z22) ≤ 2147483647 by omega) dX9_day_35
    · exfalso; omega
  · refine tf_if_ne (tgt := 17) hx hb ⟨by decide, by decide⟩ dX9_day_8 (by decide) (fun h23 => ?_) (fun h23 => ?_)
    · exfalso; omega
    · refine lv_aload_n hx hb dX9_day_11 rfl (lv_at hl 0 rfl) ?_
      refine tf_iconst hx hb dX9_day_12 ?_
      refine tf_calli (va_runV (As := [.int (Int32.ofInt ((-1)))]) (rest := []) ⟨hx, hb, hml, hown, hts⟩ (c_X9_refuse l g T a0 ha0 ((-1)) ⟨by omega, by omega⟩) (cwV 1 hts gv_X9_75 rfl rfl rfl hd_X9_refuse ⟨Nat.le_trans (by decide) hR1, Nat.le_trans (by decide) hR2⟩) (tf_preV hk hW ha0 (ci := 9) rfl rfl trivial) rfl rfl hl.1 rfl (lv_room (Nat.le_of_ble_eq_true rfl)) dX9_day_13 ⟨Nat.zero_le _, Nat.zero_le _⟩) hW (by decide) (fun z24 H24 locs24 hW hF24 hp24 => ?_)
      obtain ⟨hp24_0, hp24_1, hp24_2⟩ := hp24
      exact tf_reti (z := z24) hx hb hr hlocks hQ hW (show (-2147483648) ≤ (z24) ∧ (z24) ≤ 2147483647 by omega) dX9_day_16

abbrev M_X9_drawn : List (Nat × Nat) := []
set_option maxHeartbeats 4000000 in
set_option maxRecDepth 100000 in
theorem c_X9_drawn (l : Launch) (g : tf_G) (T : tf_T) (a0 : Nat) (ha0 : T a0 = some (26, 0)) (x1 : Int) (hp1 : (-2147483648) ≤ x1 ∧ x1 ≤ 2147483647) (x2 : Int) (hp2 : (-2147483648) ≤ x2 ∧ x2 ≤ 2147483647) : Met l yX9_drawn (cd_X9_drawn :: wsL_law) ({ frames := 2, cells := 0, slots := 0, locals := 46 }) (tf_P g T [.ref a0, .int (Int32.ofInt x1), .int (Int32.ofInt x2)] (fun H => True)) (tf_Qi g M_X9_drawn T (fun z _ _ => (-2147483648) ≤ z ∧ z ≤ 2147483647)) 0 0 (fun q => tf_B g ≤ q) := by
  refine Met.ofW (cc := cX9_drawn) (maxL := 3) (ret := (some .int)) (by decide) rfl ?_
  intro p e s m args below meth c s₁ B hml hv
  obtain ⟨hargs, hk, hW0, hB, hpre⟩ := hv
  have hx := B.exec
  have hb := B.bytes
  have hr := B.returns
  have hts : ∀ w ∈ wsL_law, w.before args s = true := fun w h => atoms_spec (ws := cd_X9_drawn :: wsL_law) B.pre w (List.mem_cons_of_mem _ h)
  have hown : s.vm.findClass RX9 = some m.cls := findClass_of_methodNamed B.named
  have hlocks := B.notSynchronized
  have hK := hk.1
  have hW := tf_n.start (M := M_X9_drawn) hW0 hB
  obtain ⟨Q, hQ⟩ : ∃ q, q = MQ below (tf_Qi g M_X9_drawn T (fun z _ _ => (-2147483648) ≤ z ∧ z ≤ 2147483647)) args s 0 0 (fun q => tf_B g ≤ q) := ⟨_, rfl⟩
  rw [← hQ]
  obtain ⟨R, hR⟩ : ∃ q, q = (headSpec (cd_X9_drawn :: wsL_law) ({ frames := 2, cells := 0, slots := 0, locals := 46 })).room := ⟨_, rfl⟩
  rw [← hR]
  have hR1 : 2 ≤ R.frames := by rw [hR]; exact Nat.le_refl _
  have hR2 : 46 ≤ R.locals := by rw [hR]; exact Nat.le_refl _
  have hR3 : 0 ≤ R.cells := by rw [hR]; exact Nat.le_refl _
  have hR4 : 0 ≤ R.slots := by rw [hR]; exact Nat.le_refl _
  have hin := (name_of_methodNamed B.named B.method).1
  clear hR B
  refine tf_enter (As := [.ref a0, .int (Int32.ofInt x1), .int (Int32.ofInt x2)]) hargs (Nat.le_of_ble_eq_true rfl) (fun ls hl => ?_)
  have hl : lv_has ls 3 [(0, .ref a0), (1, .int (Int32.ofInt x1)), (2, .int (Int32.ofInt x2))] := hl
  refine lv_aload_n hx hb dX9_drawn_0 rfl (lv_at hl 0 rfl) ?_
  refine tf_get hx hb hts inlX9 hown hK (ci := 9) rfl hW ha0 rfl 11 rfl (by decide) (hts _ fl_X9_61) dX9_drawn_1 (fun v1 hv1 hsv1 => ?_)
  obtain ⟨z2, rfl, hz2⟩ := tf_v0 hv1
  refine tf_if_eq (tgt := 26) hx hb ⟨by omega, by omega⟩ dX9_drawn_4 (by decide) (fun h3 => ?_) (fun h3 => ?_)
  · refine tf_iconst hx hb dX9_drawn_26 ?_
    exact tf_reti (z := (-1)) hx hb hr hlocks hQ hW (show (-2147483648) ≤ ((-1)) ∧ ((-1)) ≤ 2147483647 by omega) dX9_drawn_27
  · refine lv_iload_n hx hb dX9_drawn_7 rfl (lv_at hl 1 rfl) ?_
    refine tf_iconst hx hb dX9_drawn_8 ?_
    refine tf_bipush hx hb dX9_drawn_9 (by decide) ?_
    refine tf_calli (va_runS (As := [.int (Int32.ofInt x1), .int (Int32.ofInt 0), .int (Int32.ofInt 23)]) (rest := []) ⟨hx, hb, hml, hown, hts⟩ (c_X9_isWithin l g T (x1) ⟨by omega, by omega⟩ (0) ⟨by omega, by omega⟩ (23) ⟨by omega, by omega⟩) ⟨callB_of 3 hts (gw_ws cm_X9_isWithin) rfl rfl rfl (hts _ (tw1 (i := 2) rfl)) (hts _ (tw9 (i := 19) rfl)) hd_X9_isWithin.2 ⟨Nat.le_trans (by decide) hR1, Nat.le_trans (by decide) hR2⟩, hts _ (tw8 (i := 17) rfl)⟩ (tf_preS hk hW trivial) rfl rfl hl.1 rfl (lv_room (Nat.le_of_ble_eq_true rfl)) dX9_drawn_11 ⟨Nat.zero_le _, Nat.zero_le _⟩) hW (by decide) (fun z4 H4 locs4 hW hF4 hp4 => ?_)
    rcases hp4 with ⟨rfl, h5, h6⟩ | ⟨rfl, h7⟩
    · refine tf_if_eq (tgt := 26) hx hb ⟨by decide, by decide⟩ dX9_drawn_14 (by decide) (fun h8 => ?_) (fun h8 => ?_)
      · exfalso; omega
      · refine lv_iload_n hx hb dX9_drawn_17 rfl (lv_at hl 2 rfl) ?_
        refine tf_iconst hx hb dX9_drawn_18 ?_
        refine tf_iconst hx hb dX9_drawn_19 ?_
        refine tf_calli (va_runS (As := [.int (Int32.ofInt x2), .int (Int32.ofInt 0), .int (Int32.ofInt 1)]) (rest := []) ⟨hx, hb, hml, hown, hts⟩ (c_X9_isWithin l g T (x2) ⟨by omega, by omega⟩ (0) ⟨by omega, by omega⟩ (1) ⟨by omega, by omega⟩) ⟨callB_of 3 hts (gw_ws cm_X9_isWithin) rfl rfl rfl (hts _ (tw1 (i := 2) rfl)) (hts _ (tw9 (i := 19) rfl)) hd_X9_isWithin.2 ⟨Nat.le_trans (by decide) hR1, Nat.le_trans (by decide) hR2⟩, hts _ (tw8 (i := 17) rfl)⟩ (tf_preS hk hW trivial) rfl rfl hl.1 rfl (lv_room (Nat.le_of_ble_eq_true rfl)) dX9_drawn_20 ⟨Nat.zero_le _, Nat.zero_le _⟩) hW (by decide) (fun z9 H9 locs9 hW hF9 hp9 => ?_)
        rcases hp9 with ⟨rfl, h10, h11⟩ | ⟨rfl, h12⟩
        · refine tf_if_ne (tgt := 28) hx hb ⟨by decide, by decide⟩ dX9_drawn_23 (by decide) (fun h13 => ?_) (fun h13 => ?_)
          · refine lv_iload_n hx hb dX9_drawn_28 rfl (lv_at hl 2 rfl) ?_
            refine tf_if_ne (tgt := 44) hx hb ⟨by omega, by omega⟩ dX9_drawn_29 (by decide) (fun h14 => ?_) (fun h14 => ?_)
            · refine lv_aload_n hx hb dX9_drawn_44 rfl (lv_at hl 0 rfl) ?_
              refine tf_get hx hb hts inlX9 hown hK (ci := 9) rfl hW ha0 rfl 10 rfl (by decide) (hts _ fl_X9_58) dX9_drawn_45 (fun v15 hv15 hsv15 => ?_)
              obtain ⟨ad16, rfl, had16⟩ := tf_v1 hv15
              refine lv_iload_n hx hb dX9_drawn_48 rfl (lv_at hl 1 rfl) ?_
              refine tf_iald (t0 := 0) hx hb hK hW had16 rfl rfl (by omega) (by omega) dX9_drawn_49 (fun v17 hv17 hsv17 => ?_)
              obtain ⟨z18, rfl, hz18⟩ := tf_v0 hv17
              refine tf_bipush hx hb dX9_drawn_50 (by decide) ?_
              refine tf_irem_any hx hb (by omega) ⟨by decide, by decide⟩ dX9_drawn_52 (fun z19 hz19 => ?_)
              exact tf_reti (z := z19) hx hb hr hlocks hQ hW (show (-2147483648) ≤ (z19) ∧ (z19) ≤ 2147483647 by omega) dX9_drawn_53
            · refine lv_aload_n hx hb dX9_drawn_32 rfl (lv_at hl 0 rfl) ?_
              refine tf_get hx hb hts inlX9 hown hK (ci := 9) rfl hW ha0 rfl 10 rfl (by decide) (hts _ fl_X9_58) dX9_drawn_33 (fun v20 hv20 hsv20 => ?_)
              obtain ⟨ad21, rfl, had21⟩ := tf_v1 hv20
              refine lv_iload_n hx hb dX9_drawn_36 rfl (lv_at hl 1 rfl) ?_
              refine tf_iald (t0 := 0) hx hb hK hW had21 rfl rfl (by omega) (by omega) dX9_drawn_37 (fun v22 hv22 hsv22 => ?_)
              obtain ⟨z23, rfl, hz23⟩ := tf_v0 hv22
              refine tf_bipush hx hb dX9_drawn_38 (by decide) ?_
              refine tf_idiv_c hx hb ⟨by omega, by omega⟩ ⟨by decide, by decide⟩ (by decide) dX9_drawn_40 (fun z24 hz24 => ?_)
              refine lv_goto (tgt := 53) hx hb dX9_drawn_41 (by decide) ?_
              exact tf_reti (z := z24) hx hb hr hlocks hQ hW (show (-2147483648) ≤ (z24) ∧ (z24) ≤ 2147483647 by omega) dX9_drawn_53
          · exfalso; omega
        · refine tf_if_ne (tgt := 28) hx hb ⟨by decide, by decide⟩ dX9_drawn_23 (by decide) (fun h25 => ?_) (fun h25 => ?_)
          · exfalso; omega
          · refine tf_iconst hx hb dX9_drawn_26 ?_
            exact tf_reti (z := (-1)) hx hb hr hlocks hQ hW (show (-2147483648) ≤ ((-1)) ∧ ((-1)) ≤ 2147483647 by omega) dX9_drawn_27
    · refine tf_if_eq (tgt := 26) hx hb ⟨by decide, by decide⟩ dX9_drawn_14 (by decide) (fun h26 => ?_) (fun h26 => ?_)
      · refine tf_iconst hx hb dX9_drawn_26 ?_
        exact tf_reti (z := (-1)) hx hb hr hlocks hQ hW (show (-2147483648) ≤ ((-1)) ∧ ((-1)) ≤ 2147483647 by omega) dX9_drawn_27
      · exfalso; omega

abbrev M_X9_back : List (Nat × Nat) := [(1, 0), (2, 0), (5, 0), (6, 0), (7, 0), (8, 0), (9, 0), (12, 0), (13, 0), (20, 8), (20, 9), (20, 11), (22, 4), (23, 2), (23, 6), (23, 10), (25, 4), (26, 13)]
set_option maxHeartbeats 4000000 in
set_option maxRecDepth 100000 in
theorem c_X9_back (l : Launch) (g : tf_G) (T : tf_T) (a0 : Nat) (ha0 : T a0 = some (26, 0)) (x1 : Int) (hp1 : (-2147483648) ≤ x1 ∧ x1 ≤ 2147483647) : Met l yX9_back (cd_X9_back :: wsL_law) ({ frames := 3, cells := 0, slots := 0, locals := 123 }) (tf_P g T [.ref a0, .int (Int32.ofInt x1)] (fun H => True)) (tf_Qi g M_X9_back T (fun z _ _ => (-2147483648) ≤ z ∧ z ≤ 2147483647)) 0 0 (fun q => tf_B g ≤ q) := by
  refine Met.ofW (cc := cX9_back) (maxL := 3) (ret := (some .int)) (by decide) rfl ?_
  intro p e s m args below meth c s₁ B hml hv
  obtain ⟨hargs, hk, hW0, hB, hpre⟩ := hv
  have hx := B.exec
  have hb := B.bytes
  have hr := B.returns
  have hts : ∀ w ∈ wsL_law, w.before args s = true := fun w h => atoms_spec (ws := cd_X9_back :: wsL_law) B.pre w (List.mem_cons_of_mem _ h)
  have hown : s.vm.findClass RX9 = some m.cls := findClass_of_methodNamed B.named
  have hlocks := B.notSynchronized
  have hK := hk.1
  have hW := tf_n.start (M := M_X9_back) hW0 hB
  obtain ⟨Q, hQ⟩ : ∃ q, q = MQ below (tf_Qi g M_X9_back T (fun z _ _ => (-2147483648) ≤ z ∧ z ≤ 2147483647)) args s 0 0 (fun q => tf_B g ≤ q) := ⟨_, rfl⟩
  rw [← hQ]
  obtain ⟨R, hR⟩ : ∃ q, q = (headSpec (cd_X9_back :: wsL_law) ({ frames := 3, cells := 0, slots := 0, locals := 123 })).room := ⟨_, rfl⟩
  rw [← hR]
  have hR1 : 3 ≤ R.frames := by rw [hR]; exact Nat.le_refl _
  have hR2 : 123 ≤ R.locals := by rw [hR]; exact Nat.le_refl _
  have hR3 : 0 ≤ R.cells := by rw [hR]; exact Nat.le_refl _
  have hR4 : 0 ≤ R.slots := by rw [hR]; exact Nat.le_refl _
  have hin := (name_of_methodNamed B.named B.method).1
  clear hR B
  refine tf_enter (As := [.ref a0, .int (Int32.ofInt x1)]) hargs (Nat.le_of_ble_eq_true rfl) (fun ls hl => ?_)
  have hl : lv_has ls 3 [(0, .ref a0), (1, .int (Int32.ofInt x1))] := hl
  refine lv_iload_n hx hb dX9_back_0 rfl (lv_at hl 1 rfl) ?_
  refine tf_iconst hx hb dX9_back_1 ?_
  refine tf_iconst hx hb dX9_back_2 ?_
  refine tf_calli (va_runS (As := [.int (Int32.ofInt x1), .int (Int32.ofInt 0), .int (Int32.ofInt 1)]) (rest := []) ⟨hx, hb, hml, hown, hts⟩ (c_X9_isWithin l g T (x1) ⟨by omega, by omega⟩ (0) ⟨by omega, by omega⟩ (1) ⟨by omega, by omega⟩) ⟨callB_of 3 hts (gw_ws cm_X9_isWithin) rfl rfl rfl (hts _ (tw1 (i := 2) rfl)) (hts _ (tw9 (i := 19) rfl)) hd_X9_isWithin.2 ⟨Nat.le_trans (by decide) hR1, Nat.le_trans (by decide) hR2⟩, hts _ (tw8 (i := 17) rfl)⟩ (tf_preS hk hW trivial) rfl rfl hl.1 rfl (lv_room (Nat.le_of_ble_eq_true rfl)) dX9_back_3 ⟨Nat.zero_le _, Nat.zero_le _⟩) hW (by decide) (fun z1 H1 locs1 hW hF1 hp1 => ?_)
  rcases hp1 with ⟨rfl, h2, h3⟩ | ⟨rfl, h4⟩
  · refine tf_if_ne (tgt := 15) hx hb ⟨by decide, by decide⟩ dX9_back_6 (by decide) (fun h5 => ?_) (fun h5 => ?_)
    · refine lv_aload_n hx hb dX9_back_15 rfl (lv_at hl 0 rfl) ?_
      refine tf_get hx hb hts inlX9 hown hK (ci := 9) rfl hW ha0 rfl 1 rfl (by decide) (hts _ fl_X9_16) dX9_back_16 (fun v6 hv6 hsv6 => ?_)
      obtain ⟨ad7, rfl, had7⟩ := tf_v1 hv6
      refine lv_iload_n hx hb dX9_back_19 rfl (lv_at hl 1 rfl) ?_
      refine tf_aald (t0 := 5) hx hb hK hW had7 rfl rfl rfl (by omega) (by omega) dX9_back_20 (fun v8 hv8 hsv8 => ?_)
      rcases tf_v2 hv8 with rfl | ⟨ad9, rfl, had9⟩
      · refine tf_Nastore_n (lv' := [(2, .null), (0, .ref a0), (1, .int (Int32.ofInt x1))]) hx hb dX9_back_21 rfl hl (by decide) rfl (fun ls hl => ?_)
        refine tf_aloadN hx hb dX9_back_22 (lv_at hl 0 rfl) ?_
        refine lv_ifnonnullN hx hb dX9_back_23 ?_
        refine lv_aload_n hx hb dX9_back_26 rfl (lv_at hl 1 rfl) ?_
        refine tf_bipush hx hb dX9_back_27 (by decide) ?_
        refine tf_calli (va_runV (As := [.int (Int32.ofInt ((-2)))]) (rest := []) ⟨hx, hb, hml, hown, hts⟩ (c_X9_refuse l g T a0 ha0 ((-2)) ⟨by omega, by omega⟩) (cwV 1 hts gv_X9_75 rfl rfl rfl hd_X9_refuse ⟨Nat.le_trans (by decide) hR1, Nat.le_trans (by decide) hR2⟩) (tf_preV hk hW ha0 (ci := 9) rfl rfl trivial) rfl rfl hl.1 rfl (lv_room (Nat.le_of_ble_eq_true rfl)) dX9_back_29 ⟨Nat.zero_le _, Nat.zero_le _⟩) hW (by decide) (fun z10 H10 locs10 hW hF10 hp10 => ?_)
        obtain ⟨hp10_0, hp10_1, hp10_2⟩ := hp10
        exact tf_reti (z := z10) hx hb hr hlocks hQ hW (show (-2147483648) ≤ (z10) ∧ (z10) ≤ 2147483647 by omega) dX9_back_32
      · refine lv_astore_n (lv' := [(2, .ref ad9), (0, .ref a0), (1, .int (Int32.ofInt x1))]) hx hb dX9_back_21 rfl hl (by decide) rfl (fun ls hl => ?_)
        refine lv_aload_n hx hb dX9_back_22 rfl (lv_at hl 0 rfl) ?_
        refine lv_ifnonnull (tgt := 33) hx hb dX9_back_23 (by decide) ?_
        refine lv_aload_n hx hb dX9_back_33 rfl (lv_at hl 1 rfl) ?_
        refine tf_get hx hb hts inlX9 hown hK (ci := 9) rfl hW ha0 rfl 0 rfl (by decide) (hts _ fl_X9_10) dX9_back_34 (fun v11 hv11 hsv11 => ?_)
        obtain ⟨ad12, rfl, had12⟩ := tf_v1 hv11
        refine lv_aload_n hx hb dX9_back_37 rfl (lv_at hl 0 rfl) ?_
        refine tf_callv (va_runV (As := [.ref ad9]) (rest := []) ⟨hx, hb, hml, hown, hts⟩ (c_X3_become l g T ad12 had12 ad9 had9) (cwV 1 hts gv_X9_355 rfl rfl rfl hd_X3_become ⟨Nat.le_trans (by decide) hR1, Nat.le_trans (by decide) hR2⟩) (tf_preV hk hW had12 (ci := 3) rfl rfl trivial) rfl rfl hl.1 rfl (lv_room (Nat.le_of_ble_eq_true rfl)) dX9_back_38 ⟨Nat.zero_le _, Nat.zero_le _⟩) hW (by decide) (fun H13 locs13 hW hF13 hp13 => ?_)
        refine lv_aload_n hx hb dX9_back_41 rfl (lv_at hl 1 rfl) ?_
        refine tf_iconst hx hb dX9_back_42 ?_
        refine tf_calli (va_runV (As := [.int (Int32.ofInt 0)]) (rest := []) ⟨hx, hb, hml, hown, hts⟩ (c_X9_accept l g T a0 ha0 (0) ⟨by omega, by omega⟩) (cwV 1 hts gv_X9_99 rfl rfl rfl hd_X9_accept ⟨Nat.le_trans (by decide) hR1, Nat.le_trans (by decide) hR2⟩) (tf_preV hk hW ha0 (ci := 9) rfl rfl trivial) rfl rfl hl.1 rfl (lv_room (Nat.le_of_ble_eq_true rfl)) dX9_back_43 ⟨Nat.zero_le _, Nat.zero_le _⟩) hW (by decide) (fun z14 H14 locs14 hW hF14 hp14 => ?_)
        obtain ⟨hp14_0, hp14_1, hp14_2⟩ := hp14
        exact tf_reti (z := z14) hx hb hr hlocks hQ hW (show (-2147483648) ≤ (z14) ∧ (z14) ≤ 2147483647 by omega) dX9_back_46
    · exfalso; omega
  · refine tf_if_ne (tgt := 15) hx hb ⟨by decide, by decide⟩ dX9_back_6 (by decide) (fun h15 => ?_) (fun h15 => ?_)
    · exfalso; omega
    · refine lv_aload_n hx hb dX9_back_9 rfl (lv_at hl 0 rfl) ?_
      refine tf_iconst hx hb dX9_back_10 ?_
      refine tf_calli (va_runV (As := [.int (Int32.ofInt ((-1)))]) (rest := []) ⟨hx, hb, hml, hown, hts⟩ (c_X9_refuse l g T a0 ha0 ((-1)) ⟨by omega, by omega⟩) (cwV 1 hts gv_X9_75 rfl rfl rfl hd_X9_refuse ⟨Nat.le_trans (by decide) hR1, Nat.le_trans (by decide) hR2⟩) (tf_preV hk hW ha0 (ci := 9) rfl rfl trivial) rfl rfl hl.1 rfl (lv_room (Nat.le_of_ble_eq_true rfl)) dX9_back_11 ⟨Nat.zero_le _, Nat.zero_le _⟩) hW (by decide) (fun z16 H16 locs16 hW hF16 hp16 => ?_)
      obtain ⟨hp16_0, hp16_1, hp16_2⟩ := hp16
      exact tf_reti (z := z16) hx hb hr hlocks hQ hW (show (-2147483648) ≤ (z16) ∧ (z16) ≤ 2147483647 by omega) dX9_back_14

abbrev M_X9_count : List (Nat × Nat) := []
set_option maxHeartbeats 4000000 in
set_option maxRecDepth 100000 in
theorem c_X9_count (l : Launch) (g : tf_G) (T : tf_T) (a0 : Nat) (ha0 : T a0 = some (26, 0)) (x1 : Int) (hp1 : (-2147483648) ≤ x1 ∧ x1 ≤ 2147483647) : Met l yX9_count (cd_X9_count :: wsL_law) ({ frames := 5, cells := 0, slots := 0, locals := 108 }) (tf_P g T [.ref a0, .int (Int32.ofInt x1)] (fun H => True)) (tf_Qi g M_X9_count T (fun z _ _ => (-2147483648) ≤ z ∧ z ≤ 2147483647)) 0 0 (fun q => tf_B g ≤ q) := by
  refine Met.ofW (cc := cX9_count) (maxL := 2) (ret := (some .int)) (by decide) rfl ?_
  intro p e s m args below meth c s₁ B hml hv
  obtain ⟨hargs, hk, hW0, hB, hpre⟩ := hv
  have hx := B.exec
  have hb := B.bytes
  have hr := B.returns
  have hts : ∀ w ∈ wsL_law, w.before args s = true := fun w h => atoms_spec (ws := cd_X9_count :: wsL_law) B.pre w (List.mem_cons_of_mem _ h)
  have hown : s.vm.findClass RX9 = some m.cls := findClass_of_methodNamed B.named
  have hlocks := B.notSynchronized
  have hK := hk.1
  have hW := tf_n.start (M := M_X9_count) hW0 hB
  obtain ⟨Q, hQ⟩ : ∃ q, q = MQ below (tf_Qi g M_X9_count T (fun z _ _ => (-2147483648) ≤ z ∧ z ≤ 2147483647)) args s 0 0 (fun q => tf_B g ≤ q) := ⟨_, rfl⟩
  rw [← hQ]
  obtain ⟨R, hR⟩ : ∃ q, q = (headSpec (cd_X9_count :: wsL_law) ({ frames := 5, cells := 0, slots := 0, locals := 108 })).room := ⟨_, rfl⟩
  rw [← hR]
  have hR1 : 5 ≤ R.frames := by rw [hR]; exact Nat.le_refl _
  have hR2 : 108 ≤ R.locals := by rw [hR]; exact Nat.le_refl _
  have hR3 : 0 ≤ R.cells := by rw [hR]; exact Nat.le_refl _
  have hR4 : 0 ≤ R.slots := by rw [hR]; exact Nat.le_refl _
  have hin := (name_of_methodNamed B.named B.method).1
  clear hR B
  refine tf_enter (As := [.ref a0, .int (Int32.ofInt x1)]) hargs (Nat.le_of_ble_eq_true rfl) (fun ls hl => ?_)
  have hl : lv_has ls 2 [(0, .ref a0), (1, .int (Int32.ofInt x1))] := hl
  refine lv_iload_n hx hb dX9_count_0 rfl (lv_at hl 1 rfl) ?_
  rcases (show x1 = 0 ∨ x1 = 1 ∨ x1 = 2 ∨ x1 = 3 ∨ x1 = 4 ∨ x1 = 5 ∨ x1 = 6 ∨ x1 = 7 ∨ x1 = 8 ∨ x1 = 9 ∨ x1 = 10 ∨ x1 = 11 ∨ x1 = 12 ∨ x1 < 0 ∨ 12 < x1 by omega) with h1 | h1 | h1 | h1 | h1 | h1 | h1 | h1 | h1 | h1 | h1 | h1 | h1 | h1 | h1
  · refine tf_tableIn (tgt := 68) hx hb dX9_count_1 h1 (by decide) (by decide) (by decide) rfl (by decide) ?_
    refine lv_aload_n hx hb dX9_count_68 rfl (lv_at hl 0 rfl) ?_
    refine tf_get hx hb hts inlX9 hown hK (ci := 9) rfl hW ha0 rfl 0 rfl (by decide) (hts _ fl_X9_10) dX9_count_69 (fun v2 hv2 hsv2 => ?_)
    obtain ⟨ad3, rfl, had3⟩ := tf_v1 hv2
    refine tf_get hx hb hts inlX3 hown hK (ci := 3) rfl hW had3 rfl 1 rfl (by decide) (hts _ fl_X9_89) dX9_count_72 (fun v4 hv4 hsv4 => ?_)
    obtain ⟨ad5, rfl, had5⟩ := tf_v1 hv4
    refine tf_get hx hb hts inlX5 hown hK (ci := 5) rfl hW had5 rfl 4 rfl (by decide) (hts _ fl_X9_219) dX9_count_75 (fun v6 hv6 hsv6 => ?_)
    obtain ⟨z7, rfl, hz7⟩ := tf_v0 hv6
    exact tf_reti (z := z7) hx hb hr hlocks hQ hW (show (-2147483648) ≤ (z7) ∧ (z7) ≤ 2147483647 by omega) dX9_count_78
  · refine tf_tableIn (tgt := 79) hx hb dX9_count_1 h1 (by decide) (by decide) (by decide) rfl (by decide) ?_
    refine lv_aload_n hx hb dX9_count_79 rfl (lv_at hl 0 rfl) ?_
    refine tf_get hx hb hts inlX9 hown hK (ci := 9) rfl hW ha0 rfl 0 rfl (by decide) (hts _ fl_X9_10) dX9_count_80 (fun v8 hv8 hsv8 => ?_)
    obtain ⟨ad9, rfl, had9⟩ := tf_v1 hv8
    refine tf_calli (va_runV (As := []) (rest := []) ⟨hx, hb, hml, hown, hts⟩ (c_X3_groundCells l g T ad9 had9) (cwV 0 hts gv_X9_358 rfl rfl rfl hd_X3_groundCells ⟨Nat.le_trans (by decide) hR1, Nat.le_trans (by decide) hR2⟩) (tf_preV hk hW had9 (ci := 3) rfl rfl trivial) rfl rfl hl.1 rfl (lv_room (Nat.le_of_ble_eq_true rfl)) dX9_count_83 ⟨Nat.zero_le _, Nat.zero_le _⟩) hW (by decide) (fun z10 H10 locs10 hW hF10 hp10 => ?_)
    obtain ⟨hp10_0, hp10_1⟩ := hp10
    exact tf_reti (z := z10) hx hb hr hlocks hQ hW (show (-2147483648) ≤ (z10) ∧ (z10) ≤ 2147483647 by omega) dX9_count_86
  · refine tf_tableIn (tgt := 87) hx hb dX9_count_1 h1 (by decide) (by decide) (by decide) rfl (by decide) ?_
    refine lv_aload_n hx hb dX9_count_87 rfl (lv_at hl 0 rfl) ?_
    refine tf_get hx hb hts inlX9 hown hK (ci := 9) rfl hW ha0 rfl 0 rfl (by decide) (hts _ fl_X9_10) dX9_count_88 (fun v11 hv11 hsv11 => ?_)
    obtain ⟨ad12, rfl, had12⟩ := tf_v1 hv11
    refine tf_get hx hb hts inlX3 hown hK (ci := 3) rfl hW had12 rfl 8 rfl (by decide) (hts _ fl_X9_164) dX9_count_91 (fun v13 hv13 hsv13 => ?_)
    obtain ⟨z14, rfl, hz14⟩ := tf_v0 hv13
    exact tf_reti (z := z14) hx hb hr hlocks hQ hW (show (-2147483648) ≤ (z14) ∧ (z14) ≤ 2147483647 by omega) dX9_count_94
  · refine tf_tableIn (tgt := 95) hx hb dX9_count_1 h1 (by decide) (by decide) (by decide) rfl (by decide) ?_
    refine lv_aload_n hx hb dX9_count_95 rfl (lv_at hl 0 rfl) ?_
    refine tf_get hx hb hts inlX9 hown hK (ci := 9) rfl hW ha0 rfl 0 rfl (by decide) (hts _ fl_X9_10) dX9_count_96 (fun v15 hv15 hsv15 => ?_)
    obtain ⟨ad16, rfl, had16⟩ := tf_v1 hv15
    refine tf_get hx hb hts inlX3 hown hK (ci := 3) rfl hW had16 rfl 2 rfl (by decide) (hts _ fl_X9_260) dX9_count_99 (fun v17 hv17 hsv17 => ?_)
    obtain ⟨ad18, rfl, had18⟩ := tf_v1 hv17
    refine tf_get hx hb hts inlX8 hown hK (ci := 8) rfl hW had18 rfl 4 rfl (by decide) (hts _ fl_X9_267) dX9_count_102 (fun v19 hv19 hsv19 => ?_)
    obtain ⟨z20, rfl, hz20⟩ := tf_v0 hv19
    exact tf_reti (z := z20) hx hb hr hlocks hQ hW (show (-2147483648) ≤ (z20) ∧ (z20) ≤ 2147483647 by omega) dX9_count_105
  · refine tf_tableIn (tgt := 106) hx hb dX9_count_1 h1 (by decide) (by decide) (by decide) rfl (by decide) ?_
    refine lv_aload_n hx hb dX9_count_106 rfl (lv_at hl 0 rfl) ?_
    refine tf_get hx hb hts inlX9 hown hK (ci := 9) rfl hW ha0 rfl 0 rfl (by decide) (hts _ fl_X9_10) dX9_count_107 (fun v21 hv21 hsv21 => ?_)
    obtain ⟨ad22, rfl, had22⟩ := tf_v1 hv21
    refine tf_get hx hb hts inlX3 hown hK (ci := 3) rfl hW had22 rfl 11 rfl (by decide) (hts _ fl_X9_307) dX9_count_110 (fun v23 hv23 hsv23 => ?_)
    obtain ⟨z24, rfl, hz24⟩ := tf_v0 hv23
    exact tf_reti (z := z24) hx hb hr hlocks hQ hW (show (-2147483648) ≤ (z24) ∧ (z24) ≤ 2147483647 by omega) dX9_count_113
  · refine tf_tableIn (tgt := 114) hx hb dX9_count_1 h1 (by decide) (by decide) (by decide) rfl (by decide) ?_
    refine lv_aload_n hx hb dX9_count_114 rfl (lv_at hl 0 rfl) ?_
    refine tf_get hx hb hts inlX9 hown hK (ci := 9) rfl hW ha0 rfl 0 rfl (by decide) (hts _ fl_X9_10) dX9_count_115 (fun v25 hv25 hsv25 => ?_)
    obtain ⟨ad26, rfl, had26⟩ := tf_v1 hv25
    refine tf_calli (va_runV (As := []) (rest := []) ⟨hx, hb, hml, hown, hts⟩ (c_X3_allHours l g T ad26 had26) (cwV 0 hts gv_X9_160 rfl rfl rfl hd_X3_allHours ⟨Nat.le_trans (by decide) hR1, Nat.le_trans (by decide) hR2⟩) (tf_preV hk hW had26 (ci := 3) rfl rfl trivial) rfl rfl hl.1 rfl (lv_room (Nat.le_of_ble_eq_true rfl)) dX9_count_118 ⟨Nat.zero_le _, Nat.zero_le _⟩) hW (by decide) (fun z27 H27 locs27 hW hF27 hp27 => ?_)
    obtain ⟨hp27_0, hp27_1⟩ := hp27
    exact tf_reti (z := z27) hx hb hr hlocks hQ hW (show (-2147483648) ≤ (z27) ∧ (z27) ≤ 2147483647 by omega) dX9_count_121
  · refine tf_tableIn (tgt := 122) hx hb dX9_count_1 h1 (by decide) (by decide) (by decide) rfl (by decide) ?_
    refine lv_aload_n hx hb dX9_count_122 rfl (lv_at hl 0 rfl) ?_
    refine tf_get hx hb hts inlX9 hown hK (ci := 9) rfl hW ha0 rfl 7 rfl (by decide) (hts _ fl_X9_48) dX9_count_123 (fun v28 hv28 hsv28 => ?_)
    obtain ⟨z29, rfl, hz29⟩ := tf_v0 hv28
    exact tf_reti (z := z29) hx hb hr hlocks hQ hW (show (-2147483648) ≤ (z29) ∧ (z29) ≤ 2147483647 by omega) dX9_count_126
  · refine tf_tableIn (tgt := 127) hx hb dX9_count_1 h1 (by decide) (by decide) (by decide) rfl (by decide) ?_
    refine lv_aload_n hx hb dX9_count_127 rfl (lv_at hl 0 rfl) ?_
    refine tf_get hx hb hts inlX9 hown hK (ci := 9) rfl hW ha0 rfl 12 rfl (by decide) (hts _ fl_X9_65) dX9_count_128 (fun v30 hv30 hsv30 => ?_)
    obtain ⟨ad31, rfl, had31⟩ := tf_v1 hv30
    refine tf_iconst hx hb dX9_count_131 ?_
    refine tf_iald (t0 := 0) hx hb hK hW had31 rfl rfl (by omega) (by omega) dX9_count_132 (fun v32 hv32 hsv32 => ?_)
    obtain ⟨z33, rfl, hz33⟩ := tf_v0 hv32
    exact tf_reti (z := z33) hx hb hr hlocks hQ hW (show (-2147483648) ≤ (z33) ∧ (z33) ≤ 2147483647 by omega) dX9_count_133
  · refine tf_tableIn (tgt := 134) hx hb dX9_count_1 h1 (by decide) (by decide) (by decide) rfl (by decide) ?_
    refine lv_aload_n hx hb dX9_count_134 rfl (lv_at hl 0 rfl) ?_
    refine tf_get hx hb hts inlX9 hown hK (ci := 9) rfl hW ha0 rfl 12 rfl (by decide) (hts _ fl_X9_65) dX9_count_135 (fun v34 hv34 hsv34 => ?_)
    obtain ⟨ad35, rfl, had35⟩ := tf_v1 hv34
    refine tf_iconst hx hb dX9_count_138 ?_
    refine tf_iald (t0 := 0) hx hb hK hW had35 rfl rfl (by omega) (by omega) dX9_count_139 (fun v36 hv36 hsv36 => ?_)
    obtain ⟨z37, rfl, hz37⟩ := tf_v0 hv36
    exact tf_reti (z := z37) hx hb hr hlocks hQ hW (show (-2147483648) ≤ (z37) ∧ (z37) ≤ 2147483647 by omega) dX9_count_140
  · refine tf_tableIn (tgt := 141) hx hb dX9_count_1 h1 (by decide) (by decide) (by decide) rfl (by decide) ?_
    refine lv_aload_n hx hb dX9_count_141 rfl (lv_at hl 0 rfl) ?_
    refine tf_get hx hb hts inlX9 hown hK (ci := 9) rfl hW ha0 rfl 12 rfl (by decide) (hts _ fl_X9_65) dX9_count_142 (fun v38 hv38 hsv38 => ?_)
    obtain ⟨ad39, rfl, had39⟩ := tf_v1 hv38
    refine tf_iconst hx hb dX9_count_145 ?_
    refine tf_iald (t0 := 0) hx hb hK hW had39 rfl rfl (by omega) (by omega) dX9_count_146 (fun v40 hv40 hsv40 => ?_)
    obtain ⟨z41, rfl, hz41⟩ := tf_v0 hv40
    exact tf_reti (z := z41) hx hb hr hlocks hQ hW (show (-2147483648) ≤ (z41) ∧ (z41) ≤ 2147483647 by omega) dX9_count_147
  · refine tf_tableIn (tgt := 148) hx hb dX9_count_1 h1 (by decide) (by decide) (by decide) rfl (by decide) ?_
    refine lv_aload_n hx hb dX9_count_148 rfl (lv_at hl 0 rfl) ?_
    refine tf_get hx hb hts inlX9 hown hK (ci := 9) rfl hW ha0 rfl 12 rfl (by decide) (hts _ fl_X9_65) dX9_count_149 (fun v42 hv42 hsv42 => ?_)
    obtain ⟨ad43, rfl, had43⟩ := tf_v1 hv42
    refine tf_iconst hx hb dX9_count_152 ?_
    refine tf_iald (t0 := 0) hx hb hK hW had43 rfl rfl (by omega) (by omega) dX9_count_153 (fun v44 hv44 hsv44 => ?_)
    obtain ⟨z45, rfl, hz45⟩ := tf_v0 hv44
    exact tf_reti (z := z45) hx hb hr hlocks hQ hW (show (-2147483648) ≤ (z45) ∧ (z45) ≤ 2147483647 by omega) dX9_count_154
  · refine tf_tableIn (tgt := 155) hx hb dX9_count_1 h1 (by decide) (by decide) (by decide) rfl (by decide) ?_
    refine lv_aload_n hx hb dX9_count_155 rfl (lv_at hl 0 rfl) ?_
    refine tf_get hx hb hts inlX9 hown hK (ci := 9) rfl hW ha0 rfl 12 rfl (by decide) (hts _ fl_X9_65) dX9_count_156 (fun v46 hv46 hsv46 => ?_)
    obtain ⟨ad47, rfl, had47⟩ := tf_v1 hv46
    refine tf_bipush hx hb dX9_count_159 (by decide) ?_
    refine tf_iald (t0 := 0) hx hb hK hW had47 rfl rfl (by omega) (by omega) dX9_count_161 (fun v48 hv48 hsv48 => ?_)
    obtain ⟨z49, rfl, hz49⟩ := tf_v0 hv48
    exact tf_reti (z := z49) hx hb hr hlocks hQ hW (show (-2147483648) ≤ (z49) ∧ (z49) ≤ 2147483647 by omega) dX9_count_162
  · refine tf_tableIn (tgt := 163) hx hb dX9_count_1 h1 (by decide) (by decide) (by decide) rfl (by decide) ?_
    refine lv_aload_n hx hb dX9_count_163 rfl (lv_at hl 0 rfl) ?_
    refine tf_get hx hb hts inlX9 hown hK (ci := 9) rfl hW ha0 rfl 0 rfl (by decide) (hts _ fl_X9_10) dX9_count_164 (fun v50 hv50 hsv50 => ?_)
    obtain ⟨ad51, rfl, had51⟩ := tf_v1 hv50
    refine tf_get hx hb hts inlX3 hown hK (ci := 3) rfl hW had51 rfl 9 rfl (by decide) (hts _ fl_X9_176) dX9_count_167 (fun v52 hv52 hsv52 => ?_)
    obtain ⟨z53, rfl, hz53⟩ := tf_v0 hv52
    exact tf_reti (z := z53) hx hb hr hlocks hQ hW (show (-2147483648) ≤ (z53) ∧ (z53) ≤ 2147483647 by omega) dX9_count_170
  · refine tf_tableOut (tgt := 171) hx hb dX9_count_1 ⟨by omega, by omega⟩ (by omega) (by decide) ?_
    refine tf_iconst hx hb dX9_count_171 ?_
    exact tf_reti (z := (-1)) hx hb hr hlocks hQ hW (show (-2147483648) ≤ ((-1)) ∧ ((-1)) ≤ 2147483647 by omega) dX9_count_172
  · refine tf_tableOut (tgt := 171) hx hb dX9_count_1 ⟨by omega, by omega⟩ (by omega) (by decide) ?_
    refine tf_iconst hx hb dX9_count_171 ?_
    exact tf_reti (z := (-1)) hx hb hr hlocks hQ hW (show (-2147483648) ≤ ((-1)) ∧ ((-1)) ≤ 2147483647 by omega) dX9_count_172

abbrev M_X9_status : List (Nat × Nat) := []
set_option maxHeartbeats 4000000 in
set_option maxRecDepth 100000 in
theorem c_X9_status (l : Launch) (g : tf_G) (T : tf_T) (a0 : Nat) (ha0 : T a0 = some (26, 0)) : Met l yX9_status (cd_X9_status :: wsL_law) ({ frames := 1, cells := 0, slots := 0, locals := 24 }) (tf_P g T [.ref a0] (fun H => True)) (tf_Qi g M_X9_status T (fun z _ _ => (-2147483648) ≤ z ∧ z ≤ 2147483647)) 0 0 (fun q => tf_B g ≤ q) := by
  refine Met.ofW (cc := cX9_status) (maxL := 1) (ret := (some .int)) (by decide) rfl ?_
  intro p e s m args below meth c s₁ B hml hv
  obtain ⟨hargs, hk, hW0, hB, hpre⟩ := hv
  have hx := B.exec
  have hb := B.bytes
  have hr := B.returns
  have hts : ∀ w ∈ wsL_law, w.before args s = true := fun w h => atoms_spec (ws := cd_X9_status :: wsL_law) B.pre w (List.mem_cons_of_mem _ h)
  have hown : s.vm.findClass RX9 = some m.cls := findClass_of_methodNamed B.named
  have hlocks := B.notSynchronized
  have hK := hk.1
  have hW := tf_n.start (M := M_X9_status) hW0 hB
  obtain ⟨Q, hQ⟩ : ∃ q, q = MQ below (tf_Qi g M_X9_status T (fun z _ _ => (-2147483648) ≤ z ∧ z ≤ 2147483647)) args s 0 0 (fun q => tf_B g ≤ q) := ⟨_, rfl⟩
  rw [← hQ]
  obtain ⟨R, hR⟩ : ∃ q, q = (headSpec (cd_X9_status :: wsL_law) ({ frames := 1, cells := 0, slots := 0, locals := 24 })).room := ⟨_, rfl⟩
  rw [← hR]
  have hR1 : 1 ≤ R.frames := by rw [hR]; exact Nat.le_refl _
  have hR2 : 24 ≤ R.locals := by rw [hR]; exact Nat.le_refl _
  have hR3 : 0 ≤ R.cells := by rw [hR]; exact Nat.le_refl _
  have hR4 : 0 ≤ R.slots := by rw [hR]; exact Nat.le_refl _
  have hin := (name_of_methodNamed B.named B.method).1
  clear hR B
  refine tf_enter (As := [.ref a0]) hargs (Nat.le_of_ble_eq_true rfl) (fun ls hl => ?_)
  have hl : lv_has ls 1 [(0, .ref a0)] := hl
  refine lv_aload_n hx hb dX9_status_0 rfl (lv_at hl 0 rfl) ?_
  refine tf_get hx hb hts inlX9 hown hK (ci := 9) rfl hW ha0 rfl 13 rfl (by decide) (hts _ fl_X9_68) dX9_status_1 (fun v1 hv1 hsv1 => ?_)
  obtain ⟨z2, rfl, hz2⟩ := tf_v0 hv1
  exact tf_reti (z := z2) hx hb hr hlocks hQ hW (show (-2147483648) ≤ (z2) ∧ (z2) ≤ 2147483647 by omega) dX9_status_4

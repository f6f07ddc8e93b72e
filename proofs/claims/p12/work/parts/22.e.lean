
abbrev M_X10_kind : List (Nat × Nat) := [(38, 0), (39, 0), (40, 0), (41, 0), (42, 0), (43, 0), (44, 0), (50, 0), (50, 26), (50, 29), (50, 30), (50, 31), (50, 37), (50, 38), (50, 39), (50, 40), (50, 41), (50, 42)]
set_option maxHeartbeats 4000000 in
set_option maxRecDepth 100000 in
theorem c_X10_kind (l : Launch) (g : tf_G) (T : tf_T) (a0 : Nat) (ha0 : T a0 = some (50, 0)) (x1 : Int) (hp1 : (-2147483648) ≤ x1 ∧ x1 ≤ 2147483647) (x2 : Int) (hp2 : (-2147483648) ≤ x2 ∧ x2 ≤ 2147483647) (x3 : Int) (hp3 : (-2147483648) ≤ x3 ∧ x3 ≤ 2147483647) : Met l yX10_kind (cd_X10_kind :: wsL_law) ({ frames := 6, cells := 0, slots := 0, locals := 154 }) (tf_P g T [.ref a0, .int (Int32.ofInt x1), .int (Int32.ofInt x2), .int (Int32.ofInt x3)] (fun H => True)) (tf_Qi g M_X10_kind T (fun z _ _ => (-2147483648) ≤ z ∧ z ≤ 2147483647)) 0 0 (fun q => tf_B g ≤ q) := by
  refine Met.ofW (cc := cX10_kind) (maxL := 5) (ret := (some .int)) (by decide) rfl ?_
  intro p e s m args below meth c s₁ B hml hv
  obtain ⟨hargs, hk, hW0, hB, hpre⟩ := hv
  have hx := B.exec
  have hb := B.bytes
  have hr := B.returns
  have hts : ∀ w ∈ wsL_law, w.before args s = true := fun w h => atoms_spec (ws := cd_X10_kind :: wsL_law) B.pre w (List.mem_cons_of_mem _ h)
  have hown : s.vm.findClass RX10 = some m.cls := findClass_of_methodNamed B.named
  have hlocks := B.notSynchronized
  have hK := hk.1
  have hW := tf_n.start (M := M_X10_kind) hW0 hB
  obtain ⟨Q, hQ⟩ : ∃ q, q = MQ below (tf_Qi g M_X10_kind T (fun z _ _ => (-2147483648) ≤ z ∧ z ≤ 2147483647)) args s 0 0 (fun q => tf_B g ≤ q) := ⟨_, rfl⟩
  rw [← hQ]
  obtain ⟨R, hR⟩ : ∃ q, q = (headSpec (cd_X10_kind :: wsL_law) ({ frames := 6, cells := 0, slots := 0, locals := 154 })).room := ⟨_, rfl⟩
  rw [← hR]
  have hR1 : 6 ≤ R.frames := by rw [hR]; exact Nat.le_refl _
  have hR2 : 154 ≤ R.locals := by rw [hR]; exact Nat.le_refl _
  have hR3 : 0 ≤ R.cells := by rw [hR]; exact Nat.le_refl _
  have hR4 : 0 ≤ R.slots := by rw [hR]; exact Nat.le_refl _
  have hin := (name_of_methodNamed B.named B.method).1
  clear hR B
  refine tf_enter (As := [.ref a0, .int (Int32.ofInt x1), .int (Int32.ofInt x2), .int (Int32.ofInt x3)]) hargs (Nat.le_of_ble_eq_true rfl) (fun ls hl => ?_)
  have hl : lv_has ls 5 [(0, .ref a0), (1, .int (Int32.ofInt x1)), (2, .int (Int32.ofInt x2)), (3, .int (Int32.ofInt x3))] := hl
  refine lv_aload_n hx hb dX10_kind_0 rfl (lv_at hl 0 rfl) ?_
  refine tf_iconst hx hb dX10_kind_1 ?_
  refine tf_put hx hb hts inlX10 tyX10 tyX10_ok nmX10 hown hK (ci := 10) rfl hW ha0 rfl rfl 0 rfl (by decide) (by decide) (hts _ fl_X10_103) rfl (tf_u0 (by omega) (by omega)) rfl rfl dX10_kind_2 (fun H1 locs1 hW hs1 ht1 hq1 => ?_)
  refine lv_aload_n hx hb dX10_kind_5 rfl (lv_at hl 0 rfl) ?_
  refine lv_iload_n hx hb dX10_kind_6 rfl (lv_at hl 1 rfl) ?_
  refine tf_calli (va_runV (As := [.int (Int32.ofInt x1)]) (rest := []) ⟨hx, hb, hml, hown, hts⟩ (c_X10_isGround l g T a0 ha0 (x1) ⟨by omega, by omega⟩) (cwV 1 hts gv_X10_148 rfl rfl rfl hd_X10_isGround ⟨Nat.le_trans (by decide) hR1, Nat.le_trans (by decide) hR2⟩) (tf_preV hk hW ha0 (ci := 10) rfl rfl trivial) rfl rfl hl.1 rfl (lv_room (Nat.le_of_ble_eq_true rfl)) dX10_kind_7 ⟨Nat.zero_le _, Nat.zero_le _⟩) hW (by decide) (fun z2 H2 locs2 hW hF2 hp2 => ?_)
  rcases hp2 with ⟨rfl, h3, h4⟩ | ⟨rfl⟩
  · refine tf_if_eq (tgt := 32) hx hb ⟨by decide, by decide⟩ dX10_kind_10 (by decide) (fun h5 => ?_) (fun h5 => ?_)
    · exfalso; omega
    · refine lv_iload_n hx hb dX10_kind_13 rfl (lv_at hl 2 rfl) ?_
      refine tf_calli (va_runS (As := [.int (Int32.ofInt x2)]) (rest := []) ⟨hx, hb, hml, hown, hts⟩ (c_X10_isWay l g T (x2) ⟨by omega, by omega⟩) ⟨callB_of 1 hts (gw_ws cm_X10_isWay) rfl rfl rfl (hts _ (tw1 (i := 5) rfl)) (hts _ (tw17 (i := 8) rfl)) hd_X10_isWay.2 ⟨Nat.le_trans (by decide) hR1, Nat.le_trans (by decide) hR2⟩, hts _ (tw17 (i := 9) rfl)⟩ (tf_preS hk hW trivial) rfl rfl hl.1 rfl (lv_room (Nat.le_of_ble_eq_true rfl)) dX10_kind_14 ⟨Nat.zero_le _, Nat.zero_le _⟩) hW (by decide) (fun z6 H6 locs6 hW hF6 hp6 => ?_)
      rcases hp6 with ⟨rfl, h7, h8⟩ | ⟨rfl, h9⟩
      · refine tf_if_eq (tgt := 32) hx hb ⟨by decide, by decide⟩ dX10_kind_17 (by decide) (fun h10 => ?_) (fun h10 => ?_)
        · exfalso; omega
        · refine lv_iload_n hx hb dX10_kind_20 rfl (lv_at hl 3 rfl) ?_
          refine tf_i2l hx hb ⟨by omega, by omega⟩ dX10_kind_21 ?_
          refine tf_lconst (z := 0) hx hb dX10_kind_22 (by decide) ?_
          refine tf_ldc2 (z := 6) hx hb hown (hts _ kl_X10_403) (by decide) dX10_kind_23 ?_
          refine tf_calli (va_runS (As := [.long (Int64.ofInt x3), .long (Int64.ofInt 0), .long (Int64.ofInt 6)]) (rest := []) ⟨hx, hb, hml, hown, hts⟩ (c_X10_in l g T (x3) ⟨by omega, by omega⟩ (0) ⟨by omega, by omega⟩ (6) ⟨by omega, by omega⟩) ⟨callB_of 3 hts (gw_ws cm_X10_in) rfl rfl rfl (hts _ (tw1 (i := 5) rfl)) (hts _ (tw11 (i := 3) rfl)) hd_X10_in.2 ⟨Nat.le_trans (by decide) hR1, Nat.le_trans (by decide) hR2⟩, hts _ (tw11 (i := 4) rfl)⟩ (tf_preS hk hW trivial) rfl rfl hl.1 rfl (lv_room (Nat.le_of_ble_eq_true rfl)) dX10_kind_26 ⟨Nat.zero_le _, Nat.zero_le _⟩) hW (by decide) (fun z11 H11 locs11 hW hF11 hp11 => ?_)
          rcases hp11 with ⟨rfl, h12, h13⟩ | ⟨rfl, h14⟩
          · refine tf_if_ne (tgt := 34) hx hb ⟨by decide, by decide⟩ dX10_kind_29 (by decide) (fun h15 => ?_) (fun h15 => ?_)
            · refine lv_aload_n hx hb dX10_kind_34 rfl (lv_at hl 0 rfl) ?_
              refine tf_callv (va_runV (As := []) (rest := []) ⟨hx, hb, hml, hown, hts⟩ (c_X10_layAll l g T a0 ha0) (cwV 0 hts gv_X10_405 rfl rfl rfl hd_X10_layAll ⟨Nat.le_trans (by decide) hR1, Nat.le_trans (by decide) hR2⟩) (tf_preV hk hW ha0 (ci := 10) rfl rfl trivial) rfl rfl hl.1 rfl (lv_room (Nat.le_of_ble_eq_true rfl)) dX10_kind_35 ⟨Nat.zero_le _, Nat.zero_le _⟩) hW (by decide) (fun H16 locs16 hW hF16 hp16 => ?_)
              refine lv_aload_n hx hb dX10_kind_38 rfl (lv_at hl 0 rfl) ?_
              refine lv_iload_n hx hb dX10_kind_39 rfl (lv_at hl 1 rfl) ?_
              refine lv_iload_n hx hb dX10_kind_40 rfl (lv_at hl 2 rfl) ?_
              refine tf_calli (va_runV (As := [.int (Int32.ofInt x1), .int (Int32.ofInt x2)]) (rest := []) ⟨hx, hb, hml, hown, hts⟩ (c_X10_quickIn l g T a0 ha0 (x1) ⟨by omega, by omega⟩ (x2) ⟨by omega, by omega⟩) (cwV 2 hts gv_X10_408 rfl rfl rfl hd_X10_quickIn ⟨Nat.le_trans (by decide) hR1, Nat.le_trans (by decide) hR2⟩) (tf_preV hk hW ha0 (ci := 10) rfl rfl trivial) rfl rfl hl.1 rfl (lv_room (Nat.le_of_ble_eq_true rfl)) dX10_kind_41 ⟨Nat.zero_le _, Nat.zero_le _⟩) hW (by decide) (fun z17 H17 locs17 hW hF17 hp17 => ?_)
              obtain ⟨hp17_0, hp17_1⟩ := hp17
              refine lv_istore (lv' := [(4, .int (Int32.ofInt z17)), (0, .ref a0), (1, .int (Int32.ofInt x1)), (2, .int (Int32.ofInt x2)), (3, .int (Int32.ofInt x3))]) hx hb dX10_kind_44 hl (by decide) rfl (fun ls hl => ?_)
              refine lv_iload_n hx hb dX10_kind_46 rfl (lv_at hl 4 rfl) ?_
              rcases (show x3 = 0 ∨ x3 = 1 ∨ x3 = 2 ∨ x3 = 3 ∨ x3 = 4 ∨ x3 = 5 ∨ x3 < 0 ∨ 5 < x3 by omega) with h18 | h18 | h18 | h18 | h18 | h18 | h18 | h18
              · refine tf_tableIn (tgt := 84) hx hb dX10_kind_47 h18 (by decide) (by decide) (by decide) rfl (by decide) ?_
                refine lv_aload_n hx hb dX10_kind_84 rfl (lv_at hl 1 rfl) ?_
                refine tf_get hx hb hts inlX10 hown hK (ci := 10) rfl hW ha0 rfl 37 rfl (by decide) (hts _ fl_X10_376) dX10_kind_85 (fun v19 hv19 hsv19 => ?_)
                obtain ⟨z20, rfl, hz20⟩ := tf_v0 hv19
                exact tf_reti (z := z20) hx hb hr hlocks hQ hW (show (-2147483648) ≤ (z20) ∧ (z20) ≤ 2147483647 by omega) dX10_kind_88
              · refine tf_tableIn (tgt := 89) hx hb dX10_kind_47 h18 (by decide) (by decide) (by decide) rfl (by decide) ?_
                refine lv_aload_n hx hb dX10_kind_89 rfl (lv_at hl 1 rfl) ?_
                refine tf_get hx hb hts inlX10 hown hK (ci := 10) rfl hW ha0 rfl 40 rfl (by decide) (hts _ fl_X10_394) dX10_kind_90 (fun v21 hv21 hsv21 => ?_)
                obtain ⟨z22, rfl, hz22⟩ := tf_v0 hv21
                exact tf_reti (z := z22) hx hb hr hlocks hQ hW (show (-2147483648) ≤ (z22) ∧ (z22) ≤ 2147483647 by omega) dX10_kind_93
              · refine tf_tableIn (tgt := 94) hx hb dX10_kind_47 h18 (by decide) (by decide) (by decide) rfl (by decide) ?_
                refine lv_aload_n hx hb dX10_kind_94 rfl (lv_at hl 1 rfl) ?_
                refine tf_get hx hb hts inlX10 hown hK (ci := 10) rfl hW ha0 rfl 38 rfl (by decide) (hts _ fl_X10_379) dX10_kind_95 (fun v23 hv23 hsv23 => ?_)
                obtain ⟨z24, rfl, hz24⟩ := tf_v0 hv23
                refine tf_iconst hx hb dX10_kind_98 ?_
                refine tf_icmp_ne (tgt := 106) hx hb ⟨by omega, by omega⟩ ⟨by decide, by decide⟩ dX10_kind_99 (by decide) (fun h25 => ?_) (fun h25 => ?_)
                · refine lv_aload_n hx hb dX10_kind_106 rfl (lv_at hl 1 rfl) ?_
                  refine tf_get hx hb hts inlX10 hown hK (ci := 10) rfl hW ha0 rfl 36 rfl (by decide) (hts _ fl_X10_85) dX10_kind_107 (fun v26 hv26 hsv26 => ?_)
                  obtain ⟨ad27, rfl, had27⟩ := tf_v1 hv26
                  refine lv_aload_n hx hb dX10_kind_110 rfl (lv_at hl 1 rfl) ?_
                  refine tf_get hx hb hts inlX10 hown hK (ci := 10) rfl hW ha0 rfl 38 rfl (by decide) (hts _ fl_X10_379) dX10_kind_111 (fun v28 hv28 hsv28 => ?_)
                  obtain rfl : v28 = .int (Int32.ofInt z24) := Option.some.inj (hsv28.symm.trans hsv23)
                  refine tf_iald (t0 := 0) hx hb hK hW had27 rfl rfl (by omega) (by omega) dX10_kind_114 (fun v29 hv29 hsv29 => ?_)
                  obtain ⟨z30, rfl, hz30⟩ := tf_v0 hv29
                  exact tf_reti (z := z30) hx hb hr hlocks hQ hW (show (-2147483648) ≤ (z30) ∧ (z30) ≤ 2147483647 by omega) dX10_kind_115
                · refine tf_iconst hx hb dX10_kind_102 ?_
                  refine lv_goto (tgt := 115) hx hb dX10_kind_103 (by decide) ?_
                  exact tf_reti (z := 0) hx hb hr hlocks hQ hW (show (-2147483648) ≤ (0) ∧ (0) ≤ 2147483647 by omega) dX10_kind_115
              · refine tf_tableIn (tgt := 116) hx hb dX10_kind_47 h18 (by decide) (by decide) (by decide) rfl (by decide) ?_
                refine lv_aload_n hx hb dX10_kind_116 rfl (lv_at hl 1 rfl) ?_
                refine tf_get hx hb hts inlX10 hown hK (ci := 10) rfl hW ha0 rfl 41 rfl (by decide) (hts _ fl_X10_385) dX10_kind_117 (fun v31 hv31 hsv31 => ?_)
                obtain ⟨z32, rfl, hz32⟩ := tf_v0 hv31
                exact tf_reti (z := z32) hx hb hr hlocks hQ hW (show (-2147483648) ≤ (z32) ∧ (z32) ≤ 2147483647 by omega) dX10_kind_120
              · refine tf_tableIn (tgt := 121) hx hb dX10_kind_47 h18 (by decide) (by decide) (by decide) rfl (by decide) ?_
                refine lv_aload_n hx hb dX10_kind_121 rfl (lv_at hl 1 rfl) ?_
                refine tf_get hx hb hts inlX10 hown hK (ci := 10) rfl hW ha0 rfl 42 rfl (by decide) (hts _ fl_X10_388) dX10_kind_122 (fun v33 hv33 hsv33 => ?_)
                obtain ⟨z34, rfl, hz34⟩ := tf_v0 hv33
                exact tf_reti (z := z34) hx hb hr hlocks hQ hW (show (-2147483648) ≤ (z34) ∧ (z34) ≤ 2147483647 by omega) dX10_kind_125
              · refine tf_tableIn (tgt := 126) hx hb dX10_kind_47 h18 (by decide) (by decide) (by decide) rfl (by decide) ?_
                refine lv_aload_n hx hb dX10_kind_126 rfl (lv_at hl 1 rfl) ?_
                refine tf_get hx hb hts inlX10 hown hK (ci := 10) rfl hW ha0 rfl 39 rfl (by decide) (hts _ fl_X10_382) dX10_kind_127 (fun v35 hv35 hsv35 => ?_)
                obtain ⟨z36, rfl, hz36⟩ := tf_v0 hv35
                exact tf_reti (z := z36) hx hb hr hlocks hQ hW (show (-2147483648) ≤ (z36) ∧ (z36) ≤ 2147483647 by omega) dX10_kind_130
              · exfalso; omega
              · refine tf_tableOut (tgt := 131) hx hb dX10_kind_47 ⟨by omega, by omega⟩ (by omega) (by decide) ?_
                refine lv_iload hx hb dX10_kind_131 (lv_at hl 0 rfl) ?_
                exact tf_reti (z := z17) hx hb hr hlocks hQ hW (show (-2147483648) ≤ (z17) ∧ (z17) ≤ 2147483647 by omega) dX10_kind_133
            · exfalso; omega
          · refine tf_if_ne (tgt := 34) hx hb ⟨by decide, by decide⟩ dX10_kind_29 (by decide) (fun h37 => ?_) (fun h37 => ?_)
            · exfalso; omega
            · refine tf_iconst hx hb dX10_kind_32 ?_
              exact tf_reti (z := (-1)) hx hb hr hlocks hQ hW (show (-2147483648) ≤ ((-1)) ∧ ((-1)) ≤ 2147483647 by omega) dX10_kind_33
      · refine tf_if_eq (tgt := 32) hx hb ⟨by decide, by decide⟩ dX10_kind_17 (by decide) (fun h38 => ?_) (fun h38 => ?_)
        · refine tf_iconst hx hb dX10_kind_32 ?_
          exact tf_reti (z := (-1)) hx hb hr hlocks hQ hW (show (-2147483648) ≤ ((-1)) ∧ ((-1)) ≤ 2147483647 by omega) dX10_kind_33
        · exfalso; omega
  · refine tf_if_eq (tgt := 32) hx hb ⟨by decide, by decide⟩ dX10_kind_10 (by decide) (fun h39 => ?_) (fun h39 => ?_)
    · refine tf_iconst hx hb dX10_kind_32 ?_
      exact tf_reti (z := (-1)) hx hb hr hlocks hQ hW (show (-2147483648) ≤ ((-1)) ∧ ((-1)) ≤ 2147483647 by omega) dX10_kind_33
    · exfalso; omega

abbrev M_X10_hoursAbove : List (Nat × Nat) := [(38, 0), (39, 0), (50, 26), (50, 29), (50, 30), (50, 31), (50, 37), (50, 38), (50, 39), (50, 40), (50, 41), (50, 42)]
set_option maxHeartbeats 4000000 in
set_option maxRecDepth 100000 in
theorem c_X10_hoursAbove (l : Launch) (g : tf_G) (T : tf_T) (a0 : Nat) (ha0 : T a0 = some (50, 0)) (x1 : Int) (hp1 : 0 ≤ x1 ∧ x1 ≤ 99) (x2 : Int) (hp2 : (-2147483648) ≤ x2 ∧ x2 ≤ 2147483647) : Met l yX10_hoursAbove (cd_X10_hoursAbove :: wsL_law) ({ frames := 6, cells := 0, slots := 0, locals := 154 }) (tf_P g T [.ref a0, .int (Int32.ofInt x1), .int (Int32.ofInt x2)] (fun H => True)) (tf_Qi g M_X10_hoursAbove T (fun z _ _ => 0 ≤ z ∧ z ≤ 39960)) 0 0 (fun q => tf_B g ≤ q) := by
  refine Met.ofW (cc := cX10_hoursAbove) (maxL := 7) (ret := (some .int)) (by decide) rfl ?_
  intro p e s m args below meth c s₁ B hml hv
  obtain ⟨hargs, hk, hW0, hB, hpre⟩ := hv
  have hx := B.exec
  have hb := B.bytes
  have hr := B.returns
  have hts : ∀ w ∈ wsL_law, w.before args s = true := fun w h => atoms_spec (ws := cd_X10_hoursAbove :: wsL_law) B.pre w (List.mem_cons_of_mem _ h)
  have hown : s.vm.findClass RX10 = some m.cls := findClass_of_methodNamed B.named
  have hlocks := B.notSynchronized
  have hK := hk.1
  have hW := tf_n.start (M := M_X10_hoursAbove) hW0 hB
  obtain ⟨Q, hQ⟩ : ∃ q, q = MQ below (tf_Qi g M_X10_hoursAbove T (fun z _ _ => 0 ≤ z ∧ z ≤ 39960)) args s 0 0 (fun q => tf_B g ≤ q) := ⟨_, rfl⟩
  rw [← hQ]
  obtain ⟨R, hR⟩ : ∃ q, q = (headSpec (cd_X10_hoursAbove :: wsL_law) ({ frames := 6, cells := 0, slots := 0, locals := 154 })).room := ⟨_, rfl⟩
  rw [← hR]
  have hR1 : 6 ≤ R.frames := by rw [hR]; exact Nat.le_refl _
  have hR2 : 154 ≤ R.locals := by rw [hR]; exact Nat.le_refl _
  have hR3 : 0 ≤ R.cells := by rw [hR]; exact Nat.le_refl _
  have hR4 : 0 ≤ R.slots := by rw [hR]; exact Nat.le_refl _
  have hin := (name_of_methodNamed B.named B.method).1
  clear hR B
  have j_5 : ∀ (n_5 : Nat), 0 ≤ x1 ∧ x1 ≤ 99 → (-2147483648) ≤ x2 ∧ x2 ≤ 2147483647 → ∀ (x3_5 : Int), 0 ≤ x3_5 ∧ x3_5 ≤ 39960 → ∀ (x4_5 : Int), 0 ≤ x4_5 ∧ x4_5 ≤ 4 → (x3_5 ≤ 9990 * x4_5) → (4 - x4_5 + 1 ≤ (n_5 : Int)) → ∀ (H : Heap) (locs : List Loc), tf_n tf_kt g M_X10_hoursAbove T s.heap T H locs → ∀ (ls : Array Slot), lv_has ls 7 [(0, .ref a0), (1, .int (Int32.ofInt x1)), (2, .int (Int32.ofInt x2)), (3, .int (Int32.ofInt x3_5)), (4, .int (Int32.ofInt x4_5))] → W p l e R s m args below meth c H locs 0 0 Q (F0 m 5 ls []) := by
    intro n_5
    induction n_5 with
    | zero =>
      intro hx1_5 hx2_5 x3_5 hx3_5 x4_5 hx4_5 hi0_5 hm_5
      exfalso; omega
    | succ n_5 ih_5 =>
      intro hx1_5 hx2_5 x3_5 hx3_5 x4_5 hx4_5 hi0_5 hm_5 H locs hW  ls hl
      have j_23 : ∀ (n_23 : Nat), 0 ≤ x1 ∧ x1 ≤ 99 → (-2147483648) ≤ x2 ∧ x2 ≤ 2147483647 → ∀ (x3_23 : Int), 0 ≤ x3_23 ∧ x3_23 ≤ 39960 → 0 ≤ x4_5 ∧ x4_5 ≤ 3 → ∀ (x5_23 : Int), (-2147483648) ≤ x5_23 ∧ x5_23 ≤ 2147483647 → ∀ (x6_23 : Int), 0 ≤ x6_23 ∧ x6_23 ≤ 10 → (x3_23 ≤ 9990 * x4_5 + 999 * x6_23) → (10 - x6_23 + 1 ≤ (n_23 : Int)) → ∀ (H : Heap) (locs : List Loc), tf_n tf_kt g M_X10_hoursAbove T s.heap T H locs → ∀ (ls : Array Slot), lv_has ls 7 [(0, .ref a0), (1, .int (Int32.ofInt x1)), (2, .int (Int32.ofInt x2)), (3, .int (Int32.ofInt x3_23)), (4, .int (Int32.ofInt x4_5)), (5, .int (Int32.ofInt x5_23)), (6, .int (Int32.ofInt x6_23))] → W p l e R s m args below meth c H locs 0 0 Q (F0 m 23 ls []) := by
        intro n_23
        induction n_23 with
        | zero =>
          intro hx1_23 hx2_23 x3_23 hx3_23 hx4_23 x5_23 hx5_23 x6_23 hx6_23 hi0_23 hm_23
          exfalso; omega
        | succ n_23 ih_23 =>
          intro hx1_23 hx2_23 x3_23 hx3_23 hx4_23 x5_23 hx5_23 x6_23 hx6_23 hi0_23 hm_23 H locs hW  ls hl
          have j_64 : 0 ≤ x1 ∧ x1 ≤ 99 → (-2147483648) ≤ x2 ∧ x2 ≤ 2147483647 → 0 ≤ x4_5 ∧ x4_5 ≤ 3 → (-2147483648) ≤ x5_23 ∧ x5_23 ≤ 2147483647 → 0 ≤ x6_23 ∧ x6_23 ≤ 9 → 0 ≤ x3_23 ∧ x3_23 ≤ 39960 → ∀ (y1_64 : Int), 0 ≤ y1_64 ∧ y1_64 ≤ 999 → (x3_23 ≤ 9990 * x4_5 + 999 * x6_23) → ∀ (H : Heap) (locs : List Loc), tf_n tf_kt g M_X10_hoursAbove T s.heap T H locs → ∀ (ls : Array Slot), lv_has ls 7 [(0, .ref a0), (1, .int (Int32.ofInt x1)), (2, .int (Int32.ofInt x2)), (4, .int (Int32.ofInt x4_5)), (5, .int (Int32.ofInt x5_23)), (6, .int (Int32.ofInt x6_23))] → W p l e R s m args below meth c H locs 0 0 Q (F0 m 64 ls [.int (Int32.ofInt y1_64), .int (Int32.ofInt x3_23)]) := by
            intro hx1_64 hx2_64 hx4_64 hx5_64 hx6_64 hy0_64 y1_64 hy1_64 hi0_64 H locs hW  ls hl
            refine tf_iadd hx hb dX10_hoursAbove_64 ?_
            refine lv_istore_n (lv' := [(3, .int (Int32.ofInt ((x3_23 + y1_64)))), (0, .ref a0), (1, .int (Int32.ofInt x1)), (2, .int (Int32.ofInt x2)), (4, .int (Int32.ofInt x4_5)), (5, .int (Int32.ofInt x5_23)), (6, .int (Int32.ofInt x6_23))]) hx hb dX10_hoursAbove_65 rfl hl (by decide) rfl (fun ls hl => ?_)
            refine lv_iinc (v := Int32.ofInt ((x6_23 + 1))) (lv' := [(6, .int (Int32.ofInt ((x6_23 + 1)))), (3, .int (Int32.ofInt ((x3_23 + y1_64)))), (0, .ref a0), (1, .int (Int32.ofInt x1)), (2, .int (Int32.ofInt x2)), (4, .int (Int32.ofInt x4_5)), (5, .int (Int32.ofInt x5_23))]) hx hb dX10_hoursAbove_66 hl (k := 6) rfl (Int32.ofInt_add _ _).symm (by decide) rfl (fun ls hl => ?_)
            refine lv_goto (tgt := 23) hx hb dX10_hoursAbove_69 (by decide) ?_
            exact ih_23 ⟨by omega, by omega⟩ ⟨by omega, by omega⟩ ((x3_23 + y1_64)) ⟨by omega, by omega⟩ ⟨by omega, by omega⟩ (x5_23) ⟨by omega, by omega⟩ ((x6_23 + 1)) ⟨by omega, by omega⟩ (by omega) (by omega) _ _ hW  _ (lv_sub hl [2, 3, 4, 1, 5, 6, 0] rfl)
          refine lv_iload hx hb dX10_hoursAbove_23 (lv_at hl 6 rfl) ?_
          refine tf_bipush hx hb dX10_hoursAbove_25 (by decide) ?_
          refine tf_icmp_ge (tgt := 72) hx hb ⟨by omega, by omega⟩ ⟨by decide, by decide⟩ dX10_hoursAbove_27 (by decide) (fun h1 => ?_) (fun h1 => ?_)
          · refine lv_iinc (v := Int32.ofInt ((x4_5 + 1))) (lv' := [(4, .int (Int32.ofInt ((x4_5 + 1)))), (0, .ref a0), (1, .int (Int32.ofInt x1)), (2, .int (Int32.ofInt x2)), (3, .int (Int32.ofInt x3_23)), (5, .int (Int32.ofInt x5_23)), (6, .int (Int32.ofInt x6_23))]) hx hb dX10_hoursAbove_72 hl (k := 4) rfl (Int32.ofInt_add _ _).symm (by decide) rfl (fun ls hl => ?_)
            refine lv_goto (tgt := 5) hx hb dX10_hoursAbove_75 (by decide) ?_
            exact ih_5 ⟨by omega, by omega⟩ ⟨by omega, by omega⟩ (x3_23) ⟨by omega, by omega⟩ ((x4_5 + 1)) ⟨by omega, by omega⟩ (by omega) (by omega) _ _ hW  _ (lv_sub hl [1, 2, 3, 4, 0] rfl)
          · refine lv_iload_n hx hb dX10_hoursAbove_30 rfl (lv_at hl 3 rfl) ?_
            refine lv_iload hx hb dX10_hoursAbove_31 (lv_at hl 6 rfl) ?_
            refine lv_iload hx hb dX10_hoursAbove_33 (lv_at hl 5 rfl) ?_
            refine tf_imul_any hx hb dX10_hoursAbove_35 (fun z2 hz2 => ?_)
            refine tf_bipush hx hb dX10_hoursAbove_36 (by decide) ?_
            refine lv_iload_n hx hb dX10_hoursAbove_38 rfl (lv_at hl 2 rfl) ?_
            refine tf_imul_any hx hb dX10_hoursAbove_39 (fun z3 hz3 => ?_)
            refine tf_icmp_le (tgt := 63) hx hb ⟨by omega, by omega⟩ ⟨by omega, by omega⟩ dX10_hoursAbove_40 (by decide) (fun h4 => ?_) (fun h4 => ?_)
            · refine tf_iconst hx hb dX10_hoursAbove_63 ?_
              exact j_64 ⟨by omega, by omega⟩ ⟨by omega, by omega⟩ ⟨by omega, by omega⟩ ⟨by omega, by omega⟩ ⟨by omega, by omega⟩ ⟨by omega, by omega⟩ (0) ⟨by omega, by omega⟩ (by omega) _ _ hW  _ (lv_sub hl [0, 1, 2, 4, 5, 6] rfl)
            · refine lv_aload_n hx hb dX10_hoursAbove_43 rfl (lv_at hl 0 rfl) ?_
              refine tf_get hx hb hts inlX10 hown hK (ci := 10) rfl hW ha0 rfl 3 rfl (by decide) (hts _ fl_X10_13) dX10_hoursAbove_44 (fun v5 hv5 hsv5 => ?_)
              obtain ⟨ad6, rfl, had6⟩ := tf_v1 hv5
              refine tf_sipush hx hb dX10_hoursAbove_47 (by decide) ?_
              refine tf_bipush hx hb dX10_hoursAbove_50 (by decide) ?_
              refine lv_iload hx hb dX10_hoursAbove_52 (lv_at hl 4 rfl) ?_
              refine tf_imul hx hb dX10_hoursAbove_54 ?_
              refine tf_iadd hx hb dX10_hoursAbove_55 ?_
              refine lv_iload hx hb dX10_hoursAbove_56 (lv_at hl 6 rfl) ?_
              refine tf_iadd hx hb dX10_hoursAbove_58 ?_
              refine tf_iald (t0 := 0) hx hb hK hW had6 rfl rfl (by omega) (by omega) dX10_hoursAbove_59 (fun v7 hv7 hsv7 => ?_)
              obtain ⟨z8, rfl, hz8⟩ := tf_v0 hv7
              have hg9 := tf_rdH (tf_ROof hW had6) hsv7 ⟨by omega, by omega⟩ (by omega)
              refine lv_goto (tgt := 64) hx hb dX10_hoursAbove_60 (by decide) ?_
              exact j_64 ⟨by omega, by omega⟩ ⟨by omega, by omega⟩ ⟨by omega, by omega⟩ ⟨by omega, by omega⟩ ⟨by omega, by omega⟩ ⟨by omega, by omega⟩ (z8) ⟨by omega, by omega⟩ (by omega) _ _ hW  _ (lv_sub hl [0, 1, 2, 4, 5, 6] rfl)
      refine lv_iload hx hb dX10_hoursAbove_5 (lv_at hl 4 rfl) ?_
      refine tf_iconst hx hb dX10_hoursAbove_7 ?_
      refine tf_icmp_ge (tgt := 78) hx hb ⟨by omega, by omega⟩ ⟨by decide, by decide⟩ dX10_hoursAbove_8 (by decide) (fun h10 => ?_) (fun h10 => ?_)
      · refine lv_iload_n hx hb dX10_hoursAbove_78 rfl (lv_at hl 3 rfl) ?_
        exact tf_reti (z := x3_5) hx hb hr hlocks hQ hW (show 0 ≤ (x3_5) ∧ (x3_5) ≤ 39960 by omega) dX10_hoursAbove_79
      · refine lv_aload_n hx hb dX10_hoursAbove_11 rfl (lv_at hl 0 rfl) ?_
        refine lv_iload_n hx hb dX10_hoursAbove_12 rfl (lv_at hl 1 rfl) ?_
        refine lv_iload hx hb dX10_hoursAbove_13 (lv_at hl 4 rfl) ?_
        refine tf_calli (va_runV (As := [.int (Int32.ofInt x1), .int (Int32.ofInt x4_5)]) (rest := []) ⟨hx, hb, hml, hown, hts⟩ (c_X10_quickIn l g T a0 ha0 (x1) ⟨by omega, by omega⟩ (x4_5) ⟨by omega, by omega⟩) (cwV 2 hts gv_X10_408 rfl rfl rfl hd_X10_quickIn ⟨Nat.le_trans (by decide) hR1, Nat.le_trans (by decide) hR2⟩) (tf_preV hk hW ha0 (ci := 10) rfl rfl trivial) rfl rfl hl.1 rfl (lv_room (Nat.le_of_ble_eq_true rfl)) dX10_hoursAbove_15 ⟨Nat.zero_le _, Nat.zero_le _⟩) hW (by decide) (fun z11 H11 locs11 hW hF11 hp11 => ?_)
        obtain ⟨hp11_0, hp11_1⟩ := hp11
        refine lv_istore (lv' := [(5, .int (Int32.ofInt z11)), (0, .ref a0), (1, .int (Int32.ofInt x1)), (2, .int (Int32.ofInt x2)), (3, .int (Int32.ofInt x3_5)), (4, .int (Int32.ofInt x4_5))]) hx hb dX10_hoursAbove_18 hl (by decide) rfl (fun ls hl => ?_)
        refine tf_iconst hx hb dX10_hoursAbove_20 ?_
        refine lv_istore (lv' := [(6, .int (Int32.ofInt 0)), (5, .int (Int32.ofInt z11)), (0, .ref a0), (1, .int (Int32.ofInt x1)), (2, .int (Int32.ofInt x2)), (3, .int (Int32.ofInt x3_5)), (4, .int (Int32.ofInt x4_5))]) hx hb dX10_hoursAbove_21 hl (by decide) rfl (fun ls hl => ?_)
        exact j_23 ((10 - 0 + 1 : Int)).toNat ⟨by omega, by omega⟩ ⟨by omega, by omega⟩ (x3_5) ⟨by omega, by omega⟩ ⟨by omega, by omega⟩ (z11) ⟨by omega, by omega⟩ (0) ⟨by omega, by omega⟩ (by omega) (by omega) _ _ hW  _ (lv_sub hl [2, 3, 4, 5, 6, 1, 0] rfl)
  refine tf_enter (As := [.ref a0, .int (Int32.ofInt x1), .int (Int32.ofInt x2)]) hargs (Nat.le_of_ble_eq_true rfl) (fun ls hl => ?_)
  have hl : lv_has ls 7 [(0, .ref a0), (1, .int (Int32.ofInt x1)), (2, .int (Int32.ofInt x2))] := hl
  refine tf_iconst hx hb dX10_hoursAbove_0 ?_
  refine lv_istore_n (lv' := [(3, .int (Int32.ofInt 0)), (0, .ref a0), (1, .int (Int32.ofInt x1)), (2, .int (Int32.ofInt x2))]) hx hb dX10_hoursAbove_1 rfl hl (by decide) rfl (fun ls hl => ?_)
  refine tf_iconst hx hb dX10_hoursAbove_2 ?_
  refine lv_istore (lv' := [(4, .int (Int32.ofInt 0)), (3, .int (Int32.ofInt 0)), (0, .ref a0), (1, .int (Int32.ofInt x1)), (2, .int (Int32.ofInt x2))]) hx hb dX10_hoursAbove_3 hl (by decide) rfl (fun ls hl => ?_)
  exact j_5 ((4 - 0 + 1 : Int)).toNat ⟨by omega, by omega⟩ ⟨by omega, by omega⟩ (0) ⟨by omega, by omega⟩ (0) ⟨by omega, by omega⟩ (by omega) (by omega) _ _ hW  _ (lv_sub hl [2, 3, 4, 1, 0] rfl)

abbrev M_X10_overIn : List (Nat × Nat) := [(38, 0), (39, 0), (50, 26), (50, 29), (50, 30), (50, 31), (50, 37), (50, 38), (50, 39), (50, 40), (50, 41), (50, 42)]
set_option maxHeartbeats 4000000 in
set_option maxRecDepth 100000 in
theorem c_X10_overIn (l : Launch) (g : tf_G) (T : tf_T) (a0 : Nat) (ha0 : T a0 = some (50, 0)) (x1 : Int) (hp1 : 0 ≤ x1 ∧ x1 ≤ 99) : Met l yX10_overIn (cd_X10_overIn :: wsL_law) ({ frames := 7, cells := 0, slots := 0, locals := 180 }) (tf_P g T [.ref a0, .int (Int32.ofInt x1)] (fun H => True)) (tf_Qi g M_X10_overIn T (fun z _ _ => 0 ≤ z ∧ z ≤ 39960)) 0 0 (fun q => tf_B g ≤ q) := by
  refine Met.ofW (cc := cX10_overIn) (maxL := 3) (ret := (some .int)) (by decide) rfl ?_
  intro p e s m args below meth c s₁ B hml hv
  obtain ⟨hargs, hk, hW0, hB, hpre⟩ := hv
  have hx := B.exec
  have hb := B.bytes
  have hr := B.returns
  have hts : ∀ w ∈ wsL_law, w.before args s = true := fun w h => atoms_spec (ws := cd_X10_overIn :: wsL_law) B.pre w (List.mem_cons_of_mem _ h)
  have hown : s.vm.findClass RX10 = some m.cls := findClass_of_methodNamed B.named
  have hlocks := B.notSynchronized
  have hK := hk.1
  have hW := tf_n.start (M := M_X10_overIn) hW0 hB
  obtain ⟨Q, hQ⟩ : ∃ q, q = MQ below (tf_Qi g M_X10_overIn T (fun z _ _ => 0 ≤ z ∧ z ≤ 39960)) args s 0 0 (fun q => tf_B g ≤ q) := ⟨_, rfl⟩
  rw [← hQ]
  obtain ⟨R, hR⟩ : ∃ q, q = (headSpec (cd_X10_overIn :: wsL_law) ({ frames := 7, cells := 0, slots := 0, locals := 180 })).room := ⟨_, rfl⟩
  rw [← hR]
  have hR1 : 7 ≤ R.frames := by rw [hR]; exact Nat.le_refl _
  have hR2 : 180 ≤ R.locals := by rw [hR]; exact Nat.le_refl _
  have hR3 : 0 ≤ R.cells := by rw [hR]; exact Nat.le_refl _
  have hR4 : 0 ≤ R.slots := by rw [hR]; exact Nat.le_refl _
  have hin := (name_of_methodNamed B.named B.method).1
  clear hR B
  refine tf_enter (As := [.ref a0, .int (Int32.ofInt x1)]) hargs (Nat.le_of_ble_eq_true rfl) (fun ls hl => ?_)
  have hl : lv_has ls 3 [(0, .ref a0), (1, .int (Int32.ofInt x1))] := hl
  refine lv_aload_n hx hb dX10_overIn_0 rfl (lv_at hl 0 rfl) ?_
  refine tf_get hx hb hts inlX10 hown hK (ci := 10) rfl hW ha0 rfl 32 rfl (by decide) (hts _ fl_X10_73) dX10_overIn_1 (fun v1 hv1 hsv1 => ?_)
  obtain ⟨ad2, rfl, had2⟩ := tf_v1 hv1
  refine lv_iload_n hx hb dX10_overIn_4 rfl (lv_at hl 1 rfl) ?_
  refine tf_iald (t0 := 0) hx hb hK hW had2 rfl rfl (by omega) (by omega) dX10_overIn_5 (fun v3 hv3 hsv3 => ?_)
  obtain ⟨z4, rfl, hz4⟩ := tf_v0 hv3
  refine tf_iconst hx hb dX10_overIn_6 ?_
  refine tf_icmp_ne (tgt := 19) hx hb ⟨by omega, by omega⟩ ⟨by decide, by decide⟩ dX10_overIn_7 (by decide) (fun h5 => ?_) (fun h5 => ?_)
  · refine tf_iconst hx hb dX10_overIn_19 ?_
    exact tf_reti (z := 0) hx hb hr hlocks hQ hW (show 0 ≤ (0) ∧ (0) ≤ 39960 by omega) dX10_overIn_20
  · refine lv_aload_n hx hb dX10_overIn_10 rfl (lv_at hl 0 rfl) ?_
    refine tf_get hx hb hts inlX10 hown hK (ci := 10) rfl hW ha0 rfl 35 rfl (by decide) (hts _ fl_X10_82) dX10_overIn_11 (fun v6 hv6 hsv6 => ?_)
    obtain ⟨ad7, rfl, had7⟩ := tf_v1 hv6
    refine lv_iload_n hx hb dX10_overIn_14 rfl (lv_at hl 1 rfl) ?_
    refine tf_iald (t0 := 0) hx hb hK hW had7 rfl rfl (by omega) (by omega) dX10_overIn_15 (fun v8 hv8 hsv8 => ?_)
    obtain ⟨z9, rfl, hz9⟩ := tf_v0 hv8
    refine tf_if_ne (tgt := 21) hx hb ⟨by omega, by omega⟩ dX10_overIn_16 (by decide) (fun h10 => ?_) (fun h10 => ?_)
    · refine lv_aload_n hx hb dX10_overIn_21 rfl (lv_at hl 0 rfl) ?_
      refine lv_iload_n hx hb dX10_overIn_22 rfl (lv_at hl 1 rfl) ?_
      refine lv_aload_n hx hb dX10_overIn_23 rfl (lv_at hl 0 rfl) ?_
      refine lv_aload_n hx hb dX10_overIn_24 rfl (lv_at hl 0 rfl) ?_
      refine tf_get hx hb hts inlX10 hown hK (ci := 10) rfl hW ha0 rfl 35 rfl (by decide) (hts _ fl_X10_82) dX10_overIn_25 (fun v11 hv11 hsv11 => ?_)
      obtain rfl : v11 = .ref ad7 := Option.some.inj (hsv11.symm.trans hsv6)
      refine lv_iload_n hx hb dX10_overIn_28 rfl (lv_at hl 1 rfl) ?_
      refine tf_iald (t0 := 0) hx hb hK hW had7 rfl rfl (by omega) (by omega) dX10_overIn_29 (fun v12 hv12 hsv12 => ?_)
      obtain ⟨z13, rfl, hz13⟩ := tf_v0 hv12
      refine tf_calli (va_runV (As := [.int (Int32.ofInt z13)]) (rest := [.int (Int32.ofInt x1), .ref a0]) ⟨hx, hb, hml, hown, hts⟩ (c_X10_paceOf l g T a0 ha0 (z13) ⟨by omega, by omega⟩) (cwV 1 hts gv_X10_413 rfl rfl rfl hd_X10_paceOf ⟨Nat.le_trans (by decide) hR1, Nat.le_trans (by decide) hR2⟩) (tf_preV hk hW ha0 (ci := 10) rfl rfl trivial) rfl rfl hl.1 rfl (lv_room (Nat.le_of_ble_eq_true rfl)) dX10_overIn_30 ⟨Nat.zero_le _, Nat.zero_le _⟩) hW (by decide) (fun z14 H14 locs14 hW hF14 hp14 => ?_)
      have hs15 := tf_keepF hF14 ha0 rfl rfl (by decide) hsv6
      obtain ⟨hp14_0, hp14_1⟩ := hp14
      refine tf_calli (va_runV (As := [.int (Int32.ofInt x1), .int (Int32.ofInt z14)]) (rest := []) ⟨hx, hb, hml, hown, hts⟩ (c_X10_hoursAbove l g T a0 ha0 (x1) ⟨by omega, by omega⟩ (z14) ⟨by omega, by omega⟩) (cwV 2 hts gv_X10_416 rfl rfl rfl hd_X10_hoursAbove ⟨Nat.le_trans (by decide) hR1, Nat.le_trans (by decide) hR2⟩) (tf_preV hk hW ha0 (ci := 10) rfl rfl trivial) rfl rfl hl.1 rfl (lv_room (Nat.le_of_ble_eq_true rfl)) dX10_overIn_33 ⟨Nat.zero_le _, Nat.zero_le _⟩) hW (by decide) (fun z16 H16 locs16 hW hF16 hp16 => ?_)
      have hs17 := tf_keepF hF16 ha0 rfl rfl (by decide) hs15
      obtain ⟨hp16_0, hp16_1⟩ := hp16
      refine lv_aload_n hx hb dX10_overIn_36 rfl (lv_at hl 0 rfl) ?_
      refine tf_get hx hb hts inlX10 hown hK (ci := 10) rfl hW ha0 rfl 3 rfl (by decide) (hts _ fl_X10_13) dX10_overIn_37 (fun v18 hv18 hsv18 => ?_)
      obtain ⟨ad19, rfl, had19⟩ := tf_v1 hv18
      refine tf_iconst hx hb dX10_overIn_40 ?_
      refine tf_iconst hx hb dX10_overIn_41 ?_
      refine lv_aload_n hx hb dX10_overIn_42 rfl (lv_at hl 0 rfl) ?_
      refine tf_get hx hb hts inlX10 hown hK (ci := 10) rfl hW ha0 rfl 35 rfl (by decide) (hts _ fl_X10_82) dX10_overIn_43 (fun v20 hv20 hsv20 => ?_)
      obtain rfl : v20 = .ref ad7 := Option.some.inj (hsv20.symm.trans hs17)
      refine lv_iload_n hx hb dX10_overIn_46 rfl (lv_at hl 1 rfl) ?_
      refine tf_iald (t0 := 0) hx hb hK hW had7 rfl rfl (by omega) (by omega) dX10_overIn_47 (fun v21 hv21 hsv21 => ?_)
      obtain ⟨z22, rfl, hz22⟩ := tf_v0 hv21
      refine tf_iconst hx hb dX10_overIn_48 ?_
      refine tf_isub hx hb dX10_overIn_49 ?_
      refine tf_imul hx hb dX10_overIn_50 ?_
      refine tf_iadd hx hb dX10_overIn_51 ?_
      refine tf_iconst hx hb dX10_overIn_52 ?_
      refine tf_iadd hx hb dX10_overIn_53 ?_
      refine tf_iald (t0 := 0) hx hb hK hW had19 rfl rfl (by omega) (by omega) dX10_overIn_54 (fun v23 hv23 hsv23 => ?_)
      obtain ⟨z24, rfl, hz24⟩ := tf_v0 hv23
      have hg25 := tf_rdM (tf_ROof hW had19) hsv23 ⟨by omega, by omega⟩ (by omega)
      refine tf_isub hx hb dX10_overIn_55 ?_
      refine lv_istore_n (lv' := [(2, .int (Int32.ofInt ((z16 - z24)))), (0, .ref a0), (1, .int (Int32.ofInt x1))]) hx hb dX10_overIn_56 rfl hl (by decide) rfl (fun ls hl => ?_)
      refine lv_iload_n hx hb dX10_overIn_57 rfl (lv_at hl 0 rfl) ?_
      refine tf_if_ge (tgt := 65) hx hb ⟨by omega, by omega⟩ dX10_overIn_58 (by decide) (fun h26 => ?_) (fun h26 => ?_)
      · refine lv_iload_n hx hb dX10_overIn_65 rfl (lv_at hl 0 rfl) ?_
        exact tf_reti (z := (z16 - z24)) hx hb hr hlocks hQ hW (show 0 ≤ ((z16 - z24)) ∧ ((z16 - z24)) ≤ 39960 by omega) dX10_overIn_66
      · refine tf_iconst hx hb dX10_overIn_61 ?_
        refine lv_goto (tgt := 66) hx hb dX10_overIn_62 (by decide) ?_
        exact tf_reti (z := 0) hx hb hr hlocks hQ hW (show 0 ≤ (0) ∧ (0) ≤ 39960 by omega) dX10_overIn_66
    · refine tf_iconst hx hb dX10_overIn_19 ?_
      exact tf_reti (z := 0) hx hb hr hlocks hQ hW (show 0 ≤ (0) ∧ (0) ≤ 39960 by omega) dX10_overIn_20

abbrev M_X10_overAll : List (Nat × Nat) := [(38, 0), (39, 0), (50, 26), (50, 29), (50, 30), (50, 31), (50, 37), (50, 38), (50, 39), (50, 40), (50, 41), (50, 42)]
set_option maxHeartbeats 4000000 in
set_option maxRecDepth 100000 in
theorem c_X10_overAll (l : Launch) (g : tf_G) (T : tf_T) (a0 : Nat) (ha0 : T a0 = some (50, 0)) : Met l yX10_overAll (cd_X10_overAll :: wsL_law) ({ frames := 8, cells := 0, slots := 0, locals := 202 }) (tf_P g T [.ref a0] (fun H => True)) (tf_Qi g M_X10_overAll T (fun z _ _ => 0 ≤ z ∧ z ≤ 3996000)) 0 0 (fun q => tf_B g ≤ q) := by
  refine Met.ofW (cc := cX10_overAll) (maxL := 3) (ret := (some .int)) (by decide) rfl ?_
  intro p e s m args below meth c s₁ B hml hv
  obtain ⟨hargs, hk, hW0, hB, hpre⟩ := hv
  have hx := B.exec
  have hb := B.bytes
  have hr := B.returns
  have hts : ∀ w ∈ wsL_law, w.before args s = true := fun w h => atoms_spec (ws := cd_X10_overAll :: wsL_law) B.pre w (List.mem_cons_of_mem _ h)
  have hown : s.vm.findClass RX10 = some m.cls := findClass_of_methodNamed B.named
  have hlocks := B.notSynchronized
  have hK := hk.1
  have hW := tf_n.start (M := M_X10_overAll) hW0 hB
  obtain ⟨Q, hQ⟩ : ∃ q, q = MQ below (tf_Qi g M_X10_overAll T (fun z _ _ => 0 ≤ z ∧ z ≤ 3996000)) args s 0 0 (fun q => tf_B g ≤ q) := ⟨_, rfl⟩
  rw [← hQ]
  obtain ⟨R, hR⟩ : ∃ q, q = (headSpec (cd_X10_overAll :: wsL_law) ({ frames := 8, cells := 0, slots := 0, locals := 202 })).room := ⟨_, rfl⟩
  rw [← hR]
  have hR1 : 8 ≤ R.frames := by rw [hR]; exact Nat.le_refl _
  have hR2 : 202 ≤ R.locals := by rw [hR]; exact Nat.le_refl _
  have hR3 : 0 ≤ R.cells := by rw [hR]; exact Nat.le_refl _
  have hR4 : 0 ≤ R.slots := by rw [hR]; exact Nat.le_refl _
  have hin := (name_of_methodNamed B.named B.method).1
  clear hR B
  have j_4 : ∀ (n_4 : Nat), ∀ (x1_4 : Int), 0 ≤ x1_4 ∧ x1_4 ≤ 3996000 → ∀ (x2_4 : Int), 0 ≤ x2_4 ∧ x2_4 ≤ 100 → (x1_4 ≤ 39960 * x2_4) → (100 - x2_4 + 1 ≤ (n_4 : Int)) → ∀ (H : Heap) (locs : List Loc), tf_n tf_kt g M_X10_overAll T s.heap T H locs → ∀ (ls : Array Slot), lv_has ls 3 [(0, .ref a0), (1, .int (Int32.ofInt x1_4)), (2, .int (Int32.ofInt x2_4))] → W p l e R s m args below meth c H locs 0 0 Q (F0 m 4 ls []) := by
    intro n_4
    induction n_4 with
    | zero =>
      intro x1_4 hx1_4 x2_4 hx2_4 hi0_4 hm_4
      exfalso; omega
    | succ n_4 ih_4 =>
      intro x1_4 hx1_4 x2_4 hx2_4 hi0_4 hm_4 H locs hW  ls hl
      refine lv_iload_n hx hb dX10_overAll_4 rfl (lv_at hl 2 rfl) ?_
      refine tf_bipush hx hb dX10_overAll_5 (by decide) ?_
      refine tf_icmp_ge (tgt := 24) hx hb ⟨by omega, by omega⟩ ⟨by decide, by decide⟩ dX10_overAll_7 (by decide) (fun h1 => ?_) (fun h1 => ?_)
      · refine lv_iload_n hx hb dX10_overAll_24 rfl (lv_at hl 1 rfl) ?_
        exact tf_reti (z := x1_4) hx hb hr hlocks hQ hW (show 0 ≤ (x1_4) ∧ (x1_4) ≤ 3996000 by omega) dX10_overAll_25
      · refine lv_iload_n hx hb dX10_overAll_10 rfl (lv_at hl 1 rfl) ?_
        refine lv_aload_n hx hb dX10_overAll_11 rfl (lv_at hl 0 rfl) ?_
        refine lv_iload_n hx hb dX10_overAll_12 rfl (lv_at hl 2 rfl) ?_
        refine tf_calli (va_runV (As := [.int (Int32.ofInt x2_4)]) (rest := [.int (Int32.ofInt x1_4)]) ⟨hx, hb, hml, hown, hts⟩ (c_X10_overIn l g T a0 ha0 (x2_4) ⟨by omega, by omega⟩) (cwV 1 hts gv_X10_419 rfl rfl rfl hd_X10_overIn ⟨Nat.le_trans (by decide) hR1, Nat.le_trans (by decide) hR2⟩) (tf_preV hk hW ha0 (ci := 10) rfl rfl trivial) rfl rfl hl.1 rfl (lv_room (Nat.le_of_ble_eq_true rfl)) dX10_overAll_13 ⟨Nat.zero_le _, Nat.zero_le _⟩) hW (by decide) (fun z2 H2 locs2 hW hF2 hp2 => ?_)
        obtain ⟨hp2_0, hp2_1⟩ := hp2
        refine tf_iadd hx hb dX10_overAll_16 ?_
        refine lv_istore_n (lv' := [(1, .int (Int32.ofInt ((x1_4 + z2)))), (0, .ref a0), (2, .int (Int32.ofInt x2_4))]) hx hb dX10_overAll_17 rfl hl (by decide) rfl (fun ls hl => ?_)
        refine lv_iinc (v := Int32.ofInt ((x2_4 + 1))) (lv' := [(2, .int (Int32.ofInt ((x2_4 + 1)))), (1, .int (Int32.ofInt ((x1_4 + z2)))), (0, .ref a0)]) hx hb dX10_overAll_18 hl (k := 2) rfl (Int32.ofInt_add _ _).symm (by decide) rfl (fun ls hl => ?_)
        refine lv_goto (tgt := 4) hx hb dX10_overAll_21 (by decide) ?_
        exact ih_4 ((x1_4 + z2)) ⟨by omega, by omega⟩ ((x2_4 + 1)) ⟨by omega, by omega⟩ (by omega) (by omega) _ _ hW  _ (lv_sub hl [2, 1, 0] rfl)
  refine tf_enter (As := [.ref a0]) hargs (Nat.le_of_ble_eq_true rfl) (fun ls hl => ?_)
  have hl : lv_has ls 3 [(0, .ref a0)] := hl
  refine tf_iconst hx hb dX10_overAll_0 ?_
  refine lv_istore_n (lv' := [(1, .int (Int32.ofInt 0)), (0, .ref a0)]) hx hb dX10_overAll_1 rfl hl (by decide) rfl (fun ls hl => ?_)
  refine tf_iconst hx hb dX10_overAll_2 ?_
  refine lv_istore_n (lv' := [(2, .int (Int32.ofInt 0)), (1, .int (Int32.ofInt 0)), (0, .ref a0)]) hx hb dX10_overAll_3 rfl hl (by decide) rfl (fun ls hl => ?_)
  exact j_4 ((100 - 0 + 1 : Int)).toNat (0) ⟨by omega, by omega⟩ (0) ⟨by omega, by omega⟩ (by omega) (by omega) _ _ hW  _ (lv_sub hl [2, 1, 0] rfl)

abbrev M_X10_above : List (Nat × Nat) := [(38, 0), (39, 0), (40, 0), (41, 0), (42, 0), (43, 0), (44, 0), (50, 0), (50, 26), (50, 29), (50, 30), (50, 31), (50, 37), (50, 38), (50, 39), (50, 40), (50, 41), (50, 42)]
set_option maxHeartbeats 4000000 in
set_option maxRecDepth 100000 in
theorem c_X10_above (l : Launch) (g : tf_G) (T : tf_T) (a0 : Nat) (ha0 : T a0 = some (50, 0)) (x1 : Int) (hp1 : (-2147483648) ≤ x1 ∧ x1 ≤ 2147483647) (x2 : Int) (hp2 : (-2147483648) ≤ x2 ∧ x2 ≤ 2147483647) : Met l yX10_above (cd_X10_above :: wsL_law) ({ frames := 7, cells := 0, slots := 0, locals := 180 }) (tf_P g T [.ref a0, .int (Int32.ofInt x1), .int (Int32.ofInt x2)] (fun H => True)) (tf_Qi g M_X10_above T (fun z _ _ => (-2147483648) ≤ z ∧ z ≤ 2147483647)) 0 0 (fun q => tf_B g ≤ q) := by
  refine Met.ofW (cc := cX10_above) (maxL := 3) (ret := (some .int)) (by decide) rfl ?_
  intro p e s m args below meth c s₁ B hml hv
  obtain ⟨hargs, hk, hW0, hB, hpre⟩ := hv
  have hx := B.exec
  have hb := B.bytes
  have hr := B.returns
  have hts : ∀ w ∈ wsL_law, w.before args s = true := fun w h => atoms_spec (ws := cd_X10_above :: wsL_law) B.pre w (List.mem_cons_of_mem _ h)
  have hown : s.vm.findClass RX10 = some m.cls := findClass_of_methodNamed B.named
  have hlocks := B.notSynchronized
  have hK := hk.1
  have hW := tf_n.start (M := M_X10_above) hW0 hB
  obtain ⟨Q, hQ⟩ : ∃ q, q = MQ below (tf_Qi g M_X10_above T (fun z _ _ => (-2147483648) ≤ z ∧ z ≤ 2147483647)) args s 0 0 (fun q => tf_B g ≤ q) := ⟨_, rfl⟩
  rw [← hQ]
  obtain ⟨R, hR⟩ : ∃ q, q = (headSpec (cd_X10_above :: wsL_law) ({ frames := 7, cells := 0, slots := 0, locals := 180 })).room := ⟨_, rfl⟩
  rw [← hR]
  have hR1 : 7 ≤ R.frames := by rw [hR]; exact Nat.le_refl _
  have hR2 : 180 ≤ R.locals := by rw [hR]; exact Nat.le_refl _
  have hR3 : 0 ≤ R.cells := by rw [hR]; exact Nat.le_refl _
  have hR4 : 0 ≤ R.slots := by rw [hR]; exact Nat.le_refl _
  have hin := (name_of_methodNamed B.named B.method).1
  clear hR B
  refine tf_enter (As := [.ref a0, .int (Int32.ofInt x1), .int (Int32.ofInt x2)]) hargs (Nat.le_of_ble_eq_true rfl) (fun ls hl => ?_)
  have hl : lv_has ls 3 [(0, .ref a0), (1, .int (Int32.ofInt x1)), (2, .int (Int32.ofInt x2))] := hl
  refine lv_aload_n hx hb dX10_above_0 rfl (lv_at hl 0 rfl) ?_
  refine tf_iconst hx hb dX10_above_1 ?_
  refine tf_put hx hb hts inlX10 tyX10 tyX10_ok nmX10 hown hK (ci := 10) rfl hW ha0 rfl rfl 0 rfl (by decide) (by decide) (hts _ fl_X10_103) rfl (tf_u0 (by omega) (by omega)) rfl rfl dX10_above_2 (fun H1 locs1 hW hs1 ht1 hq1 => ?_)
  refine lv_aload_n hx hb dX10_above_5 rfl (lv_at hl 0 rfl) ?_
  refine lv_iload_n hx hb dX10_above_6 rfl (lv_at hl 1 rfl) ?_
  refine tf_calli (va_runV (As := [.int (Int32.ofInt x1)]) (rest := []) ⟨hx, hb, hml, hown, hts⟩ (c_X10_isGround l g T a0 ha0 (x1) ⟨by omega, by omega⟩) (cwV 1 hts gv_X10_148 rfl rfl rfl hd_X10_isGround ⟨Nat.le_trans (by decide) hR1, Nat.le_trans (by decide) hR2⟩) (tf_preV hk hW ha0 (ci := 10) rfl rfl trivial) rfl rfl hl.1 rfl (lv_room (Nat.le_of_ble_eq_true rfl)) dX10_above_7 ⟨Nat.zero_le _, Nat.zero_le _⟩) hW (by decide) (fun z2 H2 locs2 hW hF2 hp2 => ?_)
  rcases hp2 with ⟨rfl, h3, h4⟩ | ⟨rfl⟩
  · refine tf_if_eq (tgt := 25) hx hb ⟨by decide, by decide⟩ dX10_above_10 (by decide) (fun h5 => ?_) (fun h5 => ?_)
    · exfalso; omega
    · refine lv_iload_n hx hb dX10_above_13 rfl (lv_at hl 2 rfl) ?_
      refine tf_i2l hx hb ⟨by omega, by omega⟩ dX10_above_14 ?_
      refine tf_lconst (z := 0) hx hb dX10_above_15 (by decide) ?_
      refine tf_ldc2 (z := 9999) hx hb hown (hts _ kl_X10_176) (by decide) dX10_above_16 ?_
      refine tf_calli (va_runS (As := [.long (Int64.ofInt x2), .long (Int64.ofInt 0), .long (Int64.ofInt 9999)]) (rest := []) ⟨hx, hb, hml, hown, hts⟩ (c_X10_in l g T (x2) ⟨by omega, by omega⟩ (0) ⟨by omega, by omega⟩ (9999) ⟨by omega, by omega⟩) ⟨callB_of 3 hts (gw_ws cm_X10_in) rfl rfl rfl (hts _ (tw1 (i := 5) rfl)) (hts _ (tw11 (i := 3) rfl)) hd_X10_in.2 ⟨Nat.le_trans (by decide) hR1, Nat.le_trans (by decide) hR2⟩, hts _ (tw11 (i := 4) rfl)⟩ (tf_preS hk hW trivial) rfl rfl hl.1 rfl (lv_room (Nat.le_of_ble_eq_true rfl)) dX10_above_19 ⟨Nat.zero_le _, Nat.zero_le _⟩) hW (by decide) (fun z6 H6 locs6 hW hF6 hp6 => ?_)
      rcases hp6 with ⟨rfl, h7, h8⟩ | ⟨rfl, h9⟩
      · refine tf_if_ne (tgt := 27) hx hb ⟨by decide, by decide⟩ dX10_above_22 (by decide) (fun h10 => ?_) (fun h10 => ?_)
        · refine lv_aload_n hx hb dX10_above_27 rfl (lv_at hl 0 rfl) ?_
          refine tf_callv (va_runV (As := []) (rest := []) ⟨hx, hb, hml, hown, hts⟩ (c_X10_layAll l g T a0 ha0) (cwV 0 hts gv_X10_405 rfl rfl rfl hd_X10_layAll ⟨Nat.le_trans (by decide) hR1, Nat.le_trans (by decide) hR2⟩) (tf_preV hk hW ha0 (ci := 10) rfl rfl trivial) rfl rfl hl.1 rfl (lv_room (Nat.le_of_ble_eq_true rfl)) dX10_above_28 ⟨Nat.zero_le _, Nat.zero_le _⟩) hW (by decide) (fun H11 locs11 hW hF11 hp11 => ?_)
          refine lv_aload_n hx hb dX10_above_31 rfl (lv_at hl 0 rfl) ?_
          refine lv_iload_n hx hb dX10_above_32 rfl (lv_at hl 1 rfl) ?_
          refine lv_iload_n hx hb dX10_above_33 rfl (lv_at hl 2 rfl) ?_
          refine tf_calli (va_runV (As := [.int (Int32.ofInt x1), .int (Int32.ofInt x2)]) (rest := []) ⟨hx, hb, hml, hown, hts⟩ (c_X10_hoursAbove l g T a0 ha0 (x1) ⟨by omega, by omega⟩ (x2) ⟨by omega, by omega⟩) (cwV 2 hts gv_X10_416 rfl rfl rfl hd_X10_hoursAbove ⟨Nat.le_trans (by decide) hR1, Nat.le_trans (by decide) hR2⟩) (tf_preV hk hW ha0 (ci := 10) rfl rfl trivial) rfl rfl hl.1 rfl (lv_room (Nat.le_of_ble_eq_true rfl)) dX10_above_34 ⟨Nat.zero_le _, Nat.zero_le _⟩) hW (by decide) (fun z12 H12 locs12 hW hF12 hp12 => ?_)
          obtain ⟨hp12_0, hp12_1⟩ := hp12
          exact tf_reti (z := z12) hx hb hr hlocks hQ hW (show (-2147483648) ≤ (z12) ∧ (z12) ≤ 2147483647 by omega) dX10_above_37
        · exfalso; omega
      · refine tf_if_ne (tgt := 27) hx hb ⟨by decide, by decide⟩ dX10_above_22 (by decide) (fun h13 => ?_) (fun h13 => ?_)
        · exfalso; omega
        · refine tf_iconst hx hb dX10_above_25 ?_
          exact tf_reti (z := (-1)) hx hb hr hlocks hQ hW (show (-2147483648) ≤ ((-1)) ∧ ((-1)) ≤ 2147483647 by omega) dX10_above_26
  · refine tf_if_eq (tgt := 25) hx hb ⟨by decide, by decide⟩ dX10_above_10 (by decide) (fun h14 => ?_) (fun h14 => ?_)
    · refine tf_iconst hx hb dX10_above_25 ?_
      exact tf_reti (z := (-1)) hx hb hr hlocks hQ hW (show (-2147483648) ≤ ((-1)) ∧ ((-1)) ≤ 2147483647 by omega) dX10_above_26
    · exfalso; omega

abbrev M_X10_over : List (Nat × Nat) := [(38, 0), (39, 0), (40, 0), (41, 0), (42, 0), (43, 0), (44, 0), (50, 0), (50, 26), (50, 29), (50, 30), (50, 31), (50, 37), (50, 38), (50, 39), (50, 40), (50, 41), (50, 42)]
set_option maxHeartbeats 4000000 in
set_option maxRecDepth 100000 in
theorem c_X10_over (l : Launch) (g : tf_G) (T : tf_T) (a0 : Nat) (ha0 : T a0 = some (50, 0)) (x1 : Int) (hp1 : (-2147483648) ≤ x1 ∧ x1 ≤ 2147483647) : Met l yX10_over (cd_X10_over :: wsL_law) ({ frames := 9, cells := 0, slots := 0, locals := 224 }) (tf_P g T [.ref a0, .int (Int32.ofInt x1)] (fun H => True)) (tf_Qi g M_X10_over T (fun z _ _ => (-2147483648) ≤ z ∧ z ≤ 2147483647)) 0 0 (fun q => tf_B g ≤ q) := by
  refine Met.ofW (cc := cX10_over) (maxL := 2) (ret := (some .int)) (by decide) rfl ?_
  intro p e s m args below meth c s₁ B hml hv
  obtain ⟨hargs, hk, hW0, hB, hpre⟩ := hv
  have hx := B.exec
  have hb := B.bytes
  have hr := B.returns
  have hts : ∀ w ∈ wsL_law, w.before args s = true := fun w h => atoms_spec (ws := cd_X10_over :: wsL_law) B.pre w (List.mem_cons_of_mem _ h)
  have hown : s.vm.findClass RX10 = some m.cls := findClass_of_methodNamed B.named
  have hlocks := B.notSynchronized
  have hK := hk.1
  have hW := tf_n.start (M := M_X10_over) hW0 hB
  obtain ⟨Q, hQ⟩ : ∃ q, q = MQ below (tf_Qi g M_X10_over T (fun z _ _ => (-2147483648) ≤ z ∧ z ≤ 2147483647)) args s 0 0 (fun q => tf_B g ≤ q) := ⟨_, rfl⟩
  rw [← hQ]
  obtain ⟨R, hR⟩ : ∃ q, q = (headSpec (cd_X10_over :: wsL_law) ({ frames := 9, cells := 0, slots := 0, locals := 224 })).room := ⟨_, rfl⟩
  rw [← hR]
  have hR1 : 9 ≤ R.frames := by rw [hR]; exact Nat.le_refl _
  have hR2 : 224 ≤ R.locals := by rw [hR]; exact Nat.le_refl _
  have hR3 : 0 ≤ R.cells := by rw [hR]; exact Nat.le_refl _
  have hR4 : 0 ≤ R.slots := by rw [hR]; exact Nat.le_refl _
  have hin := (name_of_methodNamed B.named B.method).1
  clear hR B
  have j_20 : (-1) ≤ x1 ∧ x1 ≤ 99 → ∀ (H : Heap) (locs : List Loc), tf_n tf_kt g M_X10_over T s.heap T H locs → ∀ (ls : Array Slot), lv_has ls 2 [(0, .ref a0), (1, .int (Int32.ofInt x1))] → W p l e R s m args below meth c H locs 0 0 Q (F0 m 20 ls []) := by
    intro hx1_20 H locs hW  ls hl
    refine lv_aload_n hx hb dX10_over_20 rfl (lv_at hl 0 rfl) ?_
    refine tf_callv (va_runV (As := []) (rest := []) ⟨hx, hb, hml, hown, hts⟩ (c_X10_layAll l g T a0 ha0) (cwV 0 hts gv_X10_405 rfl rfl rfl hd_X10_layAll ⟨Nat.le_trans (by decide) hR1, Nat.le_trans (by decide) hR2⟩) (tf_preV hk hW ha0 (ci := 10) rfl rfl trivial) rfl rfl hl.1 rfl (lv_room (Nat.le_of_ble_eq_true rfl)) dX10_over_21 ⟨Nat.zero_le _, Nat.zero_le _⟩) hW (by decide) (fun H1 locs1 hW hF1 hp1 => ?_)
    refine lv_iload_n hx hb dX10_over_24 rfl (lv_at hl 1 rfl) ?_
    refine tf_iconst hx hb dX10_over_25 ?_
    refine tf_icmp_ne (tgt := 36) hx hb ⟨by omega, by omega⟩ ⟨by decide, by decide⟩ dX10_over_26 (by decide) (fun h2 => ?_) (fun h2 => ?_)
    · refine lv_aload_n hx hb dX10_over_36 rfl (lv_at hl 0 rfl) ?_
      refine lv_iload_n hx hb dX10_over_37 rfl (lv_at hl 1 rfl) ?_
      refine tf_calli (va_runV (As := [.int (Int32.ofInt x1)]) (rest := []) ⟨hx, hb, hml, hown, hts⟩ (c_X10_overIn l g T a0 ha0 (x1) ⟨by omega, by omega⟩) (cwV 1 hts gv_X10_419 rfl rfl rfl hd_X10_overIn ⟨Nat.le_trans (by decide) hR1, Nat.le_trans (by decide) hR2⟩) (tf_preV hk hW ha0 (ci := 10) rfl rfl trivial) rfl rfl hl.1 rfl (lv_room (Nat.le_of_ble_eq_true rfl)) dX10_over_38 ⟨Nat.zero_le _, Nat.zero_le _⟩) hW (by decide) (fun z3 H3 locs3 hW hF3 hp3 => ?_)
      obtain ⟨hp3_0, hp3_1⟩ := hp3
      exact tf_reti (z := z3) hx hb hr hlocks hQ hW (show (-2147483648) ≤ (z3) ∧ (z3) ≤ 2147483647 by omega) dX10_over_41
    · refine lv_aload_n hx hb dX10_over_29 rfl (lv_at hl 0 rfl) ?_
      refine tf_calli (va_runV (As := []) (rest := []) ⟨hx, hb, hml, hown, hts⟩ (c_X10_overAll l g T a0 ha0) (cwV 0 hts gv_X10_422 rfl rfl rfl hd_X10_overAll ⟨Nat.le_trans (by decide) hR1, Nat.le_trans (by decide) hR2⟩) (tf_preV hk hW ha0 (ci := 10) rfl rfl trivial) rfl rfl hl.1 rfl (lv_room (Nat.le_of_ble_eq_true rfl)) dX10_over_30 ⟨Nat.zero_le _, Nat.zero_le _⟩) hW (by decide) (fun z4 H4 locs4 hW hF4 hp4 => ?_)
      obtain ⟨hp4_0, hp4_1⟩ := hp4
      refine lv_goto (tgt := 41) hx hb dX10_over_33 (by decide) ?_
      exact tf_reti (z := z4) hx hb hr hlocks hQ hW (show (-2147483648) ≤ (z4) ∧ (z4) ≤ 2147483647 by omega) dX10_over_41
  refine tf_enter (As := [.ref a0, .int (Int32.ofInt x1)]) hargs (Nat.le_of_ble_eq_true rfl) (fun ls hl => ?_)
  have hl : lv_has ls 2 [(0, .ref a0), (1, .int (Int32.ofInt x1))] := hl
  refine lv_aload_n hx hb dX10_over_0 rfl (lv_at hl 0 rfl) ?_
  refine tf_iconst hx hb dX10_over_1 ?_
  refine tf_put hx hb hts inlX10 tyX10 tyX10_ok nmX10 hown hK (ci := 10) rfl hW ha0 rfl rfl 0 rfl (by decide) (by decide) (hts _ fl_X10_103) rfl (tf_u0 (by omega) (by omega)) rfl rfl dX10_over_2 (fun H5 locs5 hW hs5 ht5 hq5 => ?_)
  refine lv_iload_n hx hb dX10_over_5 rfl (lv_at hl 1 rfl) ?_
  refine tf_iconst hx hb dX10_over_6 ?_
  refine tf_icmp_eq (tgt := 20) hx hb ⟨by omega, by omega⟩ ⟨by decide, by decide⟩ dX10_over_7 (by decide) (fun h6 => ?_) (fun h6 => ?_)
  · exact j_20 ⟨by omega, by omega⟩ _ _ hW  _ (lv_sub hl [0, 1] rfl)
  · refine lv_aload_n hx hb dX10_over_10 rfl (lv_at hl 0 rfl) ?_
    refine lv_iload_n hx hb dX10_over_11 rfl (lv_at hl 1 rfl) ?_
    refine tf_calli (va_runV (As := [.int (Int32.ofInt x1)]) (rest := []) ⟨hx, hb, hml, hown, hts⟩ (c_X10_isGround l g T a0 ha0 (x1) ⟨by omega, by omega⟩) (cwV 1 hts gv_X10_148 rfl rfl rfl hd_X10_isGround ⟨Nat.le_trans (by decide) hR1, Nat.le_trans (by decide) hR2⟩) (tf_preV hk hW ha0 (ci := 10) rfl rfl trivial) rfl rfl hl.1 rfl (lv_room (Nat.le_of_ble_eq_true rfl)) dX10_over_12 ⟨Nat.zero_le _, Nat.zero_le _⟩) hW (by decide) (fun z7 H7 locs7 hW hF7 hp7 => ?_)
    rcases hp7 with ⟨rfl, h8, h9⟩ | ⟨rfl⟩
    · refine tf_if_ne (tgt := 20) hx hb ⟨by decide, by decide⟩ dX10_over_15 (by decide) (fun h10 => ?_) (fun h10 => ?_)
      · exact j_20 ⟨by omega, by omega⟩ _ _ hW  _ (lv_sub hl [0, 1] rfl)
      · exfalso; omega
    · refine tf_if_ne (tgt := 20) hx hb ⟨by decide, by decide⟩ dX10_over_15 (by decide) (fun h11 => ?_) (fun h11 => ?_)
      · exfalso; omega
      · refine tf_iconst hx hb dX10_over_18 ?_
        exact tf_reti (z := (-1)) hx hb hr hlocks hQ hW (show (-2147483648) ≤ ((-1)) ∧ ((-1)) ≤ 2147483647 by omega) dX10_over_19

abbrev M_X10_findBad : List (Nat × Nat) := [(38, 0), (39, 0), (45, 0), (46, 0), (50, 26), (50, 29), (50, 30), (50, 31), (50, 37), (50, 38), (50, 39), (50, 40), (50, 41), (50, 42)]
set_option maxHeartbeats 4000000 in
set_option maxRecDepth 100000 in
theorem c_X10_findBad (l : Launch) (g : tf_G) (T : tf_T) (a0 : Nat) (ha0 : T a0 = some (50, 0)) : Met l yX10_findBad (cd_X10_findBad :: wsL_law) ({ frames := 8, cells := 0, slots := 0, locals := 202 }) (tf_P g T [.ref a0] (fun H => True)) (tf_Qv g M_X10_findBad T (fun _ H => True)) 0 0 (fun q => tf_B g ≤ q) := by
  refine Met.ofW (cc := cX10_findBad) (maxL := 2) (ret := none) (by decide) rfl ?_
  intro p e s m args below meth c s₁ B hml hv
  obtain ⟨hargs, hk, hW0, hB, hpre⟩ := hv
  have hx := B.exec
  have hb := B.bytes
  have hr := B.returns
  have hts : ∀ w ∈ wsL_law, w.before args s = true := fun w h => atoms_spec (ws := cd_X10_findBad :: wsL_law) B.pre w (List.mem_cons_of_mem _ h)
  have hown : s.vm.findClass RX10 = some m.cls := findClass_of_methodNamed B.named
  have hlocks := B.notSynchronized
  have hK := hk.1
  have hW := tf_n.start (M := M_X10_findBad) hW0 hB
  obtain ⟨Q, hQ⟩ : ∃ q, q = MQ below (tf_Qv g M_X10_findBad T (fun _ H => True)) args s 0 0 (fun q => tf_B g ≤ q) := ⟨_, rfl⟩
  rw [← hQ]
  obtain ⟨R, hR⟩ : ∃ q, q = (headSpec (cd_X10_findBad :: wsL_law) ({ frames := 8, cells := 0, slots := 0, locals := 202 })).room := ⟨_, rfl⟩
  rw [← hR]
  have hR1 : 8 ≤ R.frames := by rw [hR]; exact Nat.le_refl _
  have hR2 : 202 ≤ R.locals := by rw [hR]; exact Nat.le_refl _
  have hR3 : 0 ≤ R.cells := by rw [hR]; exact Nat.le_refl _
  have hR4 : 0 ≤ R.slots := by rw [hR]; exact Nat.le_refl _
  have hin := (name_of_methodNamed B.named B.method).1
  clear hR B
  have j_2 : ∀ (n_2 : Nat), ∀ (x1_2 : Int), 0 ≤ x1_2 ∧ x1_2 ≤ 100 → (100 - x1_2 + 1 ≤ (n_2 : Int)) → ∀ (H : Heap) (locs : List Loc), tf_n tf_kt g M_X10_findBad T s.heap T H locs → ∀ (ls : Array Slot), lv_has ls 2 [(0, .ref a0), (1, .int (Int32.ofInt x1_2))] → W p l e R s m args below meth c H locs 0 0 Q (F0 m 2 ls []) := by
    intro n_2
    induction n_2 with
    | zero =>
      intro x1_2 hx1_2 hm_2
      exfalso; omega
    | succ n_2 ih_2 =>
      intro x1_2 hx1_2 hm_2 H locs hW  ls hl
      have j_38 : 0 ≤ x1_2 ∧ x1_2 ≤ 99 → ∀ (b0_38 : Nat), T b0_38 = some (46, 100) → 0 ≤ x1_2 ∧ x1_2 ≤ 99 → ∀ (y2_38 : Int), 0 ≤ y2_38 ∧ y2_38 ≤ 1 → ∀ (H : Heap) (locs : List Loc), tf_n tf_kt g M_X10_findBad T s.heap T H locs → ∀ (ls : Array Slot), lv_has ls 2 [(0, .ref a0), (1, .int (Int32.ofInt x1_2))] → W p l e R s m args below meth c H locs 0 0 Q (F0 m 38 ls [.int (Int32.ofInt y2_38), .int (Int32.ofInt x1_2), .ref b0_38]) := by
        intro hx1_38 b0_38 hb0_38 hy1_38 y2_38 hy2_38 H locs hW  ls hl
        refine tf_zast (t0 := 2) hx hb hK hW hb0_38 rfl rfl (by omega) (by omega) (by decide) (tf_u0 (by omega) (by omega)) (by omega) dX10_findBad_38 (fun H1 locs1 hW hs1 ht1 hq1 => ?_)
        refine lv_iinc (v := Int32.ofInt ((x1_2 + 1))) (lv' := [(1, .int (Int32.ofInt ((x1_2 + 1)))), (0, .ref a0)]) hx hb dX10_findBad_39 hl (k := 1) rfl (Int32.ofInt_add _ _).symm (by decide) rfl (fun ls hl => ?_)
        refine lv_goto (tgt := 2) hx hb dX10_findBad_42 (by decide) ?_
        exact ih_2 ((x1_2 + 1)) ⟨by omega, by omega⟩ (by omega) _ _ hW  _ (lv_sub hl [1, 0] rfl)
      refine lv_iload_n hx hb dX10_findBad_2 rfl (lv_at hl 1 rfl) ?_
      refine tf_bipush hx hb dX10_findBad_3 (by decide) ?_
      refine tf_icmp_ge (tgt := 45) hx hb ⟨by omega, by omega⟩ ⟨by decide, by decide⟩ dX10_findBad_5 (by decide) (fun h2 => ?_) (fun h2 => ?_)
      · exact tf_retv hx hb hr hlocks hQ hW trivial dX10_findBad_45
      · refine lv_aload_n hx hb dX10_findBad_8 rfl (lv_at hl 0 rfl) ?_
        refine tf_get hx hb hts inlX10 hown hK (ci := 10) rfl hW ha0 rfl 43 rfl (by decide) (hts _ fl_X10_88) dX10_findBad_9 (fun v3 hv3 hsv3 => ?_)
        obtain ⟨ad4, rfl, had4⟩ := tf_v1 hv3
        refine lv_iload_n hx hb dX10_findBad_12 rfl (lv_at hl 1 rfl) ?_
        refine lv_aload_n hx hb dX10_findBad_13 rfl (lv_at hl 0 rfl) ?_
        refine lv_iload_n hx hb dX10_findBad_14 rfl (lv_at hl 1 rfl) ?_
        refine tf_calli (va_runV (As := [.int (Int32.ofInt x1_2)]) (rest := [.int (Int32.ofInt x1_2), .ref ad4]) ⟨hx, hb, hml, hown, hts⟩ (c_X10_overIn l g T a0 ha0 (x1_2) ⟨by omega, by omega⟩) (cwV 1 hts gv_X10_419 rfl rfl rfl hd_X10_overIn ⟨Nat.le_trans (by decide) hR1, Nat.le_trans (by decide) hR2⟩) (tf_preV hk hW ha0 (ci := 10) rfl rfl trivial) rfl rfl hl.1 rfl (lv_room (Nat.le_of_ble_eq_true rfl)) dX10_findBad_15 ⟨Nat.zero_le _, Nat.zero_le _⟩) hW (by decide) (fun z5 H5 locs5 hW hF5 hp5 => ?_)
        have hs6 := tf_keepF hF5 ha0 rfl rfl (by decide) hsv3
        obtain ⟨hp5_0, hp5_1⟩ := hp5
        refine tf_iast (t0 := 0) hx hb hK hW had4 rfl rfl (by omega) (by omega) (by decide) (tf_u0 (by omega) (by omega)) dX10_findBad_18 (fun H7 locs7 hW hs7 ht7 hq7 => ?_)
        have hs8 := tf_keepQ hs6 (hq7 _ (tf_ne ha0 had4 (by decide)))
        refine lv_aload_n hx hb dX10_findBad_19 rfl (lv_at hl 0 rfl) ?_
        refine tf_get hx hb hts inlX10 hown hK (ci := 10) rfl hW ha0 rfl 44 rfl (by decide) (hts _ fl_X10_91) dX10_findBad_20 (fun v9 hv9 hsv9 => ?_)
        obtain ⟨ad10, rfl, had10⟩ := tf_v1 hv9
        refine lv_iload_n hx hb dX10_findBad_23 rfl (lv_at hl 1 rfl) ?_
        refine lv_aload_n hx hb dX10_findBad_24 rfl (lv_at hl 0 rfl) ?_
        refine tf_get hx hb hts inlX10 hown hK (ci := 10) rfl hW ha0 rfl 43 rfl (by decide) (hts _ fl_X10_88) dX10_findBad_25 (fun v11 hv11 hsv11 => ?_)
        obtain rfl : v11 = .ref ad4 := Option.some.inj (hsv11.symm.trans hs8)
        refine lv_iload_n hx hb dX10_findBad_28 rfl (lv_at hl 1 rfl) ?_
        refine tf_iald (t0 := 0) hx hb hK hW had4 rfl rfl (by omega) (by omega) dX10_findBad_29 (fun v12 hv12 hsv12 => ?_)
        obtain ⟨z13, rfl, hz13⟩ := tf_v0 hv12
        refine tf_if_le (tgt := 37) hx hb ⟨by omega, by omega⟩ dX10_findBad_30 (by decide) (fun h14 => ?_) (fun h14 => ?_)
        · refine tf_iconst hx hb dX10_findBad_37 ?_
          exact j_38 ⟨by omega, by omega⟩ ad10 had10 ⟨by omega, by omega⟩ (0) ⟨by omega, by omega⟩ _ _ hW  _ (lv_sub hl [0, 1] rfl)
        · refine tf_iconst hx hb dX10_findBad_33 ?_
          refine lv_goto (tgt := 38) hx hb dX10_findBad_34 (by decide) ?_
          exact j_38 ⟨by omega, by omega⟩ ad10 had10 ⟨by omega, by omega⟩ (1) ⟨by omega, by omega⟩ _ _ hW  _ (lv_sub hl [0, 1] rfl)
  refine tf_enter (As := [.ref a0]) hargs (Nat.le_of_ble_eq_true rfl) (fun ls hl => ?_)
  have hl : lv_has ls 2 [(0, .ref a0)] := hl
  refine tf_iconst hx hb dX10_findBad_0 ?_
  refine lv_istore_n (lv' := [(1, .int (Int32.ofInt 0)), (0, .ref a0)]) hx hb dX10_findBad_1 rfl hl (by decide) rfl (fun ls hl => ?_)
  exact j_2 ((100 - 0 + 1 : Int)).toNat (0) ⟨by omega, by omega⟩ (by omega) _ _ hW  _ (lv_sub hl [1, 0] rfl)

abbrev M_X10_bad : List (Nat × Nat) := [(38, 0), (39, 0), (40, 0), (41, 0), (42, 0), (43, 0), (44, 0), (45, 0), (46, 0), (50, 0), (50, 26), (50, 29), (50, 30), (50, 31), (50, 37), (50, 38), (50, 39), (50, 40), (50, 41), (50, 42)]
set_option maxHeartbeats 4000000 in
set_option maxRecDepth 100000 in
theorem c_X10_bad (l : Launch) (g : tf_G) (T : tf_T) (a0 : Nat) (ha0 : T a0 = some (50, 0)) (x1 : Int) (hp1 : (-2147483648) ≤ x1 ∧ x1 ≤ 2147483647) : Met l yX10_bad (cd_X10_bad :: wsL_law) ({ frames := 9, cells := 0, slots := 0, locals := 223 }) (tf_P g T [.ref a0, .int (Int32.ofInt x1)] (fun H => True)) (tf_Qi g M_X10_bad T (fun z _ _ => (-2147483648) ≤ z ∧ z ≤ 2147483647)) 0 0 (fun q => tf_B g ≤ q) := by
  refine Met.ofW (cc := cX10_bad) (maxL := 2) (ret := (some .int)) (by decide) rfl ?_
  intro p e s m args below meth c s₁ B hml hv
  obtain ⟨hargs, hk, hW0, hB, hpre⟩ := hv
  have hx := B.exec
  have hb := B.bytes
  have hr := B.returns
  have hts : ∀ w ∈ wsL_law, w.before args s = true := fun w h => atoms_spec (ws := cd_X10_bad :: wsL_law) B.pre w (List.mem_cons_of_mem _ h)
  have hown : s.vm.findClass RX10 = some m.cls := findClass_of_methodNamed B.named
  have hlocks := B.notSynchronized
  have hK := hk.1
  have hW := tf_n.start (M := M_X10_bad) hW0 hB
  obtain ⟨Q, hQ⟩ : ∃ q, q = MQ below (tf_Qi g M_X10_bad T (fun z _ _ => (-2147483648) ≤ z ∧ z ≤ 2147483647)) args s 0 0 (fun q => tf_B g ≤ q) := ⟨_, rfl⟩
  rw [← hQ]
  obtain ⟨R, hR⟩ : ∃ q, q = (headSpec (cd_X10_bad :: wsL_law) ({ frames := 9, cells := 0, slots := 0, locals := 223 })).room := ⟨_, rfl⟩
  rw [← hR]
  have hR1 : 9 ≤ R.frames := by rw [hR]; exact Nat.le_refl _
  have hR2 : 223 ≤ R.locals := by rw [hR]; exact Nat.le_refl _
  have hR3 : 0 ≤ R.cells := by rw [hR]; exact Nat.le_refl _
  have hR4 : 0 ≤ R.slots := by rw [hR]; exact Nat.le_refl _
  have hin := (name_of_methodNamed B.named B.method).1
  clear hR B
  refine tf_enter (As := [.ref a0, .int (Int32.ofInt x1)]) hargs (Nat.le_of_ble_eq_true rfl) (fun ls hl => ?_)
  have hl : lv_has ls 2 [(0, .ref a0), (1, .int (Int32.ofInt x1))] := hl
  refine lv_aload_n hx hb dX10_bad_0 rfl (lv_at hl 0 rfl) ?_
  refine tf_iconst hx hb dX10_bad_1 ?_
  refine tf_put hx hb hts inlX10 tyX10 tyX10_ok nmX10 hown hK (ci := 10) rfl hW ha0 rfl rfl 0 rfl (by decide) (by decide) (hts _ fl_X10_103) rfl (tf_u0 (by omega) (by omega)) rfl rfl dX10_bad_2 (fun H1 locs1 hW hs1 ht1 hq1 => ?_)
  refine lv_aload_n hx hb dX10_bad_5 rfl (lv_at hl 0 rfl) ?_
  refine tf_callv (va_runV (As := []) (rest := []) ⟨hx, hb, hml, hown, hts⟩ (c_X10_layAll l g T a0 ha0) (cwV 0 hts gv_X10_405 rfl rfl rfl hd_X10_layAll ⟨Nat.le_trans (by decide) hR1, Nat.le_trans (by decide) hR2⟩) (tf_preV hk hW ha0 (ci := 10) rfl rfl trivial) rfl rfl hl.1 rfl (lv_room (Nat.le_of_ble_eq_true rfl)) dX10_bad_6 ⟨Nat.zero_le _, Nat.zero_le _⟩) hW (by decide) (fun H2 locs2 hW hF2 hp2 => ?_)
  refine lv_aload_n hx hb dX10_bad_9 rfl (lv_at hl 0 rfl) ?_
  refine tf_callv (va_runV (As := []) (rest := []) ⟨hx, hb, hml, hown, hts⟩ (c_X10_findBad l g T a0 ha0) (cwV 0 hts gv_X10_425 rfl rfl rfl hd_X10_findBad ⟨Nat.le_trans (by decide) hR1, Nat.le_trans (by decide) hR2⟩) (tf_preV hk hW ha0 (ci := 10) rfl rfl trivial) rfl rfl hl.1 rfl (lv_room (Nat.le_of_ble_eq_true rfl)) dX10_bad_10 ⟨Nat.zero_le _, Nat.zero_le _⟩) hW (by decide) (fun H3 locs3 hW hF3 hp3 => ?_)
  refine lv_iload_n hx hb dX10_bad_13 rfl (lv_at hl 1 rfl) ?_
  refine tf_iconst hx hb dX10_bad_14 ?_
  refine tf_icmp_ge (tgt := 22) hx hb ⟨by omega, by omega⟩ ⟨by decide, by decide⟩ dX10_bad_15 (by decide) (fun h4 => ?_) (fun h4 => ?_)
  · refine lv_aload_n hx hb dX10_bad_22 rfl (lv_at hl 0 rfl) ?_
    refine lv_iload_n hx hb dX10_bad_23 rfl (lv_at hl 1 rfl) ?_
    refine tf_iconst hx hb dX10_bad_24 ?_
    refine tf_calli (va_runV (As := [.int (Int32.ofInt x1), .int (Int32.ofInt 1)]) (rest := []) ⟨hx, hb, hml, hown, hts⟩ (c_X10_inOrder l g T a0 ha0 (x1) ⟨by omega, by omega⟩ (1) ⟨by omega, by omega⟩) (cwV 2 hts gv_X10_428 rfl rfl rfl hd_X10_inOrder ⟨Nat.le_trans (by decide) hR1, Nat.le_trans (by decide) hR2⟩) (tf_preV hk hW ha0 (ci := 10) rfl rfl trivial) rfl rfl hl.1 rfl (lv_room (Nat.le_of_ble_eq_true rfl)) dX10_bad_25 ⟨Nat.zero_le _, Nat.zero_le _⟩) hW (by decide) (fun z5 H5 locs5 hW hF5 hp5 => ?_)
    obtain ⟨hp5_0, hp5_1⟩ := hp5
    exact tf_reti (z := z5) hx hb hr hlocks hQ hW (show (-2147483648) ≤ (z5) ∧ (z5) ≤ 2147483647 by omega) dX10_bad_28
  · refine tf_iconst hx hb dX10_bad_18 ?_
    refine lv_goto (tgt := 28) hx hb dX10_bad_19 (by decide) ?_
    exact tf_reti (z := (-1)) hx hb hr hlocks hQ hW (show (-2147483648) ≤ ((-1)) ∧ ((-1)) ≤ 2147483647 by omega) dX10_bad_28

abbrev M_X10_seat : List (Nat × Nat) := [(38, 0), (39, 0), (40, 0), (41, 0), (42, 0), (43, 0), (44, 0), (45, 0), (46, 0), (50, 0), (50, 26), (50, 29), (50, 30), (50, 31), (50, 37), (50, 38), (50, 39), (50, 40), (50, 41), (50, 42)]
set_option maxHeartbeats 4000000 in
set_option maxRecDepth 100000 in
theorem c_X10_seat (l : Launch) (g : tf_G) (T : tf_T) (a0 : Nat) (ha0 : T a0 = some (50, 0)) (x1 : Int) (hp1 : (-2147483648) ≤ x1 ∧ x1 ≤ 2147483647) (x2 : Int) (hp2 : (-2147483648) ≤ x2 ∧ x2 ≤ 2147483647) : Met l yX10_seat (cd_X10_seat :: wsL_law) ({ frames := 7, cells := 0, slots := 0, locals := 180 }) (tf_P g T [.ref a0, .int (Int32.ofInt x1), .int (Int32.ofInt x2)] (fun H => True)) (tf_Qi g M_X10_seat T (fun z _ _ => (-2147483648) ≤ z ∧ z ≤ 2147483647)) 0 0 (fun q => tf_B g ≤ q) := by
  refine Met.ofW (cc := cX10_seat) (maxL := 4) (ret := (some .int)) (by decide) rfl ?_
  intro p e s m args below meth c s₁ B hml hv
  obtain ⟨hargs, hk, hW0, hB, hpre⟩ := hv
  have hx := B.exec
  have hb := B.bytes
  have hr := B.returns
  have hts : ∀ w ∈ wsL_law, w.before args s = true := fun w h => atoms_spec (ws := cd_X10_seat :: wsL_law) B.pre w (List.mem_cons_of_mem _ h)
  have hown : s.vm.findClass RX10 = some m.cls := findClass_of_methodNamed B.named
  have hlocks := B.notSynchronized
  have hK := hk.1
  have hW := tf_n.start (M := M_X10_seat) hW0 hB
  obtain ⟨Q, hQ⟩ : ∃ q, q = MQ below (tf_Qi g M_X10_seat T (fun z _ _ => (-2147483648) ≤ z ∧ z ≤ 2147483647)) args s 0 0 (fun q => tf_B g ≤ q) := ⟨_, rfl⟩
  rw [← hQ]
  obtain ⟨R, hR⟩ : ∃ q, q = (headSpec (cd_X10_seat :: wsL_law) ({ frames := 7, cells := 0, slots := 0, locals := 180 })).room := ⟨_, rfl⟩
  rw [← hR]
  have hR1 : 7 ≤ R.frames := by rw [hR]; exact Nat.le_refl _
  have hR2 : 180 ≤ R.locals := by rw [hR]; exact Nat.le_refl _
  have hR3 : 0 ≤ R.cells := by rw [hR]; exact Nat.le_refl _
  have hR4 : 0 ≤ R.slots := by rw [hR]; exact Nat.le_refl _
  have hin := (name_of_methodNamed B.named B.method).1
  clear hR B
  have j_24 : ∀ (n_24 : Nat), 1 ≤ x1 ∧ x1 ≤ 3 → 0 ≤ x2 ∧ x2 ≤ 2147483647 → ∀ (x3_24 : Int), 0 ≤ x3_24 ∧ x3_24 ≤ 100 → (100 - x3_24 + 1 ≤ (n_24 : Int)) → ∀ (H : Heap) (locs : List Loc), tf_n tf_kt g M_X10_seat T s.heap T H locs → ∀ (ls : Array Slot), lv_has ls 4 [(0, .ref a0), (1, .int (Int32.ofInt x1)), (2, .int (Int32.ofInt x2)), (3, .int (Int32.ofInt x3_24))] → W p l e R s m args below meth c H locs 0 0 Q (F0 m 24 ls []) := by
    intro n_24
    induction n_24 with
    | zero =>
      intro hx1_24 hx2_24 x3_24 hx3_24 hm_24
      exfalso; omega
    | succ n_24 ih_24 =>
      intro hx1_24 hx2_24 x3_24 hx3_24 hm_24 H locs hW  ls hl
      have j_88 : 1 ≤ x1 ∧ x1 ≤ 3 → 0 ≤ x2 ∧ x2 ≤ 2147483647 → 0 ≤ x3_24 ∧ x3_24 ≤ 99 → ∀ (b0_88 : Nat), T b0_88 = some (45, 100) → 0 ≤ x3_24 ∧ x3_24 ≤ 99 → ∀ (y2_88 : Int), 0 ≤ y2_88 ∧ y2_88 ≤ 39960 → ∀ (H : Heap) (locs : List Loc), tf_n tf_kt g M_X10_seat T s.heap T H locs → ∀ (ls : Array Slot), lv_has ls 4 [(0, .ref a0), (1, .int (Int32.ofInt x1)), (2, .int (Int32.ofInt x2)), (3, .int (Int32.ofInt x3_24))] → W p l e R s m args below meth c H locs 0 0 Q (F0 m 88 ls [.int (Int32.ofInt y2_88), .int (Int32.ofInt x3_24), .ref b0_88]) := by
        intro hx1_88 hx2_88 hx3_88 b0_88 hb0_88 hy1_88 y2_88 hy2_88 H locs hW  ls hl
        refine tf_iast (t0 := 0) hx hb hK hW hb0_88 rfl rfl (by omega) (by omega) (by decide) (tf_u0 (by omega) (by omega)) dX10_seat_88 (fun H1 locs1 hW hs1 ht1 hq1 => ?_)
        refine lv_iinc (v := Int32.ofInt ((x3_24 + 1))) (lv' := [(3, .int (Int32.ofInt ((x3_24 + 1)))), (0, .ref a0), (1, .int (Int32.ofInt x1)), (2, .int (Int32.ofInt x2))]) hx hb dX10_seat_89 hl (k := 3) rfl (Int32.ofInt_add _ _).symm (by decide) rfl (fun ls hl => ?_)
        refine lv_goto (tgt := 24) hx hb dX10_seat_92 (by decide) ?_
        exact ih_24 ⟨by omega, by omega⟩ ⟨by omega, by omega⟩ ((x3_24 + 1)) ⟨by omega, by omega⟩ (by omega) _ _ hW  _ (lv_sub hl [1, 2, 3, 0] rfl)
      have j_59 : 1 ≤ x1 ∧ x1 ≤ 3 → 0 ≤ x2 ∧ x2 ≤ 2147483647 → 0 ≤ x3_24 ∧ x3_24 ≤ 99 → ∀ (b0_59 : Nat), T b0_59 = some (46, 100) → 0 ≤ x3_24 ∧ x3_24 ≤ 99 → ∀ (y2_59 : Int), 0 ≤ y2_59 ∧ y2_59 ≤ 1 → ∀ (H : Heap) (locs : List Loc), tf_n tf_kt g M_X10_seat T s.heap T H locs → ∀ (ls : Array Slot), lv_has ls 4 [(0, .ref a0), (1, .int (Int32.ofInt x1)), (2, .int (Int32.ofInt x2)), (3, .int (Int32.ofInt x3_24))] → W p l e R s m args below meth c H locs 0 0 Q (F0 m 59 ls [.int (Int32.ofInt y2_59), .int (Int32.ofInt x3_24), .ref b0_59]) := by
        intro hx1_59 hx2_59 hx3_59 b0_59 hb0_59 hy1_59 y2_59 hy2_59 H locs hW  ls hl
        refine tf_zast (t0 := 2) hx hb hK hW hb0_59 rfl rfl (by omega) (by omega) (by decide) (tf_u0 (by omega) (by omega)) (by omega) dX10_seat_59 (fun H2 locs2 hW hs2 ht2 hq2 => ?_)
        refine lv_aload_n hx hb dX10_seat_60 rfl (lv_at hl 0 rfl) ?_
        refine tf_get hx hb hts inlX10 hown hK (ci := 10) rfl hW ha0 rfl 43 rfl (by decide) (hts _ fl_X10_88) dX10_seat_61 (fun v3 hv3 hsv3 => ?_)
        obtain ⟨ad4, rfl, had4⟩ := tf_v1 hv3
        refine lv_iload_n hx hb dX10_seat_64 rfl (lv_at hl 3 rfl) ?_
        refine lv_aload_n hx hb dX10_seat_65 rfl (lv_at hl 0 rfl) ?_
        refine tf_get hx hb hts inlX10 hown hK (ci := 10) rfl hW ha0 rfl 44 rfl (by decide) (hts _ fl_X10_91) dX10_seat_66 (fun v5 hv5 hsv5 => ?_)
        obtain ⟨ad6, rfl, had6⟩ := tf_v1 hv5
        refine lv_iload_n hx hb dX10_seat_69 rfl (lv_at hl 3 rfl) ?_
        refine tf_zald (t0 := 2) hx hb hK hW had6 rfl rfl (by omega) (by omega) dX10_seat_70 (fun v7 hv7 hsv7 => ?_)
        obtain ⟨z8, rfl, hz8⟩ := tf_v0 hv7
        refine tf_if_eq (tgt := 87) hx hb ⟨by omega, by omega⟩ dX10_seat_71 (by decide) (fun h9 => ?_) (fun h9 => ?_)
        · refine tf_iconst hx hb dX10_seat_87 ?_
          exact j_88 ⟨by omega, by omega⟩ ⟨by omega, by omega⟩ ⟨by omega, by omega⟩ ad4 had4 ⟨by omega, by omega⟩ (0) ⟨by omega, by omega⟩ _ _ hW  _ (lv_sub hl [0, 1, 2, 3] rfl)
        · refine lv_aload_n hx hb dX10_seat_74 rfl (lv_at hl 0 rfl) ?_
          refine lv_iload_n hx hb dX10_seat_75 rfl (lv_at hl 3 rfl) ?_
          refine lv_aload_n hx hb dX10_seat_76 rfl (lv_at hl 0 rfl) ?_
          refine lv_iload_n hx hb dX10_seat_77 rfl (lv_at hl 1 rfl) ?_
          refine tf_calli (va_runV (As := [.int (Int32.ofInt x1)]) (rest := [.int (Int32.ofInt x3_24), .ref a0, .int (Int32.ofInt x3_24), .ref ad4]) ⟨hx, hb, hml, hown, hts⟩ (c_X10_paceOf l g T a0 ha0 (x1) ⟨by omega, by omega⟩) (cwV 1 hts gv_X10_413 rfl rfl rfl hd_X10_paceOf ⟨Nat.le_trans (by decide) hR1, Nat.le_trans (by decide) hR2⟩) (tf_preV hk hW ha0 (ci := 10) rfl rfl trivial) rfl rfl hl.1 rfl (lv_room (Nat.le_of_ble_eq_true rfl)) dX10_seat_78 ⟨Nat.zero_le _, Nat.zero_le _⟩) hW (by decide) (fun z10 H10 locs10 hW hF10 hp10 => ?_)
          obtain ⟨hp10_0, hp10_1⟩ := hp10
          refine tf_calli (va_runV (As := [.int (Int32.ofInt x3_24), .int (Int32.ofInt z10)]) (rest := [.int (Int32.ofInt x3_24), .ref ad4]) ⟨hx, hb, hml, hown, hts⟩ (c_X10_hoursAbove l g T a0 ha0 (x3_24) ⟨by omega, by omega⟩ (z10) ⟨by omega, by omega⟩) (cwV 2 hts gv_X10_416 rfl rfl rfl hd_X10_hoursAbove ⟨Nat.le_trans (by decide) hR1, Nat.le_trans (by decide) hR2⟩) (tf_preV hk hW ha0 (ci := 10) rfl rfl trivial) rfl rfl hl.1 rfl (lv_room (Nat.le_of_ble_eq_true rfl)) dX10_seat_81 ⟨Nat.zero_le _, Nat.zero_le _⟩) hW (by decide) (fun z11 H11 locs11 hW hF11 hp11 => ?_)
          obtain ⟨hp11_0, hp11_1⟩ := hp11
          refine lv_goto (tgt := 88) hx hb dX10_seat_84 (by decide) ?_
          exact j_88 ⟨by omega, by omega⟩ ⟨by omega, by omega⟩ ⟨by omega, by omega⟩ ad4 had4 ⟨by omega, by omega⟩ (z11) ⟨by omega, by omega⟩ _ _ hW  _ (lv_sub hl [0, 1, 2, 3] rfl)
      have j_58 : 1 ≤ x1 ∧ x1 ≤ 3 → 0 ≤ x2 ∧ x2 ≤ 2147483647 → 0 ≤ x3_24 ∧ x3_24 ≤ 99 → ∀ (b0_58 : Nat), T b0_58 = some (46, 100) → 0 ≤ x3_24 ∧ x3_24 ≤ 99 → ∀ (H : Heap) (locs : List Loc), tf_n tf_kt g M_X10_seat T s.heap T H locs → ∀ (ls : Array Slot), lv_has ls 4 [(0, .ref a0), (1, .int (Int32.ofInt x1)), (2, .int (Int32.ofInt x2)), (3, .int (Int32.ofInt x3_24))] → W p l e R s m args below meth c H locs 0 0 Q (F0 m 58 ls [.int (Int32.ofInt x3_24), .ref b0_58]) := by
        intro hx1_58 hx2_58 hx3_58 b0_58 hb0_58 hy1_58 H locs hW  ls hl
        refine tf_iconst hx hb dX10_seat_58 ?_
        exact j_59 ⟨by omega, by omega⟩ ⟨by omega, by omega⟩ ⟨by omega, by omega⟩ b0_58 hb0_58 ⟨by omega, by omega⟩ (0) ⟨by omega, by omega⟩ _ _ hW  _ (lv_sub hl [0, 1, 2, 3] rfl)
      refine lv_iload_n hx hb dX10_seat_24 rfl (lv_at hl 3 rfl) ?_
      refine tf_bipush hx hb dX10_seat_25 (by decide) ?_
      refine tf_icmp_ge (tgt := 95) hx hb ⟨by omega, by omega⟩ ⟨by decide, by decide⟩ dX10_seat_27 (by decide) (fun h12 => ?_) (fun h12 => ?_)
      · refine lv_aload_n hx hb dX10_seat_95 rfl (lv_at hl 0 rfl) ?_
        refine lv_iload_n hx hb dX10_seat_96 rfl (lv_at hl 2 rfl) ?_
        refine tf_iconst hx hb dX10_seat_97 ?_
        refine tf_calli (va_runV (As := [.int (Int32.ofInt x2), .int (Int32.ofInt 0)]) (rest := []) ⟨hx, hb, hml, hown, hts⟩ (c_X10_inOrder l g T a0 ha0 (x2) ⟨by omega, by omega⟩ (0) ⟨by omega, by omega⟩) (cwV 2 hts gv_X10_428 rfl rfl rfl hd_X10_inOrder ⟨Nat.le_trans (by decide) hR1, Nat.le_trans (by decide) hR2⟩) (tf_preV hk hW ha0 (ci := 10) rfl rfl trivial) rfl rfl hl.1 rfl (lv_room (Nat.le_of_ble_eq_true rfl)) dX10_seat_98 ⟨Nat.zero_le _, Nat.zero_le _⟩) hW (by decide) (fun z13 H13 locs13 hW hF13 hp13 => ?_)
        obtain ⟨hp13_0, hp13_1⟩ := hp13
        exact tf_reti (z := z13) hx hb hr hlocks hQ hW (show (-2147483648) ≤ (z13) ∧ (z13) ≤ 2147483647 by omega) dX10_seat_101
      · refine lv_aload_n hx hb dX10_seat_30 rfl (lv_at hl 0 rfl) ?_
        refine tf_get hx hb hts inlX10 hown hK (ci := 10) rfl hW ha0 rfl 44 rfl (by decide) (hts _ fl_X10_91) dX10_seat_31 (fun v14 hv14 hsv14 => ?_)
        obtain ⟨ad15, rfl, had15⟩ := tf_v1 hv14
        refine lv_iload_n hx hb dX10_seat_34 rfl (lv_at hl 3 rfl) ?_
        refine lv_aload_n hx hb dX10_seat_35 rfl (lv_at hl 0 rfl) ?_
        refine tf_get hx hb hts inlX10 hown hK (ci := 10) rfl hW ha0 rfl 32 rfl (by decide) (hts _ fl_X10_73) dX10_seat_36 (fun v16 hv16 hsv16 => ?_)
        obtain ⟨ad17, rfl, had17⟩ := tf_v1 hv16
        refine lv_iload_n hx hb dX10_seat_39 rfl (lv_at hl 3 rfl) ?_
        refine tf_iald (t0 := 0) hx hb hK hW had17 rfl rfl (by omega) (by omega) dX10_seat_40 (fun v18 hv18 hsv18 => ?_)
        obtain ⟨z19, rfl, hz19⟩ := tf_v0 hv18
        refine tf_iconst hx hb dX10_seat_41 ?_
        refine tf_icmp_ne (tgt := 58) hx hb ⟨by omega, by omega⟩ ⟨by decide, by decide⟩ dX10_seat_42 (by decide) (fun h20 => ?_) (fun h20 => ?_)
        · exact j_58 ⟨by omega, by omega⟩ ⟨by omega, by omega⟩ ⟨by omega, by omega⟩ ad15 had15 ⟨by omega, by omega⟩ _ _ hW  _ (lv_sub hl [0, 1, 2, 3] rfl)
        · refine lv_aload_n hx hb dX10_seat_45 rfl (lv_at hl 0 rfl) ?_
          refine tf_get hx hb hts inlX10 hown hK (ci := 10) rfl hW ha0 rfl 35 rfl (by decide) (hts _ fl_X10_82) dX10_seat_46 (fun v21 hv21 hsv21 => ?_)
          obtain ⟨ad22, rfl, had22⟩ := tf_v1 hv21
          refine lv_iload_n hx hb dX10_seat_49 rfl (lv_at hl 3 rfl) ?_
          refine tf_iald (t0 := 0) hx hb hK hW had22 rfl rfl (by omega) (by omega) dX10_seat_50 (fun v23 hv23 hsv23 => ?_)
          obtain ⟨z24, rfl, hz24⟩ := tf_v0 hv23
          refine tf_if_ne (tgt := 58) hx hb ⟨by omega, by omega⟩ dX10_seat_51 (by decide) (fun h25 => ?_) (fun h25 => ?_)
          · exact j_58 ⟨by omega, by omega⟩ ⟨by omega, by omega⟩ ⟨by omega, by omega⟩ ad15 had15 ⟨by omega, by omega⟩ _ _ hW  _ (lv_sub hl [0, 1, 2, 3] rfl)
          · refine tf_iconst hx hb dX10_seat_54 ?_
            refine lv_goto (tgt := 59) hx hb dX10_seat_55 (by decide) ?_
            exact j_59 ⟨by omega, by omega⟩ ⟨by omega, by omega⟩ ⟨by omega, by omega⟩ ad15 had15 ⟨by omega, by omega⟩ (1) ⟨by omega, by omega⟩ _ _ hW  _ (lv_sub hl [0, 1, 2, 3] rfl)
  refine tf_enter (As := [.ref a0, .int (Int32.ofInt x1), .int (Int32.ofInt x2)]) hargs (Nat.le_of_ble_eq_true rfl) (fun ls hl => ?_)
  have hl : lv_has ls 4 [(0, .ref a0), (1, .int (Int32.ofInt x1)), (2, .int (Int32.ofInt x2))] := hl
  refine lv_aload_n hx hb dX10_seat_0 rfl (lv_at hl 0 rfl) ?_
  refine tf_iconst hx hb dX10_seat_1 ?_
  refine tf_put hx hb hts inlX10 tyX10 tyX10_ok nmX10 hown hK (ci := 10) rfl hW ha0 rfl rfl 0 rfl (by decide) (by decide) (hts _ fl_X10_103) rfl (tf_u0 (by omega) (by omega)) rfl rfl dX10_seat_2 (fun H26 locs26 hW hs26 ht26 hq26 => ?_)
  refine lv_iload_n hx hb dX10_seat_5 rfl (lv_at hl 1 rfl) ?_
  refine tf_calli (va_runS (As := [.int (Int32.ofInt x1)]) (rest := []) ⟨hx, hb, hml, hown, hts⟩ (c_X10_isUse l g T (x1) ⟨by omega, by omega⟩) ⟨callB_of 1 hts (gw_ws cm_X10_isUse) rfl rfl rfl (hts _ (tw1 (i := 5) rfl)) (hts _ (tw16 (i := 10) rfl)) hd_X10_isUse.2 ⟨Nat.le_trans (by decide) hR1, Nat.le_trans (by decide) hR2⟩, hts _ (tw16 (i := 11) rfl)⟩ (tf_preS hk hW trivial) rfl rfl hl.1 rfl (lv_room (Nat.le_of_ble_eq_true rfl)) dX10_seat_6 ⟨Nat.zero_le _, Nat.zero_le _⟩) hW (by decide) (fun z27 H27 locs27 hW hF27 hp27 => ?_)
  rcases hp27 with ⟨rfl, h28, h29⟩ | ⟨rfl, h30⟩
  · refine tf_if_eq (tgt := 16) hx hb ⟨by decide, by decide⟩ dX10_seat_9 (by decide) (fun h31 => ?_) (fun h31 => ?_)
    · exfalso; omega
    · refine lv_iload_n hx hb dX10_seat_12 rfl (lv_at hl 2 rfl) ?_
      refine tf_if_ge (tgt := 18) hx hb ⟨by omega, by omega⟩ dX10_seat_13 (by decide) (fun h32 => ?_) (fun h32 => ?_)
      · refine lv_aload_n hx hb dX10_seat_18 rfl (lv_at hl 0 rfl) ?_
        refine tf_callv (va_runV (As := []) (rest := []) ⟨hx, hb, hml, hown, hts⟩ (c_X10_layAll l g T a0 ha0) (cwV 0 hts gv_X10_405 rfl rfl rfl hd_X10_layAll ⟨Nat.le_trans (by decide) hR1, Nat.le_trans (by decide) hR2⟩) (tf_preV hk hW ha0 (ci := 10) rfl rfl trivial) rfl rfl hl.1 rfl (lv_room (Nat.le_of_ble_eq_true rfl)) dX10_seat_19 ⟨Nat.zero_le _, Nat.zero_le _⟩) hW (by decide) (fun H33 locs33 hW hF33 hp33 => ?_)
        refine tf_iconst hx hb dX10_seat_22 ?_
        refine lv_istore_n (lv' := [(3, .int (Int32.ofInt 0)), (0, .ref a0), (1, .int (Int32.ofInt x1)), (2, .int (Int32.ofInt x2))]) hx hb dX10_seat_23 rfl hl (by decide) rfl (fun ls hl => ?_)
        exact j_24 ((100 - 0 + 1 : Int)).toNat ⟨by omega, by omega⟩ ⟨by omega, by omega⟩ (0) ⟨by omega, by omega⟩ (by omega) _ _ hW  _ (lv_sub hl [1, 2, 3, 0] rfl)
      · refine tf_iconst hx hb dX10_seat_16 ?_
        exact tf_reti (z := (-1)) hx hb hr hlocks hQ hW (show (-2147483648) ≤ ((-1)) ∧ ((-1)) ≤ 2147483647 by omega) dX10_seat_17
  · refine tf_if_eq (tgt := 16) hx hb ⟨by decide, by decide⟩ dX10_seat_9 (by decide) (fun h34 => ?_) (fun h34 => ?_)
    · refine tf_iconst hx hb dX10_seat_16 ?_
      exact tf_reti (z := (-1)) hx hb hr hlocks hQ hW (show (-2147483648) ≤ ((-1)) ∧ ((-1)) ≤ 2147483647 by omega) dX10_seat_17
    · exfalso; omega

abbrev M_X10_does : List (Nat × Nat) := [(38, 0), (39, 0), (40, 0), (41, 0), (42, 0), (43, 0), (44, 0), (50, 0), (50, 26), (50, 29), (50, 30), (50, 31), (50, 37), (50, 38), (50, 39), (50, 40), (50, 41), (50, 42)]
set_option maxHeartbeats 4000000 in
set_option maxRecDepth 100000 in
theorem c_X10_does (l : Launch) (g : tf_G) (T : tf_T) (a0 : Nat) (ha0 : T a0 = some (50, 0)) (x1 : Int) (hp1 : (-2147483648) ≤ x1 ∧ x1 ≤ 2147483647) : Met l yX10_does (cd_X10_does :: wsL_law) ({ frames := 9, cells := 0, slots := 0, locals := 224 }) (tf_P g T [.ref a0, .int (Int32.ofInt x1)] (fun H => True)) (tf_Qi g M_X10_does T (fun z _ _ => (-2147483648) ≤ z ∧ z ≤ 2147483647)) 0 0 (fun q => tf_B g ≤ q) := by
  refine Met.ofW (cc := cX10_does) (maxL := 3) (ret := (some .int)) (by decide) rfl ?_
  intro p e s m args below meth c s₁ B hml hv
  obtain ⟨hargs, hk, hW0, hB, hpre⟩ := hv
  have hx := B.exec
  have hb := B.bytes
  have hr := B.returns
  have hts : ∀ w ∈ wsL_law, w.before args s = true := fun w h => atoms_spec (ws := cd_X10_does :: wsL_law) B.pre w (List.mem_cons_of_mem _ h)
  have hown : s.vm.findClass RX10 = some m.cls := findClass_of_methodNamed B.named
  have hlocks := B.notSynchronized
  have hK := hk.1
  have hW := tf_n.start (M := M_X10_does) hW0 hB
  obtain ⟨Q, hQ⟩ : ∃ q, q = MQ below (tf_Qi g M_X10_does T (fun z _ _ => (-2147483648) ≤ z ∧ z ≤ 2147483647)) args s 0 0 (fun q => tf_B g ≤ q) := ⟨_, rfl⟩
  rw [← hQ]
  obtain ⟨R, hR⟩ : ∃ q, q = (headSpec (cd_X10_does :: wsL_law) ({ frames := 9, cells := 0, slots := 0, locals := 224 })).room := ⟨_, rfl⟩
  rw [← hR]
  have hR1 : 9 ≤ R.frames := by rw [hR]; exact Nat.le_refl _
  have hR2 : 224 ≤ R.locals := by rw [hR]; exact Nat.le_refl _
  have hR3 : 0 ≤ R.cells := by rw [hR]; exact Nat.le_refl _
  have hR4 : 0 ≤ R.slots := by rw [hR]; exact Nat.le_refl _
  have hin := (name_of_methodNamed B.named B.method).1
  clear hR B
  refine tf_enter (As := [.ref a0, .int (Int32.ofInt x1)]) hargs (Nat.le_of_ble_eq_true rfl) (fun ls hl => ?_)
  have hl : lv_has ls 3 [(0, .ref a0), (1, .int (Int32.ofInt x1))] := hl
  refine lv_aload_n hx hb dX10_does_0 rfl (lv_at hl 0 rfl) ?_
  refine tf_iconst hx hb dX10_does_1 ?_
  refine tf_put hx hb hts inlX10 tyX10 tyX10_ok nmX10 hown hK (ci := 10) rfl hW ha0 rfl rfl 0 rfl (by decide) (by decide) (hts _ fl_X10_103) rfl (tf_u0 (by omega) (by omega)) rfl rfl dX10_does_2 (fun H1 locs1 hW hs1 ht1 hq1 => ?_)
  refine lv_aload_n hx hb dX10_does_5 rfl (lv_at hl 0 rfl) ?_
  refine lv_iload_n hx hb dX10_does_6 rfl (lv_at hl 1 rfl) ?_
  refine tf_calli (va_runV (As := [.int (Int32.ofInt x1)]) (rest := []) ⟨hx, hb, hml, hown, hts⟩ (c_X10_isTower l g T a0 ha0 (x1) ⟨by omega, by omega⟩) (cwV 1 hts gv_X10_165 rfl rfl rfl hd_X10_isTower ⟨Nat.le_trans (by decide) hR1, Nat.le_trans (by decide) hR2⟩) (tf_preV hk hW ha0 (ci := 10) rfl rfl trivial) rfl rfl hl.1 rfl (lv_room (Nat.le_of_ble_eq_true rfl)) dX10_does_7 ⟨Nat.zero_le _, Nat.zero_le _⟩) hW (by decide) (fun z2 H2 locs2 hW hF2 hp2 => ?_)
  rcases hp2 with ⟨rfl, h3, h4⟩ | ⟨rfl⟩
  · refine tf_if_ne (tgt := 17) hx hb ⟨by decide, by decide⟩ dX10_does_10 (by decide) (fun h5 => ?_) (fun h5 => ?_)
    · refine lv_aload_n hx hb dX10_does_17 rfl (lv_at hl 0 rfl) ?_
      refine tf_callv (va_runV (As := []) (rest := []) ⟨hx, hb, hml, hown, hts⟩ (c_X10_layAll l g T a0 ha0) (cwV 0 hts gv_X10_405 rfl rfl rfl hd_X10_layAll ⟨Nat.le_trans (by decide) hR1, Nat.le_trans (by decide) hR2⟩) (tf_preV hk hW ha0 (ci := 10) rfl rfl trivial) rfl rfl hl.1 rfl (lv_room (Nat.le_of_ble_eq_true rfl)) dX10_does_18 ⟨Nat.zero_le _, Nat.zero_le _⟩) hW (by decide) (fun H6 locs6 hW hF6 hp6 => ?_)
      refine lv_aload_n hx hb dX10_does_21 rfl (lv_at hl 0 rfl) ?_
      refine tf_calli (va_runV (As := []) (rest := []) ⟨hx, hb, hml, hown, hts⟩ (c_X10_overAll l g T a0 ha0) (cwV 0 hts gv_X10_422 rfl rfl rfl hd_X10_overAll ⟨Nat.le_trans (by decide) hR1, Nat.le_trans (by decide) hR2⟩) (tf_preV hk hW ha0 (ci := 10) rfl rfl trivial) rfl rfl hl.1 rfl (lv_room (Nat.le_of_ble_eq_true rfl)) dX10_does_22 ⟨Nat.zero_le _, Nat.zero_le _⟩) hW (by decide) (fun z7 H7 locs7 hW hF7 hp7 => ?_)
      obtain ⟨hp7_0, hp7_1⟩ := hp7
      refine lv_istore_n (lv' := [(2, .int (Int32.ofInt z7)), (0, .ref a0), (1, .int (Int32.ofInt x1))]) hx hb dX10_does_25 rfl hl (by decide) rfl (fun ls hl => ?_)
      refine lv_aload_n hx hb dX10_does_26 rfl (lv_at hl 1 rfl) ?_
      refine tf_bipush hx hb dX10_does_27 (by decide) ?_
      refine tf_iconst hx hb dX10_does_29 ?_
      refine lv_iload_n hx hb dX10_does_30 rfl (lv_at hl 2 rfl) ?_
      refine tf_ishl_any hx hb dX10_does_31 (fun z8 hz8 => ?_)
      refine tf_iconst hx hb dX10_does_32 ?_
      refine tf_ixor_any hx hb dX10_does_33 (fun z9 hz9 => ?_)
      refine tf_iand_any hx hb dX10_does_34 (fun z10 hz10 => ?_)
      refine tf_callv (va_runV (As := [.int (Int32.ofInt z10)]) (rest := []) ⟨hx, hb, hml, hown, hts⟩ (c_X10_lay l g T a0 ha0 (z10) ⟨by omega, by omega⟩) (cwV 1 hts gv_X10_357 rfl rfl rfl hd_X10_lay ⟨Nat.le_trans (by decide) hR1, Nat.le_trans (by decide) hR2⟩) (tf_preV hk hW ha0 (ci := 10) rfl rfl trivial) rfl rfl hl.1 rfl (lv_room (Nat.le_of_ble_eq_true rfl)) dX10_does_35 ⟨Nat.zero_le _, Nat.zero_le _⟩) hW (by decide) (fun H11 locs11 hW hF11 hp11 => ?_)
      refine lv_iload_n hx hb dX10_does_38 rfl (lv_at hl 0 rfl) ?_
      refine lv_aload_n hx hb dX10_does_39 rfl (lv_at hl 1 rfl) ?_
      refine tf_calli (va_runV (As := []) (rest := [.int (Int32.ofInt z7)]) ⟨hx, hb, hml, hown, hts⟩ (c_X10_overAll l g T a0 ha0) (cwV 0 hts gv_X10_422 rfl rfl rfl hd_X10_overAll ⟨Nat.le_trans (by decide) hR1, Nat.le_trans (by decide) hR2⟩) (tf_preV hk hW ha0 (ci := 10) rfl rfl trivial) rfl rfl hl.1 rfl (lv_room (Nat.le_of_ble_eq_true rfl)) dX10_does_40 ⟨Nat.zero_le _, Nat.zero_le _⟩) hW (by decide) (fun z12 H12 locs12 hW hF12 hp12 => ?_)
      obtain ⟨hp12_0, hp12_1⟩ := hp12
      refine tf_isub hx hb dX10_does_43 ?_
      exact tf_reti (z := (z7 - z12)) hx hb hr hlocks hQ hW (show (-2147483648) ≤ ((z7 - z12)) ∧ ((z7 - z12)) ≤ 2147483647 by omega) dX10_does_44
    · exfalso; omega
  · refine tf_if_ne (tgt := 17) hx hb ⟨by decide, by decide⟩ dX10_does_10 (by decide) (fun h13 => ?_) (fun h13 => ?_)
    · exfalso; omega
    · refine tf_ldcw (z := -1000000000) hx hb hown (hts _ kc_X10_432) (by decide) dX10_does_13 ?_
      exact tf_reti (z := (-1000000000)) hx hb hr hlocks hQ hW (show (-2147483648) ≤ ((-1000000000)) ∧ ((-1000000000)) ≤ 2147483647 by omega) dX10_does_16

abbrev M_X10_share : List (Nat × Nat) := [(38, 0), (39, 0), (40, 0), (41, 0), (42, 0), (43, 0), (44, 0), (47, 0), (50, 0), (50, 26), (50, 29), (50, 30), (50, 31), (50, 37), (50, 38), (50, 39), (50, 40), (50, 41), (50, 42)]
set_option maxHeartbeats 4000000 in
set_option maxRecDepth 100000 in
theorem c_X10_share (l : Launch) (g : tf_G) (T : tf_T) (a0 : Nat) (ha0 : T a0 = some (50, 0)) (x1 : Int) (hp1 : (-2147483648) ≤ x1 ∧ x1 ≤ 2147483647) : Met l yX10_share (cd_X10_share :: wsL_law) ({ frames := 9, cells := 0, slots := 0, locals := 224 }) (tf_P g T [.ref a0, .int (Int32.ofInt x1)] (fun H => True)) (tf_Ql g M_X10_share T (fun z _ _ => (-9223372036854775808) ≤ z ∧ z ≤ 9223372036854775807)) 0 0 (fun q => tf_B g ≤ q) := by
  refine Met.ofW (cc := cX10_share) (maxL := 9) (ret := (some .long)) (by decide) rfl ?_
  intro p e s m args below meth c s₁ B hml hv
  obtain ⟨hargs, hk, hW0, hB, hpre⟩ := hv
  have hx := B.exec
  have hb := B.bytes
  have hr := B.returns
  have hts : ∀ w ∈ wsL_law, w.before args s = true := fun w h => atoms_spec (ws := cd_X10_share :: wsL_law) B.pre w (List.mem_cons_of_mem _ h)
  have hown : s.vm.findClass RX10 = some m.cls := findClass_of_methodNamed B.named
  have hlocks := B.notSynchronized
  have hK := hk.1
  have hW := tf_n.start (M := M_X10_share) hW0 hB
  obtain ⟨Q, hQ⟩ : ∃ q, q = MQ below (tf_Ql g M_X10_share T (fun z _ _ => (-9223372036854775808) ≤ z ∧ z ≤ 9223372036854775807)) args s 0 0 (fun q => tf_B g ≤ q) := ⟨_, rfl⟩
  rw [← hQ]
  obtain ⟨R, hR⟩ : ∃ q, q = (headSpec (cd_X10_share :: wsL_law) ({ frames := 9, cells := 0, slots := 0, locals := 224 })).room := ⟨_, rfl⟩
  rw [← hR]
  have hR1 : 9 ≤ R.frames := by rw [hR]; exact Nat.le_refl _
  have hR2 : 224 ≤ R.locals := by rw [hR]; exact Nat.le_refl _
  have hR3 : 0 ≤ R.cells := by rw [hR]; exact Nat.le_refl _
  have hR4 : 0 ≤ R.slots := by rw [hR]; exact Nat.le_refl _
  have hin := (name_of_methodNamed B.named B.method).1
  clear hR B
  have j_59 : ∀ (n_59 : Nat), 0 ≤ x1 ∧ x1 ≤ 5 → ∀ (x2_59 : Int), 0 ≤ x2_59 ∧ x2_59 ≤ 6 → ∀ (x3_59 : Int), (-9223372036854775808) ≤ x3_59 ∧ x3_59 ≤ 9223372036854775807 → ∀ (x5_59 : Int), 0 ≤ x5_59 ∧ x5_59 ≤ 64 → (64 - x5_59 + 1 ≤ (n_59 : Int)) → ∀ (H : Heap) (locs : List Loc), tf_n tf_kt g M_X10_share T s.heap T H locs → ∀ (ls : Array Slot), lv_has ls 9 [(0, .ref a0), (1, .int (Int32.ofInt x1)), (2, .int (Int32.ofInt x2_59)), (3, .long (Int64.ofInt x3_59)), (5, .int (Int32.ofInt x5_59))] → W p l e R s m args below meth c H locs 0 0 Q (F0 m 59 ls []) := by
    intro n_59
    induction n_59 with
    | zero =>
      intro hx1_59 x2_59 hx2_59 x3_59 hx3_59 x5_59 hx5_59 hm_59
      exfalso; omega
    | succ n_59 ih_59 =>
      intro hx1_59 x2_59 hx2_59 x3_59 hx3_59 x5_59 hx5_59 hm_59 H locs hW  ls hl
      have j_128 : 0 ≤ x1 ∧ x1 ≤ 5 → 0 ≤ x2_59 ∧ x2_59 ≤ 6 → ∀ (x3_128 : Int), (-9223372036854775808) ≤ x3_128 ∧ x3_128 ≤ 9223372036854775807 → 0 ≤ x5_59 ∧ x5_59 ≤ 63 → ∀ (H : Heap) (locs : List Loc), tf_n tf_kt g M_X10_share T s.heap T H locs → ∀ (ls : Array Slot), lv_has ls 9 [(0, .ref a0), (1, .int (Int32.ofInt x1)), (2, .int (Int32.ofInt x2_59)), (3, .long (Int64.ofInt x3_128)), (5, .int (Int32.ofInt x5_59))] → W p l e R s m args below meth c H locs 0 0 Q (F0 m 128 ls []) := by
        intro hx1_128 hx2_128 x3_128 hx3_128 hx5_128 H locs hW  ls hl
        refine lv_iinc (v := Int32.ofInt ((x5_59 + 1))) (lv' := [(5, .int (Int32.ofInt ((x5_59 + 1)))), (0, .ref a0), (1, .int (Int32.ofInt x1)), (2, .int (Int32.ofInt x2_59)), (3, .long (Int64.ofInt x3_128))]) hx hb dX10_share_128 hl (k := 4) rfl (Int32.ofInt_add _ _).symm (by decide) rfl (fun ls hl => ?_)
        refine lv_goto (tgt := 59) hx hb dX10_share_131 (by decide) ?_
        exact ih_59 ⟨by omega, by omega⟩ (x2_59) ⟨by omega, by omega⟩ (x3_128) ⟨by omega, by omega⟩ ((x5_59 + 1)) ⟨by omega, by omega⟩ (by omega) _ _ hW  _ (lv_sub hl [1, 2, 3, 4, 0] rfl)
      refine lv_iload hx hb dX10_share_59 (lv_at hl 4 rfl) ?_
      refine tf_iconst hx hb dX10_share_61 ?_
      refine lv_iload_n hx hb dX10_share_62 rfl (lv_at hl 2 rfl) ?_
      refine tf_ishl_e hx hb dX10_share_63 (fun zsb ezsb hzsb => ?_)
      have hzsb2 := tf_sh1 (m := x2_59) (by omega) (by omega) hzsb ezsb
      refine tf_icmp_ge (tgt := 134) hx hb ⟨by omega, by omega⟩ ⟨by omega, by omega⟩ dX10_share_64 (by decide) (fun h1 => ?_) (fun h1 => ?_)
      · refine lv_lload_n hx hb dX10_share_134 rfl (lv_at hl 3 rfl) ?_
        refine tf_sipush hx hb dX10_share_135 (by decide) ?_
        refine lv_iload_n hx hb dX10_share_138 rfl (lv_at hl 2 rfl) ?_
        refine tf_calli (va_runS (As := [.int (Int32.ofInt x2_59)]) (rest := [.int (Int32.ofInt 720), .long (Int64.ofInt x3_59)]) ⟨hx, hb, hml, hown, hts⟩ (c_X10_orders l g T (x2_59) ⟨by omega, by omega⟩) ⟨callB_of 1 hts (gw_ws cm_X10_orders) rfl rfl rfl (hts _ (tw1 (i := 5) rfl)) (hts _ (tw43 (i := 9) rfl)) hd_X10_orders.2 ⟨Nat.le_trans (by decide) hR1, Nat.le_trans (by decide) hR2⟩, hts _ (tw43 (i := 10) rfl)⟩ (tf_preS hk hW trivial) rfl rfl hl.1 rfl (lv_room (Nat.le_of_ble_eq_true rfl)) dX10_share_139 ⟨Nat.zero_le _, Nat.zero_le _⟩) hW (by decide) (fun z2 H2 locs2 hW hF2 hp2 => ?_)
        obtain ⟨hp2_0, hp2_1⟩ := hp2
        refine tf_idiv_pos hx hb ⟨by decide, by decide⟩ (by omega) ⟨by omega, by omega⟩ (by omega) dX10_share_142 (fun z3 hz3 => ?_)
        refine tf_i2l hx hb ⟨by omega, by omega⟩ dX10_share_143 ?_
        refine tf_lmul_any hx hb dX10_share_144 (fun z4 hz4 => ?_)
        exact tf_retl (z := z4) hx hb hr hlocks hQ hW (show (-9223372036854775808) ≤ (z4) ∧ (z4) ≤ 9223372036854775807 by omega) dX10_share_145
      · refine lv_iload hx hb dX10_share_67 (lv_at hl 4 rfl) ?_
        refine lv_iload_n hx hb dX10_share_69 rfl (lv_at hl 1 rfl) ?_
        refine tf_calli (va_runS (As := [.int (Int32.ofInt x5_59), .int (Int32.ofInt x1)]) (rest := []) ⟨hx, hb, hml, hown, hts⟩ (c_X10_is l g T (x5_59) ⟨by omega, by omega⟩ (x1) ⟨by omega, by omega⟩) ⟨callB_of 2 hts (gw_ws cm_X10_is) rfl rfl rfl (hts _ (tw1 (i := 5) rfl)) (hts _ (tw35 (i := 16) rfl)) hd_X10_is.2 ⟨Nat.le_trans (by decide) hR1, Nat.le_trans (by decide) hR2⟩, hts _ (tw35 (i := 17) rfl)⟩ (tf_preS hk hW trivial) rfl rfl hl.1 rfl (lv_room (Nat.le_of_ble_eq_true rfl)) dX10_share_70 ⟨Nat.zero_le _, Nat.zero_le _⟩) hW (by decide) (fun z5 H5 locs5 hW hF5 hp5 => ?_)
        rcases hp5 with ⟨rfl, h6⟩ | ⟨rfl⟩
        · refine tf_if_ne (tgt := 128) hx hb ⟨by decide, by decide⟩ dX10_share_73 (by decide) (fun h7 => ?_) (fun h7 => ?_)
          · exact j_128 ⟨by omega, by omega⟩ ⟨by omega, by omega⟩ (x3_59) ⟨by omega, by omega⟩ ⟨by omega, by omega⟩ _ _ hW  _ (lv_sub hl [0, 1, 2, 3, 4] rfl)
          · exfalso; omega
        · refine tf_if_ne (tgt := 128) hx hb ⟨by decide, by decide⟩ dX10_share_73 (by decide) (fun h8 => ?_) (fun h8 => ?_)
          · exfalso; omega
          · refine lv_iload hx hb dX10_share_76 (lv_at hl 4 rfl) ?_
            refine tf_calli (va_runS (As := [.int (Int32.ofInt x5_59)]) (rest := []) ⟨hx, hb, hml, hown, hts⟩ (c_X10_bits l g T (x5_59) ⟨by omega, by omega⟩) ⟨callB_of 1 hts (gw_ws cm_X10_bits) rfl rfl rfl (hts _ (tw1 (i := 5) rfl)) (hts _ (tw43 (i := 6) rfl)) hd_X10_bits.2 ⟨Nat.le_trans (by decide) hR1, Nat.le_trans (by decide) hR2⟩, hts _ (tw43 (i := 7) rfl)⟩ (tf_preS hk hW trivial) rfl rfl hl.1 rfl (lv_room (Nat.le_of_ble_eq_true rfl)) dX10_share_78 ⟨Nat.zero_le _, Nat.zero_le _⟩) hW (by decide) (fun z9 H9 locs9 hW hF9 hp9 => ?_)
            obtain ⟨hp9_0, hp9_1⟩ := hp9
            refine lv_istore (lv' := [(6, .int (Int32.ofInt z9)), (0, .ref a0), (1, .int (Int32.ofInt x1)), (2, .int (Int32.ofInt x2_59)), (3, .long (Int64.ofInt x3_59)), (5, .int (Int32.ofInt x5_59))]) hx hb dX10_share_81 hl (by decide) rfl (fun ls hl => ?_)
            refine lv_iload hx hb dX10_share_83 (lv_at hl 0 rfl) ?_
            refine tf_calli (va_runS (As := [.int (Int32.ofInt z9)]) (rest := []) ⟨hx, hb, hml, hown, hts⟩ (c_X10_orders l g T (z9) ⟨by omega, by omega⟩) ⟨callB_of 1 hts (gw_ws cm_X10_orders) rfl rfl rfl (hts _ (tw1 (i := 5) rfl)) (hts _ (tw43 (i := 9) rfl)) hd_X10_orders.2 ⟨Nat.le_trans (by decide) hR1, Nat.le_trans (by decide) hR2⟩, hts _ (tw43 (i := 10) rfl)⟩ (tf_preS hk hW trivial) rfl rfl hl.1 rfl (lv_room (Nat.le_of_ble_eq_true rfl)) dX10_share_85 ⟨Nat.zero_le _, Nat.zero_le _⟩) hW (by decide) (fun z10 H10 locs10 hW hF10 hp10 => ?_)
            obtain ⟨hp10_0, hp10_1⟩ := hp10
            refine tf_i2l hx hb ⟨by omega, by omega⟩ dX10_share_88 ?_
            refine lv_iload_n hx hb dX10_share_89 rfl (lv_at hl 3 rfl) ?_
            refine lv_iload hx hb dX10_share_90 (lv_at hl 0 rfl) ?_
            refine tf_isub hx hb dX10_share_92 ?_
            refine tf_iconst hx hb dX10_share_93 ?_
            refine tf_isub hx hb dX10_share_94 ?_
            refine tf_calli (va_runS (As := [.int (Int32.ofInt (((x2_59 - z9) - 1)))]) (rest := [.long (Int64.ofInt z10)]) ⟨hx, hb, hml, hown, hts⟩ (c_X10_orders l g T (((x2_59 - z9) - 1)) ⟨by omega, by omega⟩) ⟨callB_of 1 hts (gw_ws cm_X10_orders) rfl rfl rfl (hts _ (tw1 (i := 5) rfl)) (hts _ (tw43 (i := 9) rfl)) hd_X10_orders.2 ⟨Nat.le_trans (by decide) hR1, Nat.le_trans (by decide) hR2⟩, hts _ (tw43 (i := 10) rfl)⟩ (tf_preS hk hW trivial) rfl rfl hl.1 rfl (lv_room (Nat.le_of_ble_eq_true rfl)) dX10_share_95 ⟨Nat.zero_le _, Nat.zero_le _⟩) hW (by decide) (fun z11 H11 locs11 hW hF11 hp11 => ?_)
            obtain ⟨hp11_0, hp11_1⟩ := hp11
            refine tf_i2l hx hb ⟨by omega, by omega⟩ dX10_share_98 ?_
            refine tf_lmul_any hx hb dX10_share_99 (fun z12 hz12 => ?_)
            refine lv_lstore (lv' := [(7, .long (Int64.ofInt z12)), (6, .int (Int32.ofInt z9)), (0, .ref a0), (1, .int (Int32.ofInt x1)), (2, .int (Int32.ofInt x2_59)), (3, .long (Int64.ofInt x3_59)), (5, .int (Int32.ofInt x5_59))]) hx hb dX10_share_100 hl (by decide) rfl (fun ls hl => ?_)
            refine lv_lload_n hx hb dX10_share_102 rfl (lv_at hl 5 rfl) ?_
            refine lv_lload hx hb dX10_share_103 (lv_at hl 0 rfl) ?_
            refine lv_aload_n hx hb dX10_share_105 rfl (lv_at hl 2 rfl) ?_
            refine tf_get hx hb hts inlX10 hown hK (ci := 10) rfl hW ha0 rfl 45 rfl (by decide) (hts _ fl_X10_94) dX10_share_106 (fun v13 hv13 hsv13 => ?_)
            obtain ⟨ad14, rfl, had14⟩ := tf_v1 hv13
            refine lv_iload hx hb dX10_share_109 (lv_at hl 6 rfl) ?_
            refine tf_iconst hx hb dX10_share_111 ?_
            refine lv_iload_n hx hb dX10_share_112 rfl (lv_at hl 3 rfl) ?_
            refine tf_ishl_e hx hb dX10_share_113 (fun zsl ezsl hzsl => ?_)
            refine tf_ior_e hx hb dX10_share_114 (fun zor ezor hzor => ?_)
            have hzor2 := tf_share2 (by omega) (by omega) (by omega) (by omega) hzor ezsl ezor
            refine tf_iald (t0 := 0) hx hb hK hW had14 rfl rfl (by omega) (by omega) dX10_share_115 (fun v15 hv15 hsv15 => ?_)
            obtain ⟨z16, rfl, hz16⟩ := tf_v0 hv15
            refine lv_aload_n hx hb dX10_share_116 rfl (lv_at hl 2 rfl) ?_
            refine tf_get hx hb hts inlX10 hown hK (ci := 10) rfl hW ha0 rfl 45 rfl (by decide) (hts _ fl_X10_94) dX10_share_117 (fun v17 hv17 hsv17 => ?_)
            obtain rfl : v17 = .ref ad14 := Option.some.inj (hsv17.symm.trans hsv13)
            refine lv_iload hx hb dX10_share_120 (lv_at hl 6 rfl) ?_
            refine tf_iald (t0 := 0) hx hb hK hW had14 rfl rfl (by omega) (by omega) dX10_share_122 (fun v18 hv18 hsv18 => ?_)
            obtain ⟨z19, rfl, hz19⟩ := tf_v0 hv18
            refine tf_isub_any hx hb dX10_share_123 (fun z20 hz20 => ?_)
            refine tf_i2l hx hb ⟨by omega, by omega⟩ dX10_share_124 ?_
            refine tf_lmul_any hx hb dX10_share_125 (fun z21 hz21 => ?_)
            refine tf_ladd_c hx hb dX10_share_126 (fun z22 hz22 kz22 => ?_)
            refine lv_lstore_n (lv' := [(3, .long (Int64.ofInt z22)), (7, .long (Int64.ofInt z12)), (6, .int (Int32.ofInt z9)), (0, .ref a0), (1, .int (Int32.ofInt x1)), (2, .int (Int32.ofInt x2_59)), (5, .int (Int32.ofInt x5_59))]) hx hb dX10_share_127 rfl hl (by decide) rfl (fun ls hl => ?_)
            exact j_128 ⟨by omega, by omega⟩ ⟨by omega, by omega⟩ (z22) ⟨by omega, by omega⟩ ⟨by omega, by omega⟩ _ _ hW  _ (lv_sub hl [3, 4, 5, 0, 6] rfl)
  have j_26 : ∀ (n_26 : Nat), 0 ≤ x1 ∧ x1 ≤ 5 → ∀ (x2_26 : Int), 0 ≤ x2_26 ∧ x2_26 ≤ 6 → ∀ (x3_26 : Int), 0 ≤ x3_26 ∧ x3_26 ≤ 64 → (64 - x3_26 + 1 ≤ (n_26 : Int)) → ∀ (H : Heap) (locs : List Loc), tf_n tf_kt g M_X10_share T s.heap T H locs → ∀ (ls : Array Slot), lv_has ls 9 [(0, .ref a0), (1, .int (Int32.ofInt x1)), (2, .int (Int32.ofInt x2_26)), (3, .int (Int32.ofInt x3_26))] → W p l e R s m args below meth c H locs 0 0 Q (F0 m 26 ls []) := by
    intro n_26
    induction n_26 with
    | zero =>
      intro hx1_26 x2_26 hx2_26 x3_26 hx3_26 hm_26
      exfalso; omega
    | succ n_26 ih_26 =>
      intro hx1_26 x2_26 hx2_26 x3_26 hx3_26 hm_26 H locs hW  ls hl
      refine lv_iload_n hx hb dX10_share_26 rfl (lv_at hl 3 rfl) ?_
      refine tf_iconst hx hb dX10_share_27 ?_
      refine lv_iload_n hx hb dX10_share_28 rfl (lv_at hl 2 rfl) ?_
      refine tf_ishl_e hx hb dX10_share_29 (fun zsa ezsa hzsa => ?_)
      have hzsa2 := tf_sh1 (m := x2_26) (by omega) (by omega) hzsa ezsa
      refine tf_icmp_ge (tgt := 54) hx hb ⟨by omega, by omega⟩ ⟨by omega, by omega⟩ dX10_share_30 (by decide) (fun h23 => ?_) (fun h23 => ?_)
      · refine tf_lconst (z := 0) hx hb dX10_share_54 (by decide) ?_
        refine lv_lstore_n (lv' := [(3, .long (Int64.ofInt 0)), (0, .ref a0), (1, .int (Int32.ofInt x1)), (2, .int (Int32.ofInt x2_26))]) hx hb dX10_share_55 rfl hl (by decide) rfl (fun ls hl => ?_)
        refine tf_iconst hx hb dX10_share_56 ?_
        refine lv_istore (lv' := [(5, .int (Int32.ofInt 0)), (3, .long (Int64.ofInt 0)), (0, .ref a0), (1, .int (Int32.ofInt x1)), (2, .int (Int32.ofInt x2_26))]) hx hb dX10_share_57 hl (by decide) rfl (fun ls hl => ?_)
        exact j_59 ((64 - 0 + 1 : Int)).toNat ⟨by omega, by omega⟩ (x2_26) ⟨by omega, by omega⟩ (0) ⟨by omega, by omega⟩ (0) ⟨by omega, by omega⟩ (by omega) _ _ hW  _ (lv_sub hl [2, 3, 4, 1, 0] rfl)
      · refine lv_aload_n hx hb dX10_share_33 rfl (lv_at hl 0 rfl) ?_
        refine lv_iload_n hx hb dX10_share_34 rfl (lv_at hl 3 rfl) ?_
        refine tf_callv (va_runV (As := [.int (Int32.ofInt x3_26)]) (rest := []) ⟨hx, hb, hml, hown, hts⟩ (c_X10_lay l g T a0 ha0 (x3_26) ⟨by omega, by omega⟩) (cwV 1 hts gv_X10_357 rfl rfl rfl hd_X10_lay ⟨Nat.le_trans (by decide) hR1, Nat.le_trans (by decide) hR2⟩) (tf_preV hk hW ha0 (ci := 10) rfl rfl trivial) rfl rfl hl.1 rfl (lv_room (Nat.le_of_ble_eq_true rfl)) dX10_share_35 ⟨Nat.zero_le _, Nat.zero_le _⟩) hW (by decide) (fun H24 locs24 hW hF24 hp24 => ?_)
        refine lv_aload_n hx hb dX10_share_38 rfl (lv_at hl 0 rfl) ?_
        refine tf_get hx hb hts inlX10 hown hK (ci := 10) rfl hW ha0 rfl 45 rfl (by decide) (hts _ fl_X10_94) dX10_share_39 (fun v25 hv25 hsv25 => ?_)
        obtain ⟨ad26, rfl, had26⟩ := tf_v1 hv25
        refine lv_iload_n hx hb dX10_share_42 rfl (lv_at hl 3 rfl) ?_
        refine lv_aload_n hx hb dX10_share_43 rfl (lv_at hl 0 rfl) ?_
        refine tf_calli (va_runV (As := []) (rest := [.int (Int32.ofInt x3_26), .ref ad26]) ⟨hx, hb, hml, hown, hts⟩ (c_X10_overAll l g T a0 ha0) (cwV 0 hts gv_X10_422 rfl rfl rfl hd_X10_overAll ⟨Nat.le_trans (by decide) hR1, Nat.le_trans (by decide) hR2⟩) (tf_preV hk hW ha0 (ci := 10) rfl rfl trivial) rfl rfl hl.1 rfl (lv_room (Nat.le_of_ble_eq_true rfl)) dX10_share_44 ⟨Nat.zero_le _, Nat.zero_le _⟩) hW (by decide) (fun z27 H27 locs27 hW hF27 hp27 => ?_)
        obtain ⟨hp27_0, hp27_1⟩ := hp27
        refine tf_iast (t0 := 0) hx hb hK hW had26 rfl rfl (by omega) (by omega) (by decide) (tf_u0 (by omega) (by omega)) dX10_share_47 (fun H28 locs28 hW hs28 ht28 hq28 => ?_)
        refine lv_iinc (v := Int32.ofInt ((x3_26 + 1))) (lv' := [(3, .int (Int32.ofInt ((x3_26 + 1)))), (0, .ref a0), (1, .int (Int32.ofInt x1)), (2, .int (Int32.ofInt x2_26))]) hx hb dX10_share_48 hl (k := 3) rfl (Int32.ofInt_add _ _).symm (by decide) rfl (fun ls hl => ?_)
        refine lv_goto (tgt := 26) hx hb dX10_share_51 (by decide) ?_
        exact ih_26 ⟨by omega, by omega⟩ (x2_26) ⟨by omega, by omega⟩ ((x3_26 + 1)) ⟨by omega, by omega⟩ (by omega) _ _ hW  _ (lv_sub hl [1, 2, 3, 0] rfl)
  refine tf_enter (As := [.ref a0, .int (Int32.ofInt x1)]) hargs (Nat.le_of_ble_eq_true rfl) (fun ls hl => ?_)
  have hl : lv_has ls 9 [(0, .ref a0), (1, .int (Int32.ofInt x1))] := hl
  refine lv_aload_n hx hb dX10_share_0 rfl (lv_at hl 0 rfl) ?_
  refine tf_iconst hx hb dX10_share_1 ?_
  refine tf_put hx hb hts inlX10 tyX10 tyX10_ok nmX10 hown hK (ci := 10) rfl hW ha0 rfl rfl 0 rfl (by decide) (by decide) (hts _ fl_X10_103) rfl (tf_u0 (by omega) (by omega)) rfl rfl dX10_share_2 (fun H29 locs29 hW hs29 ht29 hq29 => ?_)
  refine lv_aload_n hx hb dX10_share_5 rfl (lv_at hl 0 rfl) ?_
  refine lv_iload_n hx hb dX10_share_6 rfl (lv_at hl 1 rfl) ?_
  refine tf_calli (va_runV (As := [.int (Int32.ofInt x1)]) (rest := []) ⟨hx, hb, hml, hown, hts⟩ (c_X10_isTower l g T a0 ha0 (x1) ⟨by omega, by omega⟩) (cwV 1 hts gv_X10_165 rfl rfl rfl hd_X10_isTower ⟨Nat.le_trans (by decide) hR1, Nat.le_trans (by decide) hR2⟩) (tf_preV hk hW ha0 (ci := 10) rfl rfl trivial) rfl rfl hl.1 rfl (lv_room (Nat.le_of_ble_eq_true rfl)) dX10_share_7 ⟨Nat.zero_le _, Nat.zero_le _⟩) hW (by decide) (fun z30 H30 locs30 hW hF30 hp30 => ?_)
  rcases hp30 with ⟨rfl, h31, h32⟩ | ⟨rfl⟩
  · refine tf_if_ne (tgt := 17) hx hb ⟨by decide, by decide⟩ dX10_share_10 (by decide) (fun h33 => ?_) (fun h33 => ?_)
    · refine lv_aload_n hx hb dX10_share_17 rfl (lv_at hl 0 rfl) ?_
      refine tf_get hx hb hts inlX10 hown hK (ci := 10) rfl hW ha0 rfl 3 rfl (by decide) (hts _ fl_X10_13) dX10_share_18 (fun v34 hv34 hsv34 => ?_)
      obtain ⟨ad35, rfl, had35⟩ := tf_v1 hv34
      refine tf_iconst hx hb dX10_share_21 ?_
      refine tf_iald (t0 := 0) hx hb hK hW had35 rfl rfl (by omega) (by omega) dX10_share_22 (fun v36 hv36 hsv36 => ?_)
      obtain ⟨z37, rfl, hz37⟩ := tf_v0 hv36
      have hg38 := tf_rd0 (tf_ROof hW had35) hsv36 ⟨by omega, by omega⟩ (by omega)
      refine lv_istore_n (lv' := [(2, .int (Int32.ofInt z37)), (0, .ref a0), (1, .int (Int32.ofInt x1))]) hx hb dX10_share_23 rfl hl (by decide) rfl (fun ls hl => ?_)
      refine tf_iconst hx hb dX10_share_24 ?_
      refine lv_istore_n (lv' := [(3, .int (Int32.ofInt 0)), (2, .int (Int32.ofInt z37)), (0, .ref a0), (1, .int (Int32.ofInt x1))]) hx hb dX10_share_25 rfl hl (by decide) rfl (fun ls hl => ?_)
      exact j_26 ((64 - 0 + 1 : Int)).toNat ⟨by omega, by omega⟩ (z37) ⟨by omega, by omega⟩ (0) ⟨by omega, by omega⟩ (by omega) _ _ hW  _ (lv_sub hl [2, 3, 1, 0] rfl)
    · exfalso; omega
  · refine tf_if_ne (tgt := 17) hx hb ⟨by decide, by decide⟩ dX10_share_10 (by decide) (fun h39 => ?_) (fun h39 => ?_)
    · exfalso; omega
    · refine tf_ldc2 (z := -1000000000000) hx hb hown (hts _ kl_X10_433) (by decide) dX10_share_13 ?_
      exact tf_retl (z := (-1000000000000)) hx hb hr hlocks hQ hW (show (-9223372036854775808) ≤ ((-1000000000000)) ∧ ((-1000000000000)) ≤ 9223372036854775807 by omega) dX10_share_16

abbrev M_X10_ahead : List (Nat × Nat) := [(38, 0), (39, 0), (40, 0), (41, 0), (42, 0), (43, 0), (44, 0), (50, 0), (50, 26), (50, 29), (50, 30), (50, 31), (50, 37), (50, 38), (50, 39), (50, 40), (50, 41), (50, 42)]
set_option maxHeartbeats 4000000 in
set_option maxRecDepth 100000 in
theorem c_X10_ahead (l : Launch) (g : tf_G) (T : tf_T) (a0 : Nat) (ha0 : T a0 = some (50, 0)) (x1 : Int) (hp1 : (-2147483648) ≤ x1 ∧ x1 ≤ 2147483647) (x2 : Int) (hp2 : (-2147483648) ≤ x2 ∧ x2 ≤ 2147483647) (x3 : Int) (hp3 : (-2147483648) ≤ x3 ∧ x3 ≤ 2147483647) (x4 : Int) (hp4 : (-2147483648) ≤ x4 ∧ x4 ≤ 2147483647) (x5 : Int) (hp5 : (-2147483648) ≤ x5 ∧ x5 ≤ 2147483647) : Met l yX10_ahead (cd_X10_ahead :: wsL_law) ({ frames := 9, cells := 0, slots := 0, locals := 224 }) (tf_P g T [.ref a0, .int (Int32.ofInt x1), .int (Int32.ofInt x2), .int (Int32.ofInt x3), .int (Int32.ofInt x4), .int (Int32.ofInt x5)] (fun H => True)) (tf_Qi g M_X10_ahead T (fun z _ _ => (-2147483648) ≤ z ∧ z ≤ 2147483647)) 0 0 (fun q => tf_B g ≤ q) := by
  refine Met.ofW (cc := cX10_ahead) (maxL := 6) (ret := (some .int)) (by decide) rfl ?_
  intro p e s m args below meth c s₁ B hml hv
  obtain ⟨hargs, hk, hW0, hB, hpre⟩ := hv
  have hx := B.exec
  have hb := B.bytes
  have hr := B.returns
  have hts : ∀ w ∈ wsL_law, w.before args s = true := fun w h => atoms_spec (ws := cd_X10_ahead :: wsL_law) B.pre w (List.mem_cons_of_mem _ h)
  have hown : s.vm.findClass RX10 = some m.cls := findClass_of_methodNamed B.named
  have hlocks := B.notSynchronized
  have hK := hk.1
  have hW := tf_n.start (M := M_X10_ahead) hW0 hB
  obtain ⟨Q, hQ⟩ : ∃ q, q = MQ below (tf_Qi g M_X10_ahead T (fun z _ _ => (-2147483648) ≤ z ∧ z ≤ 2147483647)) args s 0 0 (fun q => tf_B g ≤ q) := ⟨_, rfl⟩
  rw [← hQ]
  obtain ⟨R, hR⟩ : ∃ q, q = (headSpec (cd_X10_ahead :: wsL_law) ({ frames := 9, cells := 0, slots := 0, locals := 224 })).room := ⟨_, rfl⟩
  rw [← hR]
  have hR1 : 9 ≤ R.frames := by rw [hR]; exact Nat.le_refl _
  have hR2 : 224 ≤ R.locals := by rw [hR]; exact Nat.le_refl _
  have hR3 : 0 ≤ R.cells := by rw [hR]; exact Nat.le_refl _
  have hR4 : 0 ≤ R.slots := by rw [hR]; exact Nat.le_refl _
  have hin := (name_of_methodNamed B.named B.method).1
  clear hR B
  refine tf_enter (As := [.ref a0, .int (Int32.ofInt x1), .int (Int32.ofInt x2), .int (Int32.ofInt x3), .int (Int32.ofInt x4), .int (Int32.ofInt x5)]) hargs (Nat.le_of_ble_eq_true rfl) (fun ls hl => ?_)
  have hl : lv_has ls 6 [(0, .ref a0), (1, .int (Int32.ofInt x1)), (2, .int (Int32.ofInt x2)), (3, .int (Int32.ofInt x3)), (4, .int (Int32.ofInt x4)), (5, .int (Int32.ofInt x5))] := hl
  refine lv_aload_n hx hb dX10_ahead_0 rfl (lv_at hl 0 rfl) ?_
  refine tf_iconst hx hb dX10_ahead_1 ?_
  refine tf_put hx hb hts inlX10 tyX10 tyX10_ok nmX10 hown hK (ci := 10) rfl hW ha0 rfl rfl 0 rfl (by decide) (by decide) (hts _ fl_X10_103) rfl (tf_u0 (by omega) (by omega)) rfl rfl dX10_ahead_2 (fun H1 locs1 hW hs1 ht1 hq1 => ?_)
  refine lv_aload_n hx hb dX10_ahead_5 rfl (lv_at hl 0 rfl) ?_
  refine lv_iload_n hx hb dX10_ahead_6 rfl (lv_at hl 1 rfl) ?_
  refine lv_iload_n hx hb dX10_ahead_7 rfl (lv_at hl 2 rfl) ?_
  refine lv_iload_n hx hb dX10_ahead_8 rfl (lv_at hl 3 rfl) ?_
  refine lv_iload hx hb dX10_ahead_9 (lv_at hl 4 rfl) ?_
  refine lv_iload hx hb dX10_ahead_11 (lv_at hl 5 rfl) ?_
  refine tf_calli (va_runV (As := [.int (Int32.ofInt x1), .int (Int32.ofInt x2), .int (Int32.ofInt x3), .int (Int32.ofInt x4), .int (Int32.ofInt x5)]) (rest := []) ⟨hx, hb, hml, hown, hts⟩ (c_X10_canBuild l g T a0 ha0 (x1) ⟨by omega, by omega⟩ (x2) ⟨by omega, by omega⟩ (x3) ⟨by omega, by omega⟩ (x4) ⟨by omega, by omega⟩ (x5) ⟨by omega, by omega⟩) (cwV 5 hts gv_X10_441 rfl rfl rfl hd_X10_canBuild ⟨Nat.le_trans (by decide) hR1, Nat.le_trans (by decide) hR2⟩) (tf_preV hk hW ha0 (ci := 10) rfl rfl trivial) rfl rfl hl.1 rfl (lv_room (Nat.le_of_ble_eq_true rfl)) dX10_ahead_13 ⟨Nat.zero_le _, Nat.zero_le _⟩) hW (by decide) (fun z2 H2 locs2 hW hF2 hp2 => ?_)
  rcases hp2 with ⟨rfl, h3, h4, h5, h6, h7, h8, h9, h10, h11, h12, h13, h14⟩ | ⟨rfl⟩
  · refine tf_if_ne (tgt := 21) hx hb ⟨by decide, by decide⟩ dX10_ahead_16 (by decide) (fun h15 => ?_) (fun h15 => ?_)
    · refine lv_aload_n hx hb dX10_ahead_21 rfl (lv_at hl 0 rfl) ?_
      refine lv_iload_n hx hb dX10_ahead_22 rfl (lv_at hl 1 rfl) ?_
      refine lv_iload_n hx hb dX10_ahead_23 rfl (lv_at hl 2 rfl) ?_
      refine lv_iload_n hx hb dX10_ahead_24 rfl (lv_at hl 3 rfl) ?_
      refine lv_iload hx hb dX10_ahead_25 (lv_at hl 4 rfl) ?_
      refine lv_iload hx hb dX10_ahead_27 (lv_at hl 5 rfl) ?_
      refine tf_callv (va_runV (As := [.int (Int32.ofInt x1), .int (Int32.ofInt x2), .int (Int32.ofInt x3), .int (Int32.ofInt x4), .int (Int32.ofInt x5)]) (rest := []) ⟨hx, hb, hml, hown, hts⟩ (c_X10_buildPaper l g T a0 ha0 (x1) ⟨by omega, by omega⟩ (x2) ⟨by omega, by omega⟩ (x3) ⟨by omega, by omega⟩ (x4) ⟨by omega, by omega⟩ (x5) ⟨by omega, by omega⟩ (by omega) (by omega)) (cwV 5 hts gv_X10_444 rfl rfl rfl hd_X10_buildPaper ⟨Nat.le_trans (by decide) hR1, Nat.le_trans (by decide) hR2⟩) (tf_preV hk hW ha0 (ci := 10) rfl rfl trivial) rfl rfl hl.1 rfl (lv_room (Nat.le_of_ble_eq_true rfl)) dX10_ahead_29 ⟨Nat.zero_le _, Nat.zero_le _⟩) hW (by decide) (fun H16 locs16 hW hF16 hp16 => ?_)
      refine lv_aload_n hx hb dX10_ahead_32 rfl (lv_at hl 0 rfl) ?_
      refine tf_calli (va_runV (As := []) (rest := []) ⟨hx, hb, hml, hown, hts⟩ (c_X10_overAll l g T a0 ha0) (cwV 0 hts gv_X10_422 rfl rfl rfl hd_X10_overAll ⟨Nat.le_trans (by decide) hR1, Nat.le_trans (by decide) hR2⟩) (tf_preV hk hW ha0 (ci := 10) rfl rfl trivial) rfl rfl hl.1 rfl (lv_room (Nat.le_of_ble_eq_true rfl)) dX10_ahead_33 ⟨Nat.zero_le _, Nat.zero_le _⟩) hW (by decide) (fun z17 H17 locs17 hW hF17 hp17 => ?_)
      obtain ⟨hp17_0, hp17_1⟩ := hp17
      exact tf_reti (z := z17) hx hb hr hlocks hQ hW (show (-2147483648) ≤ (z17) ∧ (z17) ≤ 2147483647 by omega) dX10_ahead_36
    · exfalso; omega
  · refine tf_if_ne (tgt := 21) hx hb ⟨by decide, by decide⟩ dX10_ahead_16 (by decide) (fun h18 => ?_) (fun h18 => ?_)
    · exfalso; omega
    · refine tf_iconst hx hb dX10_ahead_19 ?_
      exact tf_reti (z := (-1)) hx hb hr hlocks hQ hW (show (-2147483648) ≤ ((-1)) ∧ ((-1)) ≤ 2147483647 by omega) dX10_ahead_20

abbrev M_X10_site : List (Nat × Nat) := [(38, 0), (39, 0), (40, 0), (41, 0), (42, 0), (43, 0), (44, 0), (50, 0), (50, 26), (50, 29), (50, 30), (50, 31), (50, 37), (50, 38), (50, 39), (50, 40), (50, 41), (50, 42)]
set_option maxHeartbeats 4000000 in
set_option maxRecDepth 100000 in
theorem c_X10_site (l : Launch) (g : tf_G) (T : tf_T) (a0 : Nat) (ha0 : T a0 = some (50, 0)) (x1 : Int) (hp1 : (-2147483648) ≤ x1 ∧ x1 ≤ 2147483647) (x2 : Int) (hp2 : (-2147483648) ≤ x2 ∧ x2 ≤ 2147483647) (x3 : Int) (hp3 : (-2147483648) ≤ x3 ∧ x3 ≤ 2147483647) (x4 : Int) (hp4 : (-2147483648) ≤ x4 ∧ x4 ≤ 2147483647) : Met l yX10_site (cd_X10_site :: wsL_law) ({ frames := 9, cells := 0, slots := 0, locals := 224 }) (tf_P g T [.ref a0, .int (Int32.ofInt x1), .int (Int32.ofInt x2), .int (Int32.ofInt x3), .int (Int32.ofInt x4)] (fun H => True)) (tf_Qi g M_X10_site T (fun z _ _ => (-2147483648) ≤ z ∧ z ≤ 2147483647)) 0 0 (fun q => tf_B g ≤ q) := by
  refine Met.ofW (cc := cX10_site) (maxL := 10) (ret := (some .int)) (by decide) rfl ?_
  intro p e s m args below meth c s₁ B hml hv
  obtain ⟨hargs, hk, hW0, hB, hpre⟩ := hv
  have hx := B.exec
  have hb := B.bytes
  have hr := B.returns
  have hts : ∀ w ∈ wsL_law, w.before args s = true := fun w h => atoms_spec (ws := cd_X10_site :: wsL_law) B.pre w (List.mem_cons_of_mem _ h)
  have hown : s.vm.findClass RX10 = some m.cls := findClass_of_methodNamed B.named
  have hlocks := B.notSynchronized
  have hK := hk.1
  have hW := tf_n.start (M := M_X10_site) hW0 hB
  obtain ⟨Q, hQ⟩ : ∃ q, q = MQ below (tf_Qi g M_X10_site T (fun z _ _ => (-2147483648) ≤ z ∧ z ≤ 2147483647)) args s 0 0 (fun q => tf_B g ≤ q) := ⟨_, rfl⟩
  rw [← hQ]
  obtain ⟨R, hR⟩ : ∃ q, q = (headSpec (cd_X10_site :: wsL_law) ({ frames := 9, cells := 0, slots := 0, locals := 224 })).room := ⟨_, rfl⟩
  rw [← hR]
  have hR1 : 9 ≤ R.frames := by rw [hR]; exact Nat.le_refl _
  have hR2 : 224 ≤ R.locals := by rw [hR]; exact Nat.le_refl _
  have hR3 : 0 ≤ R.cells := by rw [hR]; exact Nat.le_refl _
  have hR4 : 0 ≤ R.slots := by rw [hR]; exact Nat.le_refl _
  have hin := (name_of_methodNamed B.named B.method).1
  clear hR B
  have j_45 : ∀ (n_45 : Nat), 1 ≤ x1 ∧ x1 ≤ 5 → 1 ≤ x2 ∧ x2 ≤ 5 → 1 ≤ x3 ∧ x3 ≤ 40 → 0 ≤ x4 ∧ x4 ≤ 2 → ∀ (x5_45 : Int), 0 ≤ x5_45 ∧ x5_45 ≤ 2000000000 → ∀ (x6_45 : Int), (-1) ≤ x6_45 ∧ x6_45 ≤ 99 → ∀ (x7_45 : Int), (-2147483648) ≤ x7_45 ∧ x7_45 ≤ 2147483647 → ∀ (x8_45 : Int), 0 ≤ x8_45 ∧ x8_45 ≤ 100 → (100 - x8_45 + 1 ≤ (n_45 : Int)) → ∀ (H : Heap) (locs : List Loc), tf_n tf_kt g M_X10_site T s.heap T H locs → ∀ (ls : Array Slot), lv_has ls 10 [(0, .ref a0), (1, .int (Int32.ofInt x1)), (2, .int (Int32.ofInt x2)), (3, .int (Int32.ofInt x3)), (4, .int (Int32.ofInt x4)), (5, .int (Int32.ofInt x5_45)), (6, .int (Int32.ofInt x6_45)), (7, .int (Int32.ofInt x7_45)), (8, .int (Int32.ofInt x8_45))] → W p l e R s m args below meth c H locs 0 0 Q (F0 m 45 ls []) := by
    intro n_45
    induction n_45 with
    | zero =>
      intro hx1_45 hx2_45 hx3_45 hx4_45 x5_45 hx5_45 x6_45 hx6_45 x7_45 hx7_45 x8_45 hx8_45 hm_45
      exfalso; omega
    | succ n_45 ih_45 =>
      intro hx1_45 hx2_45 hx3_45 hx4_45 x5_45 hx5_45 x6_45 hx6_45 x7_45 hx7_45 x8_45 hx8_45 hm_45 H locs hW  ls hl
      have j_130 : 1 ≤ x1 ∧ x1 ≤ 5 → 1 ≤ x2 ∧ x2 ≤ 5 → 1 ≤ x3 ∧ x3 ≤ 40 → 0 ≤ x4 ∧ x4 ≤ 2 → ∀ (x5_130 : Int), 0 ≤ x5_130 ∧ x5_130 ≤ 2000000000 → ∀ (x6_130 : Int), (-1) ≤ x6_130 ∧ x6_130 ≤ 99 → ∀ (x7_130 : Int), (-2147483648) ≤ x7_130 ∧ x7_130 ≤ 2147483647 → 0 ≤ x8_45 ∧ x8_45 ≤ 99 → ∀ (H : Heap) (locs : List Loc), tf_n tf_kt g M_X10_site T s.heap T H locs → ∀ (ls : Array Slot), lv_has ls 10 [(0, .ref a0), (1, .int (Int32.ofInt x1)), (2, .int (Int32.ofInt x2)), (3, .int (Int32.ofInt x3)), (4, .int (Int32.ofInt x4)), (5, .int (Int32.ofInt x5_130)), (6, .int (Int32.ofInt x6_130)), (7, .int (Int32.ofInt x7_130)), (8, .int (Int32.ofInt x8_45))] → W p l e R s m args below meth c H locs 0 0 Q (F0 m 130 ls []) := by
        intro hx1_130 hx2_130 hx3_130 hx4_130 x5_130 hx5_130 x6_130 hx6_130 x7_130 hx7_130 hx8_130 H locs hW  ls hl
        refine lv_iinc (v := Int32.ofInt ((x8_45 + 1))) (lv' := [(8, .int (Int32.ofInt ((x8_45 + 1)))), (0, .ref a0), (1, .int (Int32.ofInt x1)), (2, .int (Int32.ofInt x2)), (3, .int (Int32.ofInt x3)), (4, .int (Int32.ofInt x4)), (5, .int (Int32.ofInt x5_130)), (6, .int (Int32.ofInt x6_130)), (7, .int (Int32.ofInt x7_130))]) hx hb dX10_site_130 hl (k := 8) rfl (Int32.ofInt_add _ _).symm (by decide) rfl (fun ls hl => ?_)
        refine lv_goto (tgt := 45) hx hb dX10_site_133 (by decide) ?_
        exact ih_45 ⟨by omega, by omega⟩ ⟨by omega, by omega⟩ ⟨by omega, by omega⟩ ⟨by omega, by omega⟩ (x5_130) ⟨by omega, by omega⟩ (x6_130) ⟨by omega, by omega⟩ (x7_130) ⟨by omega, by omega⟩ ((x8_45 + 1)) ⟨by omega, by omega⟩ (by omega) _ _ hW  _ (lv_sub hl [1, 2, 3, 4, 5, 6, 7, 8, 0] rfl)
      have j_128 : 1 ≤ x1 ∧ x1 ≤ 5 → 1 ≤ x2 ∧ x2 ≤ 5 → 1 ≤ x3 ∧ x3 ≤ 40 → 0 ≤ x4 ∧ x4 ≤ 2 → ∀ (x6_128 : Int), (-1) ≤ x6_128 ∧ x6_128 ≤ 99 → ∀ (x7_128 : Int), (-2147483648) ≤ x7_128 ∧ x7_128 ≤ 2147483647 → 0 ≤ x8_45 ∧ x8_45 ≤ 99 → ∀ (y0_128 : Int), 0 ≤ y0_128 ∧ y0_128 ≤ 3996000 → ∀ (H : Heap) (locs : List Loc), tf_n tf_kt g M_X10_site T s.heap T H locs → ∀ (ls : Array Slot), lv_has ls 10 [(0, .ref a0), (1, .int (Int32.ofInt x1)), (2, .int (Int32.ofInt x2)), (3, .int (Int32.ofInt x3)), (4, .int (Int32.ofInt x4)), (6, .int (Int32.ofInt x6_128)), (7, .int (Int32.ofInt x7_128)), (8, .int (Int32.ofInt x8_45))] → W p l e R s m args below meth c H locs 0 0 Q (F0 m 128 ls [.int (Int32.ofInt y0_128)]) := by
        intro hx1_128 hx2_128 hx3_128 hx4_128 x6_128 hx6_128 x7_128 hx7_128 hx8_128 y0_128 hy0_128 H locs hW  ls hl
        refine lv_istore (lv' := [(5, .int (Int32.ofInt y0_128)), (0, .ref a0), (1, .int (Int32.ofInt x1)), (2, .int (Int32.ofInt x2)), (3, .int (Int32.ofInt x3)), (4, .int (Int32.ofInt x4)), (6, .int (Int32.ofInt x6_128)), (7, .int (Int32.ofInt x7_128)), (8, .int (Int32.ofInt x8_45))]) hx hb dX10_site_128 hl (by decide) rfl (fun ls hl => ?_)
        exact j_130 ⟨by omega, by omega⟩ ⟨by omega, by omega⟩ ⟨by omega, by omega⟩ ⟨by omega, by omega⟩ (y0_128) ⟨by omega, by omega⟩ (x6_128) ⟨by omega, by omega⟩ (x7_128) ⟨by omega, by omega⟩ ⟨by omega, by omega⟩ _ _ hW  _ (lv_sub hl [1, 2, 3, 4, 5, 0, 6, 7, 8] rfl)
      have j_112 : 1 ≤ x1 ∧ x1 ≤ 5 → 1 ≤ x2 ∧ x2 ≤ 5 → 1 ≤ x3 ∧ x3 ≤ 40 → 0 ≤ x4 ∧ x4 ≤ 2 → 0 ≤ x5_45 ∧ x5_45 ≤ 2000000000 → ∀ (x7_112 : Int), (-2147483648) ≤ x7_112 ∧ x7_112 ≤ 2147483647 → 0 ≤ x8_45 ∧ x8_45 ≤ 99 → ∀ (x9_112 : Int), 0 ≤ x9_112 ∧ x9_112 ≤ 3996000 → ∀ (y0_112 : Int), (-1) ≤ y0_112 ∧ y0_112 ≤ 99 → ∀ (H : Heap) (locs : List Loc), tf_n tf_kt g M_X10_site T s.heap T H locs → ∀ (ls : Array Slot), lv_has ls 10 [(0, .ref a0), (1, .int (Int32.ofInt x1)), (2, .int (Int32.ofInt x2)), (3, .int (Int32.ofInt x3)), (4, .int (Int32.ofInt x4)), (5, .int (Int32.ofInt x5_45)), (7, .int (Int32.ofInt x7_112)), (8, .int (Int32.ofInt x8_45)), (9, .int (Int32.ofInt x9_112))] → W p l e R s m args below meth c H locs 0 0 Q (F0 m 112 ls [.int (Int32.ofInt y0_112)]) := by
        intro hx1_112 hx2_112 hx3_112 hx4_112 hx5_112 x7_112 hx7_112 hx8_112 x9_112 hx9_112 y0_112 hy0_112 H locs hW  ls hl
        refine lv_istore (lv' := [(6, .int (Int32.ofInt y0_112)), (0, .ref a0), (1, .int (Int32.ofInt x1)), (2, .int (Int32.ofInt x2)), (3, .int (Int32.ofInt x3)), (4, .int (Int32.ofInt x4)), (5, .int (Int32.ofInt x5_45)), (7, .int (Int32.ofInt x7_112)), (8, .int (Int32.ofInt x8_45)), (9, .int (Int32.ofInt x9_112))]) hx hb dX10_site_112 hl (by decide) rfl (fun ls hl => ?_)
        refine lv_iload hx hb dX10_site_114 (lv_at hl 9 rfl) ?_
        refine lv_iload hx hb dX10_site_116 (lv_at hl 6 rfl) ?_
        refine tf_icmp_ge (tgt := 126) hx hb ⟨by omega, by omega⟩ ⟨by omega, by omega⟩ dX10_site_118 (by decide) (fun h1 => ?_) (fun h1 => ?_)
        · refine lv_iload hx hb dX10_site_126 (lv_at hl 6 rfl) ?_
          exact j_128 ⟨by omega, by omega⟩ ⟨by omega, by omega⟩ ⟨by omega, by omega⟩ ⟨by omega, by omega⟩ (y0_112) ⟨by omega, by omega⟩ (x7_112) ⟨by omega, by omega⟩ ⟨by omega, by omega⟩ (x5_45) ⟨by omega, by omega⟩ _ _ hW  _ (lv_sub hl [1, 2, 3, 4, 5, 0, 7, 8] rfl)
        · refine lv_iload hx hb dX10_site_121 (lv_at hl 9 rfl) ?_
          refine lv_goto (tgt := 128) hx hb dX10_site_123 (by decide) ?_
          exact j_128 ⟨by omega, by omega⟩ ⟨by omega, by omega⟩ ⟨by omega, by omega⟩ ⟨by omega, by omega⟩ (y0_112) ⟨by omega, by omega⟩ (x7_112) ⟨by omega, by omega⟩ ⟨by omega, by omega⟩ (x9_112) ⟨by omega, by omega⟩ _ _ hW  _ (lv_sub hl [1, 2, 3, 4, 5, 0, 7, 8] rfl)
      refine lv_iload hx hb dX10_site_45 (lv_at hl 8 rfl) ?_
      refine tf_bipush hx hb dX10_site_47 (by decide) ?_
      refine tf_icmp_ge (tgt := 136) hx hb ⟨by omega, by omega⟩ ⟨by decide, by decide⟩ dX10_site_49 (by decide) (fun h2 => ?_) (fun h2 => ?_)
      · refine lv_iload hx hb dX10_site_136 (lv_at hl 4 rfl) ?_
        refine tf_iconst hx hb dX10_site_138 ?_
        refine tf_icmp_ne (tgt := 147) hx hb ⟨by omega, by omega⟩ ⟨by decide, by decide⟩ dX10_site_139 (by decide) (fun h3 => ?_) (fun h3 => ?_)
        · refine lv_iload hx hb dX10_site_147 (lv_at hl 6 rfl) ?_
          refine tf_iconst hx hb dX10_site_149 ?_
          refine tf_icmp_ne (tgt := 157) hx hb ⟨by omega, by omega⟩ ⟨by decide, by decide⟩ dX10_site_150 (by decide) (fun h4 => ?_) (fun h4 => ?_)
          · refine lv_iload hx hb dX10_site_157 (lv_at hl 4 rfl) ?_
            refine tf_if_ne (tgt := 167) hx hb ⟨by omega, by omega⟩ dX10_site_159 (by decide) (fun h5 => ?_) (fun h5 => ?_)
            · refine lv_iload hx hb dX10_site_167 (lv_at hl 5 rfl) ?_
              exact tf_reti (z := x5_45) hx hb hr hlocks hQ hW (show (-2147483648) ≤ (x5_45) ∧ (x5_45) ≤ 2147483647 by omega) dX10_site_169
            · refine lv_iload hx hb dX10_site_162 (lv_at hl 6 rfl) ?_
              refine lv_goto (tgt := 169) hx hb dX10_site_164 (by decide) ?_
              exact tf_reti (z := x6_45) hx hb hr hlocks hQ hW (show (-2147483648) ≤ (x6_45) ∧ (x6_45) ≤ 2147483647 by omega) dX10_site_169
          · refine tf_iconst hx hb dX10_site_153 ?_
            refine lv_goto (tgt := 169) hx hb dX10_site_154 (by decide) ?_
            exact tf_reti (z := (-1)) hx hb hr hlocks hQ hW (show (-2147483648) ≤ ((-1)) ∧ ((-1)) ≤ 2147483647 by omega) dX10_site_169
        · refine lv_iload hx hb dX10_site_142 (lv_at hl 7 rfl) ?_
          refine lv_goto (tgt := 169) hx hb dX10_site_144 (by decide) ?_
          exact tf_reti (z := x7_45) hx hb hr hlocks hQ hW (show (-2147483648) ≤ (x7_45) ∧ (x7_45) ≤ 2147483647 by omega) dX10_site_169
      · refine lv_aload_n hx hb dX10_site_52 rfl (lv_at hl 0 rfl) ?_
        refine lv_iload hx hb dX10_site_53 (lv_at hl 8 rfl) ?_
        refine tf_bipush hx hb dX10_site_55 (by decide) ?_
        refine tf_irem hx hb ⟨by omega, by omega⟩ (by omega) ⟨by decide, by decide⟩ (by decide) dX10_site_57 ?_
        refine tf_name (fun z6 ez6 => ?_)
        refine lv_iload hx hb dX10_site_58 (lv_at hl 8 rfl) ?_
        refine tf_bipush hx hb dX10_site_60 (by decide) ?_
        refine tf_idiv hx hb ⟨by omega, by omega⟩ (by omega) ⟨by decide, by decide⟩ (by decide) dX10_site_62 ?_
        refine tf_name (fun z7 ez7 => ?_)
        refine lv_iload_n hx hb dX10_site_63 rfl (lv_at hl 1 rfl) ?_
        refine lv_iload_n hx hb dX10_site_64 rfl (lv_at hl 2 rfl) ?_
        refine lv_iload_n hx hb dX10_site_65 rfl (lv_at hl 3 rfl) ?_
        refine tf_calli (va_runV (As := [.int (Int32.ofInt z6), .int (Int32.ofInt z7), .int (Int32.ofInt x1), .int (Int32.ofInt x2), .int (Int32.ofInt x3)]) (rest := []) ⟨hx, hb, hml, hown, hts⟩ (c_X10_canBuild l g T a0 ha0 (z6) ⟨by omega, by omega⟩ (z7) ⟨by omega, by omega⟩ (x1) ⟨by omega, by omega⟩ (x2) ⟨by omega, by omega⟩ (x3) ⟨by omega, by omega⟩) (cwV 5 hts gv_X10_441 rfl rfl rfl hd_X10_canBuild ⟨Nat.le_trans (by decide) hR1, Nat.le_trans (by decide) hR2⟩) (tf_preV hk hW ha0 (ci := 10) rfl rfl trivial) rfl rfl hl.1 rfl (lv_room (Nat.le_of_ble_eq_true rfl)) dX10_site_66 ⟨Nat.zero_le _, Nat.zero_le _⟩) hW (by decide) (fun z8 H8 locs8 hW hF8 hp8 => ?_)
        rcases hp8 with ⟨rfl, h9, h10, h11, h12, h13, h14, h15, h16, h17, h18, h19, h20⟩ | ⟨rfl⟩
        · refine tf_if_eq (tgt := 130) hx hb ⟨by decide, by decide⟩ dX10_site_69 (by decide) (fun h21 => ?_) (fun h21 => ?_)
          · exfalso; omega
          · obtain ⟨z22, ez22, hz22⟩ := tf_any (Int32.ofInt (x7_45) + Int32.ofInt 1)
            refine lv_iinc (v := Int32.ofInt (z22)) (lv' := [(7, .int (Int32.ofInt z22)), (0, .ref a0), (1, .int (Int32.ofInt x1)), (2, .int (Int32.ofInt x2)), (3, .int (Int32.ofInt x3)), (4, .int (Int32.ofInt x4)), (5, .int (Int32.ofInt x5_45)), (6, .int (Int32.ofInt x6_45)), (8, .int (Int32.ofInt x8_45))]) hx hb dX10_site_72 hl (k := 7) rfl ez22 (by decide) rfl (fun ls hl => ?_)
            refine lv_aload_n hx hb dX10_site_75 rfl (lv_at hl 1 rfl) ?_
            refine lv_iload hx hb dX10_site_76 (lv_at hl 8 rfl) ?_
            refine tf_bipush hx hb dX10_site_78 (by decide) ?_
            refine tf_irem hx hb ⟨by omega, by omega⟩ (by omega) ⟨by decide, by decide⟩ (by decide) dX10_site_80 ?_
            refine tf_name (fun z23 ez23 => ?_)
            refine lv_iload hx hb dX10_site_81 (lv_at hl 8 rfl) ?_
            refine tf_bipush hx hb dX10_site_83 (by decide) ?_
            refine tf_idiv hx hb ⟨by omega, by omega⟩ (by omega) ⟨by decide, by decide⟩ (by decide) dX10_site_85 ?_
            refine tf_name (fun z24 ez24 => ?_)
            refine lv_iload_n hx hb dX10_site_86 rfl (lv_at hl 2 rfl) ?_
            refine lv_iload_n hx hb dX10_site_87 rfl (lv_at hl 3 rfl) ?_
            refine lv_iload_n hx hb dX10_site_88 rfl (lv_at hl 4 rfl) ?_
            refine tf_callv (va_runV (As := [.int (Int32.ofInt z23), .int (Int32.ofInt z24), .int (Int32.ofInt x1), .int (Int32.ofInt x2), .int (Int32.ofInt x3)]) (rest := []) ⟨hx, hb, hml, hown, hts⟩ (c_X10_buildPaper l g T a0 ha0 (z23) ⟨by omega, by omega⟩ (z24) ⟨by omega, by omega⟩ (x1) ⟨by omega, by omega⟩ (x2) ⟨by omega, by omega⟩ (x3) ⟨by omega, by omega⟩ (by omega) (by omega)) (cwV 5 hts gv_X10_444 rfl rfl rfl hd_X10_buildPaper ⟨Nat.le_trans (by decide) hR1, Nat.le_trans (by decide) hR2⟩) (tf_preV hk hW ha0 (ci := 10) rfl rfl trivial) rfl rfl hl.1 rfl (lv_room (Nat.le_of_ble_eq_true rfl)) dX10_site_89 ⟨Nat.zero_le _, Nat.zero_le _⟩) hW (by decide) (fun H25 locs25 hW hF25 hp25 => ?_)
            refine lv_aload_n hx hb dX10_site_92 rfl (lv_at hl 1 rfl) ?_
            refine tf_calli (va_runV (As := []) (rest := []) ⟨hx, hb, hml, hown, hts⟩ (c_X10_overAll l g T a0 ha0) (cwV 0 hts gv_X10_422 rfl rfl rfl hd_X10_overAll ⟨Nat.le_trans (by decide) hR1, Nat.le_trans (by decide) hR2⟩) (tf_preV hk hW ha0 (ci := 10) rfl rfl trivial) rfl rfl hl.1 rfl (lv_room (Nat.le_of_ble_eq_true rfl)) dX10_site_93 ⟨Nat.zero_le _, Nat.zero_le _⟩) hW (by decide) (fun z26 H26 locs26 hW hF26 hp26 => ?_)
            obtain ⟨hp26_0, hp26_1⟩ := hp26
            refine lv_istore (lv' := [(9, .int (Int32.ofInt z26)), (7, .int (Int32.ofInt z22)), (0, .ref a0), (1, .int (Int32.ofInt x1)), (2, .int (Int32.ofInt x2)), (3, .int (Int32.ofInt x3)), (4, .int (Int32.ofInt x4)), (5, .int (Int32.ofInt x5_45)), (6, .int (Int32.ofInt x6_45)), (8, .int (Int32.ofInt x8_45))]) hx hb dX10_site_96 hl (by decide) rfl (fun ls hl => ?_)
            refine lv_iload hx hb dX10_site_98 (lv_at hl 0 rfl) ?_
            refine lv_iload hx hb dX10_site_100 (lv_at hl 7 rfl) ?_
            refine tf_icmp_ge (tgt := 110) hx hb ⟨by omega, by omega⟩ ⟨by omega, by omega⟩ dX10_site_102 (by decide) (fun h27 => ?_) (fun h27 => ?_)
            · refine lv_iload hx hb dX10_site_110 (lv_at hl 8 rfl) ?_
              exact j_112 ⟨by omega, by omega⟩ ⟨by omega, by omega⟩ ⟨by omega, by omega⟩ ⟨by omega, by omega⟩ ⟨by omega, by omega⟩ (z22) ⟨by omega, by omega⟩ ⟨by omega, by omega⟩ (z26) ⟨by omega, by omega⟩ (x6_45) ⟨by omega, by omega⟩ _ _ hW  _ (lv_sub hl [2, 3, 4, 5, 6, 7, 1, 9, 0] rfl)
            · refine lv_iload hx hb dX10_site_105 (lv_at hl 9 rfl) ?_
              refine lv_goto (tgt := 112) hx hb dX10_site_107 (by decide) ?_
              exact j_112 ⟨by omega, by omega⟩ ⟨by omega, by omega⟩ ⟨by omega, by omega⟩ ⟨by omega, by omega⟩ ⟨by omega, by omega⟩ (z22) ⟨by omega, by omega⟩ ⟨by omega, by omega⟩ (z26) ⟨by omega, by omega⟩ (x8_45) ⟨by omega, by omega⟩ _ _ hW  _ (lv_sub hl [2, 3, 4, 5, 6, 7, 1, 9, 0] rfl)
        · refine tf_if_eq (tgt := 130) hx hb ⟨by decide, by decide⟩ dX10_site_69 (by decide) (fun h28 => ?_) (fun h28 => ?_)
          · exact j_130 ⟨by omega, by omega⟩ ⟨by omega, by omega⟩ ⟨by omega, by omega⟩ ⟨by omega, by omega⟩ (x5_45) ⟨by omega, by omega⟩ (x6_45) ⟨by omega, by omega⟩ (x7_45) ⟨by omega, by omega⟩ ⟨by omega, by omega⟩ _ _ hW  _ (lv_sub hl [0, 1, 2, 3, 4, 5, 6, 7, 8] rfl)
          · exfalso; omega
  refine tf_enter (As := [.ref a0, .int (Int32.ofInt x1), .int (Int32.ofInt x2), .int (Int32.ofInt x3), .int (Int32.ofInt x4)]) hargs (Nat.le_of_ble_eq_true rfl) (fun ls hl => ?_)
  have hl : lv_has ls 10 [(0, .ref a0), (1, .int (Int32.ofInt x1)), (2, .int (Int32.ofInt x2)), (3, .int (Int32.ofInt x3)), (4, .int (Int32.ofInt x4))] := hl
  refine lv_aload_n hx hb dX10_site_0 rfl (lv_at hl 0 rfl) ?_
  refine tf_iconst hx hb dX10_site_1 ?_
  refine tf_put hx hb hts inlX10 tyX10 tyX10_ok nmX10 hown hK (ci := 10) rfl hW ha0 rfl rfl 0 rfl (by decide) (by decide) (hts _ fl_X10_103) rfl (tf_u0 (by omega) (by omega)) rfl rfl dX10_site_2 (fun H29 locs29 hW hs29 ht29 hq29 => ?_)
  refine tf_iconst hx hb dX10_site_5 ?_
  refine tf_iconst hx hb dX10_site_6 ?_
  refine lv_iload_n hx hb dX10_site_7 rfl (lv_at hl 1 rfl) ?_
  refine lv_iload_n hx hb dX10_site_8 rfl (lv_at hl 2 rfl) ?_
  refine lv_iload_n hx hb dX10_site_9 rfl (lv_at hl 3 rfl) ?_
  refine tf_calli (va_runS (As := [.int (Int32.ofInt 0), .int (Int32.ofInt 0), .int (Int32.ofInt x1), .int (Int32.ofInt x2), .int (Int32.ofInt x3)]) (rest := []) ⟨hx, hb, hml, hown, hts⟩ (c_X10_canBe l g T (0) ⟨by omega, by omega⟩ (0) ⟨by omega, by omega⟩ (x1) ⟨by omega, by omega⟩ (x2) ⟨by omega, by omega⟩ (x3) ⟨by omega, by omega⟩) ⟨callB_of 5 hts (gw_ws cm_X10_canBe) rfl rfl rfl (hts _ (tw1 (i := 5) rfl)) (hts _ (tw10 (i := 21) rfl)) hd_X10_canBe.2 ⟨Nat.le_trans (by decide) hR1, Nat.le_trans (by decide) hR2⟩, hts _ (tw10 (i := 22) rfl)⟩ (tf_preS hk hW trivial) rfl rfl hl.1 rfl (lv_room (Nat.le_of_ble_eq_true rfl)) dX10_site_10 ⟨Nat.zero_le _, Nat.zero_le _⟩) hW (by decide) (fun z30 H30 locs30 hW hF30 hp30 => ?_)
  rcases hp30 with ⟨rfl, h31, h32, h33, h34, h35, h36, h37, h38, h39, h40, h41, h42⟩ | ⟨rfl⟩
  · refine tf_if_eq (tgt := 29) hx hb ⟨by decide, by decide⟩ dX10_site_13 (by decide) (fun h43 => ?_) (fun h43 => ?_)
    · exfalso; omega
    · refine lv_iload hx hb dX10_site_16 (lv_at hl 4 rfl) ?_
      refine tf_i2l hx hb ⟨by omega, by omega⟩ dX10_site_18 ?_
      refine tf_lconst (z := 0) hx hb dX10_site_19 (by decide) ?_
      refine tf_ldc2 (z := 2) hx hb hown (hts _ kl_X10_171) (by decide) dX10_site_20 ?_
      refine tf_calli (va_runS (As := [.long (Int64.ofInt x4), .long (Int64.ofInt 0), .long (Int64.ofInt 2)]) (rest := []) ⟨hx, hb, hml, hown, hts⟩ (c_X10_in l g T (x4) ⟨by omega, by omega⟩ (0) ⟨by omega, by omega⟩ (2) ⟨by omega, by omega⟩) ⟨callB_of 3 hts (gw_ws cm_X10_in) rfl rfl rfl (hts _ (tw1 (i := 5) rfl)) (hts _ (tw11 (i := 3) rfl)) hd_X10_in.2 ⟨Nat.le_trans (by decide) hR1, Nat.le_trans (by decide) hR2⟩, hts _ (tw11 (i := 4) rfl)⟩ (tf_preS hk hW trivial) rfl rfl hl.1 rfl (lv_room (Nat.le_of_ble_eq_true rfl)) dX10_site_23 ⟨Nat.zero_le _, Nat.zero_le _⟩) hW (by decide) (fun z44 H44 locs44 hW hF44 hp44 => ?_)
      rcases hp44 with ⟨rfl, h45, h46⟩ | ⟨rfl, h47⟩
      · refine tf_if_ne (tgt := 31) hx hb ⟨by decide, by decide⟩ dX10_site_26 (by decide) (fun h48 => ?_) (fun h48 => ?_)
        · refine tf_ldcw (z := 2000000000) hx hb hown (hts _ kc_X10_448) (by decide) dX10_site_31 ?_
          refine lv_istore (lv' := [(5, .int (Int32.ofInt 2000000000)), (0, .ref a0), (1, .int (Int32.ofInt x1)), (2, .int (Int32.ofInt x2)), (3, .int (Int32.ofInt x3)), (4, .int (Int32.ofInt x4))]) hx hb dX10_site_34 hl (by decide) rfl (fun ls hl => ?_)
          refine tf_iconst hx hb dX10_site_36 ?_
          refine lv_istore (lv' := [(6, .int (Int32.ofInt ((-1)))), (5, .int (Int32.ofInt 2000000000)), (0, .ref a0), (1, .int (Int32.ofInt x1)), (2, .int (Int32.ofInt x2)), (3, .int (Int32.ofInt x3)), (4, .int (Int32.ofInt x4))]) hx hb dX10_site_37 hl (by decide) rfl (fun ls hl => ?_)
          refine tf_iconst hx hb dX10_site_39 ?_
          refine lv_istore (lv' := [(7, .int (Int32.ofInt 0)), (6, .int (Int32.ofInt ((-1)))), (5, .int (Int32.ofInt 2000000000)), (0, .ref a0), (1, .int (Int32.ofInt x1)), (2, .int (Int32.ofInt x2)), (3, .int (Int32.ofInt x3)), (4, .int (Int32.ofInt x4))]) hx hb dX10_site_40 hl (by decide) rfl (fun ls hl => ?_)
          refine tf_iconst hx hb dX10_site_42 ?_
          refine lv_istore (lv' := [(8, .int (Int32.ofInt 0)), (7, .int (Int32.ofInt 0)), (6, .int (Int32.ofInt ((-1)))), (5, .int (Int32.ofInt 2000000000)), (0, .ref a0), (1, .int (Int32.ofInt x1)), (2, .int (Int32.ofInt x2)), (3, .int (Int32.ofInt x3)), (4, .int (Int32.ofInt x4))]) hx hb dX10_site_43 hl (by decide) rfl (fun ls hl => ?_)
          exact j_45 ((100 - 0 + 1 : Int)).toNat ⟨by omega, by omega⟩ ⟨by omega, by omega⟩ ⟨by omega, by omega⟩ ⟨by omega, by omega⟩ (2000000000) ⟨by omega, by omega⟩ ((-1)) ⟨by omega, by omega⟩ (0) ⟨by omega, by omega⟩ (0) ⟨by omega, by omega⟩ (by omega) _ _ hW  _ (lv_sub hl [4, 5, 6, 7, 8, 3, 2, 1, 0] rfl)
        · exfalso; omega
      · refine tf_if_ne (tgt := 31) hx hb ⟨by decide, by decide⟩ dX10_site_26 (by decide) (fun h49 => ?_) (fun h49 => ?_)
        · exfalso; omega
        · refine tf_iconst hx hb dX10_site_29 ?_
          exact tf_reti (z := (-1)) hx hb hr hlocks hQ hW (show (-2147483648) ≤ ((-1)) ∧ ((-1)) ≤ 2147483647 by omega) dX10_site_30
  · refine tf_if_eq (tgt := 29) hx hb ⟨by decide, by decide⟩ dX10_site_13 (by decide) (fun h50 => ?_) (fun h50 => ?_)
    · refine tf_iconst hx hb dX10_site_29 ?_
      exact tf_reti (z := (-1)) hx hb hr hlocks hQ hW (show (-2147483648) ≤ ((-1)) ∧ ((-1)) ≤ 2147483647 by omega) dX10_site_30
    · exfalso; omega

abbrev M_X10_curve : List (Nat × Nat) := [(38, 0), (39, 0), (40, 0), (41, 0), (42, 0), (43, 0), (44, 0), (50, 0), (50, 26), (50, 29), (50, 30), (50, 31), (50, 37), (50, 38), (50, 39), (50, 40), (50, 41), (50, 42)]
set_option maxHeartbeats 4000000 in
set_option maxRecDepth 100000 in
theorem c_X10_curve (l : Launch) (g : tf_G) (T : tf_T) (a0 : Nat) (ha0 : T a0 = some (50, 0)) (x1 : Int) (hp1 : (-2147483648) ≤ x1 ∧ x1 ≤ 2147483647) (x2 : Int) (hp2 : (-2147483648) ≤ x2 ∧ x2 ≤ 2147483647) (x3 : Int) (hp3 : (-2147483648) ≤ x3 ∧ x3 ≤ 2147483647) (x4 : Int) (hp4 : (-2147483648) ≤ x4 ∧ x4 ≤ 2147483647) : Met l yX10_curve (cd_X10_curve :: wsL_law) ({ frames := 6, cells := 0, slots := 0, locals := 154 }) (tf_P g T [.ref a0, .int (Int32.ofInt x1), .int (Int32.ofInt x2), .int (Int32.ofInt x3), .int (Int32.ofInt x4)] (fun H => True)) (tf_Qi g M_X10_curve T (fun z _ _ => (-2147483648) ≤ z ∧ z ≤ 2147483647)) 0 0 (fun q => tf_B g ≤ q) := by
  refine Met.ofW (cc := cX10_curve) (maxL := 6) (ret := (some .int)) (by decide) rfl ?_
  intro p e s m args below meth c s₁ B hml hv
  obtain ⟨hargs, hk, hW0, hB, hpre⟩ := hv
  have hx := B.exec
  have hb := B.bytes
  have hr := B.returns
  have hts : ∀ w ∈ wsL_law, w.before args s = true := fun w h => atoms_spec (ws := cd_X10_curve :: wsL_law) B.pre w (List.mem_cons_of_mem _ h)
  have hown : s.vm.findClass RX10 = some m.cls := findClass_of_methodNamed B.named
  have hlocks := B.notSynchronized
  have hK := hk.1
  have hW := tf_n.start (M := M_X10_curve) hW0 hB
  obtain ⟨Q, hQ⟩ : ∃ q, q = MQ below (tf_Qi g M_X10_curve T (fun z _ _ => (-2147483648) ≤ z ∧ z ≤ 2147483647)) args s 0 0 (fun q => tf_B g ≤ q) := ⟨_, rfl⟩
  rw [← hQ]
  obtain ⟨R, hR⟩ : ∃ q, q = (headSpec (cd_X10_curve :: wsL_law) ({ frames := 6, cells := 0, slots := 0, locals := 154 })).room := ⟨_, rfl⟩
  rw [← hR]
  have hR1 : 6 ≤ R.frames := by rw [hR]; exact Nat.le_refl _
  have hR2 : 154 ≤ R.locals := by rw [hR]; exact Nat.le_refl _
  have hR3 : 0 ≤ R.cells := by rw [hR]; exact Nat.le_refl _
  have hR4 : 0 ≤ R.slots := by rw [hR]; exact Nat.le_refl _
  have hin := (name_of_methodNamed B.named B.method).1
  clear hR B
  have j_76 : 0 ≤ x1 ∧ x1 ≤ 99 → 0 ≤ x2 ∧ x2 ≤ 3 → 0 ≤ x3 ∧ x3 ≤ 9 → ∀ (x5_76 : Int), 0 ≤ x5_76 ∧ x5_76 ≤ 99 → ∀ (y1_76 : Int), 0 ≤ y1_76 ∧ y1_76 ≤ 99 → ∀ (H : Heap) (locs : List Loc), tf_n tf_kt g M_X10_curve T s.heap T H locs → ∀ (ls : Array Slot), lv_has ls 6 [(0, .ref a0), (1, .int (Int32.ofInt x1)), (2, .int (Int32.ofInt x2)), (3, .int (Int32.ofInt x3)), (5, .int (Int32.ofInt x5_76))] → W p l e R s m args below meth c H locs 0 0 Q (F0 m 76 ls [.int (Int32.ofInt y1_76), .ref a0]) := by
    intro hx1_76 hx2_76 hx3_76 x5_76 hx5_76 y1_76 hy1_76 H locs hW  ls hl
    refine tf_calli (va_runV (As := [.int (Int32.ofInt y1_76)]) (rest := []) ⟨hx, hb, hml, hown, hts⟩ (c_X10_towerOn l g T a0 ha0 (y1_76) ⟨by omega, by omega⟩) (cwV 1 hts gv_X10_136 rfl rfl rfl hd_X10_towerOn ⟨Nat.le_trans (by decide) hR1, Nat.le_trans (by decide) hR2⟩) (tf_preV hk hW ha0 (ci := 10) rfl rfl trivial) rfl rfl hl.1 rfl (lv_room (Nat.le_of_ble_eq_true rfl)) dX10_curve_76 ⟨Nat.zero_le _, Nat.zero_le _⟩) hW (by decide) (fun z1 H1 locs1 hW hF1 hp1 => ?_)
    obtain ⟨hp1_0, hp1_1⟩ := hp1
    refine tf_iconst hx hb dX10_curve_79 ?_
    refine tf_icmp_eq (tgt := 85) hx hb ⟨by omega, by omega⟩ ⟨by decide, by decide⟩ dX10_curve_80 (by decide) (fun h2 => ?_) (fun h2 => ?_)
    · refine lv_aload_n hx hb dX10_curve_85 rfl (lv_at hl 0 rfl) ?_
      refine tf_callv (va_runV (As := []) (rest := []) ⟨hx, hb, hml, hown, hts⟩ (c_X10_layAll l g T a0 ha0) (cwV 0 hts gv_X10_405 rfl rfl rfl hd_X10_layAll ⟨Nat.le_trans (by decide) hR1, Nat.le_trans (by decide) hR2⟩) (tf_preV hk hW ha0 (ci := 10) rfl rfl trivial) rfl rfl hl.1 rfl (lv_room (Nat.le_of_ble_eq_true rfl)) dX10_curve_86 ⟨Nat.zero_le _, Nat.zero_le _⟩) hW (by decide) (fun H3 locs3 hW hF3 hp3 => ?_)
      refine lv_aload_n hx hb dX10_curve_89 rfl (lv_at hl 0 rfl) ?_
      refine tf_get hx hb hts inlX10 hown hK (ci := 10) rfl hW ha0 rfl 34 rfl (by decide) (hts _ fl_X10_79) dX10_curve_90 (fun v4 hv4 hsv4 => ?_)
      obtain ⟨ad5, rfl, had5⟩ := tf_v1 hv4
      refine lv_iload_n hx hb dX10_curve_93 rfl (lv_at hl 1 rfl) ?_
      refine lv_iload_n hx hb dX10_curve_94 rfl (lv_at hl 3 rfl) ?_
      refine tf_iast (t0 := 0) hx hb hK hW had5 rfl rfl (by omega) (by omega) (by decide) (tf_u0 (by omega) (by omega)) dX10_curve_95 (fun H6 locs6 hW hs6 ht6 hq6 => ?_)
      refine lv_aload_n hx hb dX10_curve_96 rfl (lv_at hl 0 rfl) ?_
      refine lv_iload hx hb dX10_curve_97 (lv_at hl 4 rfl) ?_
      refine lv_iload_n hx hb dX10_curve_99 rfl (lv_at hl 2 rfl) ?_
      refine tf_calli (va_runV (As := [.int (Int32.ofInt x5_76), .int (Int32.ofInt x2)]) (rest := []) ⟨hx, hb, hml, hown, hts⟩ (c_X10_quickIn l g T a0 ha0 (x5_76) ⟨by omega, by omega⟩ (x2) ⟨by omega, by omega⟩) (cwV 2 hts gv_X10_408 rfl rfl rfl hd_X10_quickIn ⟨Nat.le_trans (by decide) hR1, Nat.le_trans (by decide) hR2⟩) (tf_preV hk hW ha0 (ci := 10) rfl rfl trivial) rfl rfl hl.1 rfl (lv_room (Nat.le_of_ble_eq_true rfl)) dX10_curve_100 ⟨Nat.zero_le _, Nat.zero_le _⟩) hW (by decide) (fun z7 H7 locs7 hW hF7 hp7 => ?_)
      obtain ⟨hp7_0, hp7_1⟩ := hp7
      exact tf_reti (z := z7) hx hb hr hlocks hQ hW (show (-2147483648) ≤ (z7) ∧ (z7) ≤ 2147483647 by omega) dX10_curve_103
    · refine tf_iconst hx hb dX10_curve_83 ?_
      exact tf_reti (z := (-1)) hx hb hr hlocks hQ hW (show (-2147483648) ≤ ((-1)) ∧ ((-1)) ≤ 2147483647 by omega) dX10_curve_84
  refine tf_enter (As := [.ref a0, .int (Int32.ofInt x1), .int (Int32.ofInt x2), .int (Int32.ofInt x3), .int (Int32.ofInt x4)]) hargs (Nat.le_of_ble_eq_true rfl) (fun ls hl => ?_)
  have hl : lv_has ls 6 [(0, .ref a0), (1, .int (Int32.ofInt x1)), (2, .int (Int32.ofInt x2)), (3, .int (Int32.ofInt x3)), (4, .int (Int32.ofInt x4))] := hl
  refine lv_aload_n hx hb dX10_curve_0 rfl (lv_at hl 0 rfl) ?_
  refine tf_iconst hx hb dX10_curve_1 ?_
  refine tf_put hx hb hts inlX10 tyX10 tyX10_ok nmX10 hown hK (ci := 10) rfl hW ha0 rfl rfl 0 rfl (by decide) (by decide) (hts _ fl_X10_103) rfl (tf_u0 (by omega) (by omega)) rfl rfl dX10_curve_2 (fun H8 locs8 hW hs8 ht8 hq8 => ?_)
  refine lv_aload_n hx hb dX10_curve_5 rfl (lv_at hl 0 rfl) ?_
  refine lv_iload_n hx hb dX10_curve_6 rfl (lv_at hl 1 rfl) ?_
  refine tf_calli (va_runV (As := [.int (Int32.ofInt x1)]) (rest := []) ⟨hx, hb, hml, hown, hts⟩ (c_X10_isGround l g T a0 ha0 (x1) ⟨by omega, by omega⟩) (cwV 1 hts gv_X10_148 rfl rfl rfl hd_X10_isGround ⟨Nat.le_trans (by decide) hR1, Nat.le_trans (by decide) hR2⟩) (tf_preV hk hW ha0 (ci := 10) rfl rfl trivial) rfl rfl hl.1 rfl (lv_room (Nat.le_of_ble_eq_true rfl)) dX10_curve_7 ⟨Nat.zero_le _, Nat.zero_le _⟩) hW (by decide) (fun z9 H9 locs9 hW hF9 hp9 => ?_)
  rcases hp9 with ⟨rfl, h10, h11⟩ | ⟨rfl⟩
  · refine tf_if_eq (tgt := 45) hx hb ⟨by decide, by decide⟩ dX10_curve_10 (by decide) (fun h12 => ?_) (fun h12 => ?_)
    · exfalso; omega
    · refine lv_iload_n hx hb dX10_curve_13 rfl (lv_at hl 2 rfl) ?_
      refine tf_calli (va_runS (As := [.int (Int32.ofInt x2)]) (rest := []) ⟨hx, hb, hml, hown, hts⟩ (c_X10_isWay l g T (x2) ⟨by omega, by omega⟩) ⟨callB_of 1 hts (gw_ws cm_X10_isWay) rfl rfl rfl (hts _ (tw1 (i := 5) rfl)) (hts _ (tw17 (i := 8) rfl)) hd_X10_isWay.2 ⟨Nat.le_trans (by decide) hR1, Nat.le_trans (by decide) hR2⟩, hts _ (tw17 (i := 9) rfl)⟩ (tf_preS hk hW trivial) rfl rfl hl.1 rfl (lv_room (Nat.le_of_ble_eq_true rfl)) dX10_curve_14 ⟨Nat.zero_le _, Nat.zero_le _⟩) hW (by decide) (fun z13 H13 locs13 hW hF13 hp13 => ?_)
      rcases hp13 with ⟨rfl, h14, h15⟩ | ⟨rfl, h16⟩
      · refine tf_if_eq (tgt := 45) hx hb ⟨by decide, by decide⟩ dX10_curve_17 (by decide) (fun h17 => ?_) (fun h17 => ?_)
        · exfalso; omega
        · refine lv_iload_n hx hb dX10_curve_20 rfl (lv_at hl 3 rfl) ?_
          refine tf_i2l hx hb ⟨by omega, by omega⟩ dX10_curve_21 ?_
          refine tf_lconst (z := 0) hx hb dX10_curve_22 (by decide) ?_
          refine tf_ldc2 (z := 9) hx hb hown (hts _ kl_X10_142) (by decide) dX10_curve_23 ?_
          refine tf_calli (va_runS (As := [.long (Int64.ofInt x3), .long (Int64.ofInt 0), .long (Int64.ofInt 9)]) (rest := []) ⟨hx, hb, hml, hown, hts⟩ (c_X10_in l g T (x3) ⟨by omega, by omega⟩ (0) ⟨by omega, by omega⟩ (9) ⟨by omega, by omega⟩) ⟨callB_of 3 hts (gw_ws cm_X10_in) rfl rfl rfl (hts _ (tw1 (i := 5) rfl)) (hts _ (tw11 (i := 3) rfl)) hd_X10_in.2 ⟨Nat.le_trans (by decide) hR1, Nat.le_trans (by decide) hR2⟩, hts _ (tw11 (i := 4) rfl)⟩ (tf_preS hk hW trivial) rfl rfl hl.1 rfl (lv_room (Nat.le_of_ble_eq_true rfl)) dX10_curve_26 ⟨Nat.zero_le _, Nat.zero_le _⟩) hW (by decide) (fun z18 H18 locs18 hW hF18 hp18 => ?_)
          rcases hp18 with ⟨rfl, h19, h20⟩ | ⟨rfl, h21⟩
          · refine tf_if_eq (tgt := 45) hx hb ⟨by decide, by decide⟩ dX10_curve_29 (by decide) (fun h22 => ?_) (fun h22 => ?_)
            · exfalso; omega
            · refine lv_iload hx hb dX10_curve_32 (lv_at hl 4 rfl) ?_
              refine tf_i2l hx hb ⟨by omega, by omega⟩ dX10_curve_34 ?_
              refine tf_lconst (z := 1) hx hb dX10_curve_35 (by decide) ?_
              refine tf_ldc2 (z := 5) hx hb hown (hts _ kl_X10_144) (by decide) dX10_curve_36 ?_
              refine tf_calli (va_runS (As := [.long (Int64.ofInt x4), .long (Int64.ofInt 1), .long (Int64.ofInt 5)]) (rest := []) ⟨hx, hb, hml, hown, hts⟩ (c_X10_in l g T (x4) ⟨by omega, by omega⟩ (1) ⟨by omega, by omega⟩ (5) ⟨by omega, by omega⟩) ⟨callB_of 3 hts (gw_ws cm_X10_in) rfl rfl rfl (hts _ (tw1 (i := 5) rfl)) (hts _ (tw11 (i := 3) rfl)) hd_X10_in.2 ⟨Nat.le_trans (by decide) hR1, Nat.le_trans (by decide) hR2⟩, hts _ (tw11 (i := 4) rfl)⟩ (tf_preS hk hW trivial) rfl rfl hl.1 rfl (lv_room (Nat.le_of_ble_eq_true rfl)) dX10_curve_39 ⟨Nat.zero_le _, Nat.zero_le _⟩) hW (by decide) (fun z23 H23 locs23 hW hF23 hp23 => ?_)
              rcases hp23 with ⟨rfl, h24, h25⟩ | ⟨rfl, h26⟩
              · refine tf_if_ne (tgt := 47) hx hb ⟨by decide, by decide⟩ dX10_curve_42 (by decide) (fun h27 => ?_) (fun h27 => ?_)
                · refine lv_iload_n hx hb dX10_curve_47 rfl (lv_at hl 1 rfl) ?_
                  refine lv_iload_n hx hb dX10_curve_48 rfl (lv_at hl 2 rfl) ?_
                  refine lv_iload hx hb dX10_curve_49 (lv_at hl 4 rfl) ?_
                  refine tf_ineg hx hb dX10_curve_51 ?_
                  refine tf_calli (va_runS (As := [.int (Int32.ofInt x1), .int (Int32.ofInt x2), .int (Int32.ofInt ((-x4)))]) (rest := []) ⟨hx, hb, hml, hown, hts⟩ (c_X10_upFrom l g T (x1) ⟨by omega, by omega⟩ (x2) ⟨by omega, by omega⟩ ((-x4)) ⟨by omega, by omega⟩) ⟨callB_of 3 hts (gw_ws cm_X10_upFrom) rfl rfl rfl (hts _ (tw1 (i := 5) rfl)) (hts _ (tw36 (i := 18) rfl)) hd_X10_upFrom.2 ⟨Nat.le_trans (by decide) hR1, Nat.le_trans (by decide) hR2⟩, hts _ (tw36 (i := 19) rfl)⟩ (tf_preS hk hW trivial) rfl rfl hl.1 rfl (lv_room (Nat.le_of_ble_eq_true rfl)) dX10_curve_52 ⟨Nat.zero_le _, Nat.zero_le _⟩) hW (by decide) (fun z28 H28 locs28 hW hF28 hp28 => ?_)
                  obtain ⟨hp28_0, hp28_1⟩ := hp28
                  refine lv_istore (lv' := [(5, .int (Int32.ofInt z28)), (0, .ref a0), (1, .int (Int32.ofInt x1)), (2, .int (Int32.ofInt x2)), (3, .int (Int32.ofInt x3)), (4, .int (Int32.ofInt x4))]) hx hb dX10_curve_55 hl (by decide) rfl (fun ls hl => ?_)
                  refine lv_iload hx hb dX10_curve_57 (lv_at hl 0 rfl) ?_
                  refine tf_iconst hx hb dX10_curve_59 ?_
                  refine tf_icmp_eq (tgt := 83) hx hb ⟨by omega, by omega⟩ ⟨by decide, by decide⟩ dX10_curve_60 (by decide) (fun h29 => ?_) (fun h29 => ?_)
                  · refine tf_iconst hx hb dX10_curve_83 ?_
                    exact tf_reti (z := (-1)) hx hb hr hlocks hQ hW (show (-2147483648) ≤ ((-1)) ∧ ((-1)) ≤ 2147483647 by omega) dX10_curve_84
                  · refine lv_aload_n hx hb dX10_curve_63 rfl (lv_at hl 1 rfl) ?_
                    refine lv_iload hx hb dX10_curve_64 (lv_at hl 0 rfl) ?_
                    refine tf_iconst hx hb dX10_curve_66 ?_
                    refine tf_icmp_ne (tgt := 74) hx hb ⟨by omega, by omega⟩ ⟨by decide, by decide⟩ dX10_curve_67 (by decide) (fun h30 => ?_) (fun h30 => ?_)
                    · refine lv_iload hx hb dX10_curve_74 (lv_at hl 0 rfl) ?_
                      exact j_76 ⟨by omega, by omega⟩ ⟨by omega, by omega⟩ ⟨by omega, by omega⟩ (z28) ⟨by omega, by omega⟩ (z28) ⟨by omega, by omega⟩ _ _ hW  _ (lv_sub hl [1, 2, 3, 4, 0] rfl)
                    · exfalso; omega
                · exfalso; omega
              · refine tf_if_ne (tgt := 47) hx hb ⟨by decide, by decide⟩ dX10_curve_42 (by decide) (fun h31 => ?_) (fun h31 => ?_)
                · exfalso; omega
                · refine tf_iconst hx hb dX10_curve_45 ?_
                  exact tf_reti (z := (-1)) hx hb hr hlocks hQ hW (show (-2147483648) ≤ ((-1)) ∧ ((-1)) ≤ 2147483647 by omega) dX10_curve_46
          · refine tf_if_eq (tgt := 45) hx hb ⟨by decide, by decide⟩ dX10_curve_29 (by decide) (fun h32 => ?_) (fun h32 => ?_)
            · refine tf_iconst hx hb dX10_curve_45 ?_
              exact tf_reti (z := (-1)) hx hb hr hlocks hQ hW (show (-2147483648) ≤ ((-1)) ∧ ((-1)) ≤ 2147483647 by omega) dX10_curve_46
            · exfalso; omega
      · refine tf_if_eq (tgt := 45) hx hb ⟨by decide, by decide⟩ dX10_curve_17 (by decide) (fun h33 => ?_) (fun h33 => ?_)
        · refine tf_iconst hx hb dX10_curve_45 ?_
          exact tf_reti (z := (-1)) hx hb hr hlocks hQ hW (show (-2147483648) ≤ ((-1)) ∧ ((-1)) ≤ 2147483647 by omega) dX10_curve_46
        · exfalso; omega
  · refine tf_if_eq (tgt := 45) hx hb ⟨by decide, by decide⟩ dX10_curve_10 (by decide) (fun h34 => ?_) (fun h34 => ?_)
    · refine tf_iconst hx hb dX10_curve_45 ?_
      exact tf_reti (z := (-1)) hx hb hr hlocks hQ hW (show (-2147483648) ≤ ((-1)) ∧ ((-1)) ≤ 2147483647 by omega) dX10_curve_46
    · exfalso; omega

abbrev M_X10_findAboves : List (Nat × Nat) := [(38, 0), (39, 0), (40, 0), (41, 0), (42, 0), (43, 0), (44, 0), (48, 0), (50, 26), (50, 29), (50, 30), (50, 31), (50, 37), (50, 38), (50, 39), (50, 40), (50, 41), (50, 42)]
set_option maxHeartbeats 4000000 in
set_option maxRecDepth 100000 in
theorem c_X10_findAboves (l : Launch) (g : tf_G) (T : tf_T) (a0 : Nat) (ha0 : T a0 = some (50, 0)) : Met l yX10_findAboves (cd_X10_findAboves :: wsL_law) ({ frames := 7, cells := 0, slots := 0, locals := 180 }) (tf_P g T [.ref a0] (fun H => True)) (tf_Qv g M_X10_findAboves T (fun _ H => True)) 0 0 (fun q => tf_B g ≤ q) := by
  refine Met.ofW (cc := cX10_findAboves) (maxL := 3) (ret := none) (by decide) rfl ?_
  intro p e s m args below meth c s₁ B hml hv
  obtain ⟨hargs, hk, hW0, hB, hpre⟩ := hv
  have hx := B.exec
  have hb := B.bytes
  have hr := B.returns
  have hts : ∀ w ∈ wsL_law, w.before args s = true := fun w h => atoms_spec (ws := cd_X10_findAboves :: wsL_law) B.pre w (List.mem_cons_of_mem _ h)
  have hown : s.vm.findClass RX10 = some m.cls := findClass_of_methodNamed B.named
  have hlocks := B.notSynchronized
  have hK := hk.1
  have hW := tf_n.start (M := M_X10_findAboves) hW0 hB
  obtain ⟨Q, hQ⟩ : ∃ q, q = MQ below (tf_Qv g M_X10_findAboves T (fun _ H => True)) args s 0 0 (fun q => tf_B g ≤ q) := ⟨_, rfl⟩
  rw [← hQ]
  obtain ⟨R, hR⟩ : ∃ q, q = (headSpec (cd_X10_findAboves :: wsL_law) ({ frames := 7, cells := 0, slots := 0, locals := 180 })).room := ⟨_, rfl⟩
  rw [← hR]
  have hR1 : 7 ≤ R.frames := by rw [hR]; exact Nat.le_refl _
  have hR2 : 180 ≤ R.locals := by rw [hR]; exact Nat.le_refl _
  have hR3 : 0 ≤ R.cells := by rw [hR]; exact Nat.le_refl _
  have hR4 : 0 ≤ R.slots := by rw [hR]; exact Nat.le_refl _
  have hin := (name_of_methodNamed B.named B.method).1
  clear hR B
  have j_6 : ∀ (n_6 : Nat), ∀ (x1_6 : Int), 0 ≤ x1_6 ∧ x1_6 ≤ 3 → (3 - x1_6 + 1 ≤ (n_6 : Int)) → ∀ (H : Heap) (locs : List Loc), tf_n tf_kt g M_X10_findAboves T s.heap T H locs → ∀ (ls : Array Slot), lv_has ls 3 [(0, .ref a0), (1, .int (Int32.ofInt x1_6))] → W p l e R s m args below meth c H locs 0 0 Q (F0 m 6 ls []) := by
    intro n_6
    induction n_6 with
    | zero =>
      intro x1_6 hx1_6 hm_6
      exfalso; omega
    | succ n_6 ih_6 =>
      intro x1_6 hx1_6 hm_6 H locs hW  ls hl
      have j_13 : ∀ (n_13 : Nat), 0 ≤ x1_6 ∧ x1_6 ≤ 2 → ∀ (x2_13 : Int), 0 ≤ x2_13 ∧ x2_13 ≤ 100 → (100 - x2_13 + 1 ≤ (n_13 : Int)) → ∀ (H : Heap) (locs : List Loc), tf_n tf_kt g M_X10_findAboves T s.heap T H locs → ∀ (ls : Array Slot), lv_has ls 3 [(0, .ref a0), (1, .int (Int32.ofInt x1_6)), (2, .int (Int32.ofInt x2_13))] → W p l e R s m args below meth c H locs 0 0 Q (F0 m 13 ls []) := by
        intro n_13
        induction n_13 with
        | zero =>
          intro hx1_13 x2_13 hx2_13 hm_13
          exfalso; omega
        | succ n_13 ih_13 =>
          intro hx1_13 x2_13 hx2_13 hm_13 H locs hW  ls hl
          have j_55 : 0 ≤ x1_6 ∧ x1_6 ≤ 2 → 0 ≤ x2_13 ∧ x2_13 ≤ 99 → ∀ (b0_55 : Nat), T b0_55 = some (48, 300) → ∀ (y1_55 : Int), 0 ≤ y1_55 ∧ y1_55 ≤ 299 → ∀ (y2_55 : Int), 0 ≤ y2_55 ∧ y2_55 ≤ 39960 → ∀ (H : Heap) (locs : List Loc), tf_n tf_kt g M_X10_findAboves T s.heap T H locs → ∀ (ls : Array Slot), lv_has ls 3 [(0, .ref a0), (1, .int (Int32.ofInt x1_6)), (2, .int (Int32.ofInt x2_13))] → W p l e R s m args below meth c H locs 0 0 Q (F0 m 55 ls [.int (Int32.ofInt y2_55), .int (Int32.ofInt y1_55), .ref b0_55]) := by
            intro hx1_55 hx2_55 b0_55 hb0_55 y1_55 hy1_55 y2_55 hy2_55 H locs hW  ls hl
            refine tf_iast (t0 := 0) hx hb hK hW hb0_55 rfl rfl (by omega) (by omega) (by decide) (tf_u0 (by omega) (by omega)) dX10_findAboves_55 (fun H1 locs1 hW hs1 ht1 hq1 => ?_)
            refine lv_iinc (v := Int32.ofInt ((x2_13 + 1))) (lv' := [(2, .int (Int32.ofInt ((x2_13 + 1)))), (0, .ref a0), (1, .int (Int32.ofInt x1_6))]) hx hb dX10_findAboves_56 hl (k := 2) rfl (Int32.ofInt_add _ _).symm (by decide) rfl (fun ls hl => ?_)
            refine lv_goto (tgt := 13) hx hb dX10_findAboves_59 (by decide) ?_
            exact ih_13 ⟨by omega, by omega⟩ ((x2_13 + 1)) ⟨by omega, by omega⟩ (by omega) _ _ hW  _ (lv_sub hl [1, 2, 0] rfl)
          refine lv_iload_n hx hb dX10_findAboves_13 rfl (lv_at hl 2 rfl) ?_
          refine tf_bipush hx hb dX10_findAboves_14 (by decide) ?_
          refine tf_icmp_ge (tgt := 62) hx hb ⟨by omega, by omega⟩ ⟨by decide, by decide⟩ dX10_findAboves_16 (by decide) (fun h2 => ?_) (fun h2 => ?_)
          · refine lv_iinc (v := Int32.ofInt ((x1_6 + 1))) (lv' := [(1, .int (Int32.ofInt ((x1_6 + 1)))), (0, .ref a0), (2, .int (Int32.ofInt x2_13))]) hx hb dX10_findAboves_62 hl (k := 1) rfl (Int32.ofInt_add _ _).symm (by decide) rfl (fun ls hl => ?_)
            refine lv_goto (tgt := 6) hx hb dX10_findAboves_65 (by decide) ?_
            exact ih_6 ((x1_6 + 1)) ⟨by omega, by omega⟩ (by omega) _ _ hW  _ (lv_sub hl [1, 0] rfl)
          · refine lv_aload_n hx hb dX10_findAboves_19 rfl (lv_at hl 0 rfl) ?_
            refine tf_get hx hb hts inlX10 hown hK (ci := 10) rfl hW ha0 rfl 46 rfl (by decide) (hts _ fl_X10_97) dX10_findAboves_20 (fun v3 hv3 hsv3 => ?_)
            obtain ⟨ad4, rfl, had4⟩ := tf_v1 hv3
            refine tf_bipush hx hb dX10_findAboves_23 (by decide) ?_
            refine lv_iload_n hx hb dX10_findAboves_25 rfl (lv_at hl 1 rfl) ?_
            refine tf_imul hx hb dX10_findAboves_26 ?_
            refine lv_iload_n hx hb dX10_findAboves_27 rfl (lv_at hl 2 rfl) ?_
            refine tf_iadd hx hb dX10_findAboves_28 ?_
            refine lv_aload_n hx hb dX10_findAboves_29 rfl (lv_at hl 0 rfl) ?_
            refine tf_get hx hb hts inlX10 hown hK (ci := 10) rfl hW ha0 rfl 32 rfl (by decide) (hts _ fl_X10_73) dX10_findAboves_30 (fun v5 hv5 hsv5 => ?_)
            obtain ⟨ad6, rfl, had6⟩ := tf_v1 hv5
            refine lv_iload_n hx hb dX10_findAboves_33 rfl (lv_at hl 2 rfl) ?_
            refine tf_iald (t0 := 0) hx hb hK hW had6 rfl rfl (by omega) (by omega) dX10_findAboves_34 (fun v7 hv7 hsv7 => ?_)
            obtain ⟨z8, rfl, hz8⟩ := tf_v0 hv7
            refine tf_iconst hx hb dX10_findAboves_35 ?_
            refine tf_icmp_ne (tgt := 54) hx hb ⟨by omega, by omega⟩ ⟨by decide, by decide⟩ dX10_findAboves_36 (by decide) (fun h9 => ?_) (fun h9 => ?_)
            · refine tf_iconst hx hb dX10_findAboves_54 ?_
              exact j_55 ⟨by omega, by omega⟩ ⟨by omega, by omega⟩ ad4 had4 (((100 * x1_6) + x2_13)) ⟨by omega, by omega⟩ (0) ⟨by omega, by omega⟩ _ _ hW  _ (lv_sub hl [0, 1, 2] rfl)
            · refine lv_aload_n hx hb dX10_findAboves_39 rfl (lv_at hl 0 rfl) ?_
              refine lv_iload_n hx hb dX10_findAboves_40 rfl (lv_at hl 2 rfl) ?_
              refine lv_aload_n hx hb dX10_findAboves_41 rfl (lv_at hl 0 rfl) ?_
              refine lv_iload_n hx hb dX10_findAboves_42 rfl (lv_at hl 1 rfl) ?_
              refine tf_iconst hx hb dX10_findAboves_43 ?_
              refine tf_iadd hx hb dX10_findAboves_44 ?_
              refine tf_calli (va_runV (As := [.int (Int32.ofInt ((x1_6 + 1)))]) (rest := [.int (Int32.ofInt x2_13), .ref a0, .int (Int32.ofInt (((100 * x1_6) + x2_13))), .ref ad4]) ⟨hx, hb, hml, hown, hts⟩ (c_X10_paceOf l g T a0 ha0 ((x1_6 + 1)) ⟨by omega, by omega⟩) (cwV 1 hts gv_X10_413 rfl rfl rfl hd_X10_paceOf ⟨Nat.le_trans (by decide) hR1, Nat.le_trans (by decide) hR2⟩) (tf_preV hk hW ha0 (ci := 10) rfl rfl trivial) rfl rfl hl.1 rfl (lv_room (Nat.le_of_ble_eq_true rfl)) dX10_findAboves_45 ⟨Nat.zero_le _, Nat.zero_le _⟩) hW (by decide) (fun z10 H10 locs10 hW hF10 hp10 => ?_)
              obtain ⟨hp10_0, hp10_1⟩ := hp10
              refine tf_calli (va_runV (As := [.int (Int32.ofInt x2_13), .int (Int32.ofInt z10)]) (rest := [.int (Int32.ofInt (((100 * x1_6) + x2_13))), .ref ad4]) ⟨hx, hb, hml, hown, hts⟩ (c_X10_hoursAbove l g T a0 ha0 (x2_13) ⟨by omega, by omega⟩ (z10) ⟨by omega, by omega⟩) (cwV 2 hts gv_X10_416 rfl rfl rfl hd_X10_hoursAbove ⟨Nat.le_trans (by decide) hR1, Nat.le_trans (by decide) hR2⟩) (tf_preV hk hW ha0 (ci := 10) rfl rfl trivial) rfl rfl hl.1 rfl (lv_room (Nat.le_of_ble_eq_true rfl)) dX10_findAboves_48 ⟨Nat.zero_le _, Nat.zero_le _⟩) hW (by decide) (fun z11 H11 locs11 hW hF11 hp11 => ?_)
              obtain ⟨hp11_0, hp11_1⟩ := hp11
              refine lv_goto (tgt := 55) hx hb dX10_findAboves_51 (by decide) ?_
              exact j_55 ⟨by omega, by omega⟩ ⟨by omega, by omega⟩ ad4 had4 (((100 * x1_6) + x2_13)) ⟨by omega, by omega⟩ (z11) ⟨by omega, by omega⟩ _ _ hW  _ (lv_sub hl [0, 1, 2] rfl)
      refine lv_iload_n hx hb dX10_findAboves_6 rfl (lv_at hl 1 rfl) ?_
      refine tf_iconst hx hb dX10_findAboves_7 ?_
      refine tf_icmp_ge (tgt := 68) hx hb ⟨by omega, by omega⟩ ⟨by decide, by decide⟩ dX10_findAboves_8 (by decide) (fun h12 => ?_) (fun h12 => ?_)
      · exact tf_retv hx hb hr hlocks hQ hW trivial dX10_findAboves_68
      · refine tf_iconst hx hb dX10_findAboves_11 ?_
        refine lv_istore_n (lv' := [(2, .int (Int32.ofInt 0)), (0, .ref a0), (1, .int (Int32.ofInt x1_6))]) hx hb dX10_findAboves_12 rfl hl (by decide) rfl (fun ls hl => ?_)
        exact j_13 ((100 - 0 + 1 : Int)).toNat ⟨by omega, by omega⟩ (0) ⟨by omega, by omega⟩ (by omega) _ _ hW  _ (lv_sub hl [1, 2, 0] rfl)
  refine tf_enter (As := [.ref a0]) hargs (Nat.le_of_ble_eq_true rfl) (fun ls hl => ?_)
  have hl : lv_has ls 3 [(0, .ref a0)] := hl
  refine lv_aload_n hx hb dX10_findAboves_0 rfl (lv_at hl 0 rfl) ?_
  refine tf_callv (va_runV (As := []) (rest := []) ⟨hx, hb, hml, hown, hts⟩ (c_X10_layAll l g T a0 ha0) (cwV 0 hts gv_X10_405 rfl rfl rfl hd_X10_layAll ⟨Nat.le_trans (by decide) hR1, Nat.le_trans (by decide) hR2⟩) (tf_preV hk hW ha0 (ci := 10) rfl rfl trivial) rfl rfl hl.1 rfl (lv_room (Nat.le_of_ble_eq_true rfl)) dX10_findAboves_1 ⟨Nat.zero_le _, Nat.zero_le _⟩) hW (by decide) (fun H13 locs13 hW hF13 hp13 => ?_)
  refine tf_iconst hx hb dX10_findAboves_4 ?_
  refine lv_istore_n (lv' := [(1, .int (Int32.ofInt 0)), (0, .ref a0)]) hx hb dX10_findAboves_5 rfl hl (by decide) rfl (fun ls hl => ?_)
  exact j_6 ((3 - 0 + 1 : Int)).toNat (0) ⟨by omega, by omega⟩ (by omega) _ _ hW  _ (lv_sub hl [1, 0] rfl)

abbrev M_X10_blown : List (Nat × Nat) := [(38, 0), (39, 0), (50, 26), (50, 29), (50, 30), (50, 31), (50, 37), (50, 38), (50, 39), (50, 40), (50, 41), (50, 42)]
set_option maxHeartbeats 4000000 in
set_option maxRecDepth 100000 in
theorem c_X10_blown (l : Launch) (g : tf_G) (T : tf_T) (a0 : Nat) (ha0 : T a0 = some (50, 0)) (x1 : Int) (hp1 : 0 ≤ x1 ∧ x1 ≤ 99) (x2 : Int) (hp2 : (-2147483648) ≤ x2 ∧ x2 ≤ 2147483647) (x3 : Int) (hp3 : (-2147483648) ≤ x3 ∧ x3 ≤ 2147483647) : Met l yX10_blown (cd_X10_blown :: wsL_law) ({ frames := 6, cells := 0, slots := 0, locals := 154 }) (tf_P g T [.ref a0, .int (Int32.ofInt x1), .int (Int32.ofInt x2), .int (Int32.ofInt x3)] (fun H => True)) (tf_Qi g M_X10_blown T (fun z _ _ => (-2147483648) ≤ z ∧ z ≤ 2147483647)) 0 0 (fun q => tf_B g ≤ q) := by
  refine Met.ofW (cc := cX10_blown) (maxL := 6) (ret := (some .int)) (by decide) rfl ?_
  intro p e s m args below meth c s₁ B hml hv
  obtain ⟨hargs, hk, hW0, hB, hpre⟩ := hv
  have hx := B.exec
  have hb := B.bytes
  have hr := B.returns
  have hts : ∀ w ∈ wsL_law, w.before args s = true := fun w h => atoms_spec (ws := cd_X10_blown :: wsL_law) B.pre w (List.mem_cons_of_mem _ h)
  have hown : s.vm.findClass RX10 = some m.cls := findClass_of_methodNamed B.named
  have hlocks := B.notSynchronized
  have hK := hk.1
  have hW := tf_n.start (M := M_X10_blown) hW0 hB
  obtain ⟨Q, hQ⟩ : ∃ q, q = MQ below (tf_Qi g M_X10_blown T (fun z _ _ => (-2147483648) ≤ z ∧ z ≤ 2147483647)) args s 0 0 (fun q => tf_B g ≤ q) := ⟨_, rfl⟩
  rw [← hQ]
  obtain ⟨R, hR⟩ : ∃ q, q = (headSpec (cd_X10_blown :: wsL_law) ({ frames := 6, cells := 0, slots := 0, locals := 154 })).room := ⟨_, rfl⟩
  rw [← hR]
  have hR1 : 6 ≤ R.frames := by rw [hR]; exact Nat.le_refl _
  have hR2 : 154 ≤ R.locals := by rw [hR]; exact Nat.le_refl _
  have hR3 : 0 ≤ R.cells := by rw [hR]; exact Nat.le_refl _
  have hR4 : 0 ≤ R.slots := by rw [hR]; exact Nat.le_refl _
  have hin := (name_of_methodNamed B.named B.method).1
  clear hR B
  have j_11 : ∀ (n_11 : Nat), (-2147483648) ≤ x3 ∧ x3 ≤ 2147483647 → ∀ (x4_11 : Int), (-2147483648) ≤ x4_11 ∧ x4_11 ≤ 2147483647 → ∀ (x5_11 : Int), 0 ≤ x5_11 ∧ x5_11 ≤ 10 → (10 - x5_11 + 1 ≤ (n_11 : Int)) → ∀ (H : Heap) (locs : List Loc), tf_n tf_kt g M_X10_blown T s.heap T H locs → ∀ (ls : Array Slot), lv_has ls 6 [(3, .int (Int32.ofInt x3)), (4, .int (Int32.ofInt x4_11)), (5, .int (Int32.ofInt x5_11))] → W p l e R s m args below meth c H locs 0 0 Q (F0 m 11 ls []) := by
    intro n_11
    induction n_11 with
    | zero =>
      intro hx3_11 x4_11 hx4_11 x5_11 hx5_11 hm_11
      exfalso; omega
    | succ n_11 ih_11 =>
      intro hx3_11 x4_11 hx4_11 x5_11 hx5_11 hm_11 H locs hW  ls hl
      refine lv_iload hx hb dX10_blown_11 (lv_at hl 2 rfl) ?_
      refine tf_bipush hx hb dX10_blown_13 (by decide) ?_
      refine tf_icmp_ge (tgt := 39) hx hb ⟨by omega, by omega⟩ ⟨by decide, by decide⟩ dX10_blown_15 (by decide) (fun h1 => ?_) (fun h1 => ?_)
      · refine tf_iconst hx hb dX10_blown_39 ?_
        exact tf_reti (z := (-1)) hx hb hr hlocks hQ hW (show (-2147483648) ≤ ((-1)) ∧ ((-1)) ≤ 2147483647 by omega) dX10_blown_40
      · refine lv_iload hx hb dX10_blown_18 (lv_at hl 2 rfl) ?_
        refine lv_iload hx hb dX10_blown_20 (lv_at hl 1 rfl) ?_
        refine tf_imul_any hx hb dX10_blown_22 (fun z2 hz2 => ?_)
        refine tf_bipush hx hb dX10_blown_23 (by decide) ?_
        refine lv_iload_n hx hb dX10_blown_25 rfl (lv_at hl 0 rfl) ?_
        refine tf_imul_any hx hb dX10_blown_26 (fun z3 hz3 => ?_)
        refine tf_icmp_le (tgt := 33) hx hb ⟨by omega, by omega⟩ ⟨by omega, by omega⟩ dX10_blown_27 (by decide) (fun h4 => ?_) (fun h4 => ?_)
        · refine lv_iinc (v := Int32.ofInt ((x5_11 + 1))) (lv' := [(5, .int (Int32.ofInt ((x5_11 + 1)))), (3, .int (Int32.ofInt x3)), (4, .int (Int32.ofInt x4_11))]) hx hb dX10_blown_33 hl (k := 2) rfl (Int32.ofInt_add _ _).symm (by decide) rfl (fun ls hl => ?_)
          refine lv_goto (tgt := 11) hx hb dX10_blown_36 (by decide) ?_
          exact ih_11 ⟨by omega, by omega⟩ (x4_11) ⟨by omega, by omega⟩ ((x5_11 + 1)) ⟨by omega, by omega⟩ (by omega) _ _ hW  _ (lv_sub hl [1, 2, 0] rfl)
        · refine lv_iload hx hb dX10_blown_30 (lv_at hl 2 rfl) ?_
          exact tf_reti (z := x5_11) hx hb hr hlocks hQ hW (show (-2147483648) ≤ (x5_11) ∧ (x5_11) ≤ 2147483647 by omega) dX10_blown_32
  refine tf_enter (As := [.ref a0, .int (Int32.ofInt x1), .int (Int32.ofInt x2), .int (Int32.ofInt x3)]) hargs (Nat.le_of_ble_eq_true rfl) (fun ls hl => ?_)
  have hl : lv_has ls 6 [(0, .ref a0), (1, .int (Int32.ofInt x1)), (2, .int (Int32.ofInt x2)), (3, .int (Int32.ofInt x3))] := hl
  refine lv_aload_n hx hb dX10_blown_0 rfl (lv_at hl 0 rfl) ?_
  refine lv_iload_n hx hb dX10_blown_1 rfl (lv_at hl 1 rfl) ?_
  refine lv_iload_n hx hb dX10_blown_2 rfl (lv_at hl 2 rfl) ?_
  refine tf_calli (va_runV (As := [.int (Int32.ofInt x1), .int (Int32.ofInt x2)]) (rest := []) ⟨hx, hb, hml, hown, hts⟩ (c_X10_quickIn l g T a0 ha0 (x1) ⟨by omega, by omega⟩ (x2) ⟨by omega, by omega⟩) (cwV 2 hts gv_X10_408 rfl rfl rfl hd_X10_quickIn ⟨Nat.le_trans (by decide) hR1, Nat.le_trans (by decide) hR2⟩) (tf_preV hk hW ha0 (ci := 10) rfl rfl trivial) rfl rfl hl.1 rfl (lv_room (Nat.le_of_ble_eq_true rfl)) dX10_blown_3 ⟨Nat.zero_le _, Nat.zero_le _⟩) hW (by decide) (fun z5 H5 locs5 hW hF5 hp5 => ?_)
  obtain ⟨hp5_0, hp5_1⟩ := hp5
  refine lv_istore (lv' := [(4, .int (Int32.ofInt z5)), (0, .ref a0), (1, .int (Int32.ofInt x1)), (2, .int (Int32.ofInt x2)), (3, .int (Int32.ofInt x3))]) hx hb dX10_blown_6 hl (by decide) rfl (fun ls hl => ?_)
  refine tf_iconst hx hb dX10_blown_8 ?_
  refine lv_istore (lv' := [(5, .int (Int32.ofInt 0)), (4, .int (Int32.ofInt z5)), (0, .ref a0), (1, .int (Int32.ofInt x1)), (2, .int (Int32.ofInt x2)), (3, .int (Int32.ofInt x3))]) hx hb dX10_blown_9 hl (by decide) rfl (fun ls hl => ?_)
  exact j_11 ((10 - 0 + 1 : Int)).toNat ⟨by omega, by omega⟩ (z5) ⟨by omega, by omega⟩ (0) ⟨by omega, by omega⟩ (by omega) _ _ hW  _ (lv_sub hl [5, 1, 0] rfl)

abbrev M_X10_salt : List (Nat × Nat) := [(38, 0), (39, 0), (40, 0), (41, 0), (42, 0), (43, 0), (44, 0), (50, 0), (50, 26), (50, 29), (50, 30), (50, 31), (50, 37), (50, 38), (50, 39), (50, 40), (50, 41), (50, 42)]
set_option maxHeartbeats 4000000 in
set_option maxRecDepth 100000 in
theorem c_X10_salt (l : Launch) (g : tf_G) (T : tf_T) (a0 : Nat) (ha0 : T a0 = some (50, 0)) (x1 : Int) (hp1 : (-2147483648) ≤ x1 ∧ x1 ≤ 2147483647) (x2 : Int) (hp2 : (-2147483648) ≤ x2 ∧ x2 ≤ 2147483647) (x3 : Int) (hp3 : (-2147483648) ≤ x3 ∧ x3 ≤ 2147483647) : Met l yX10_salt (cd_X10_salt :: wsL_law) ({ frames := 7, cells := 0, slots := 0, locals := 179 }) (tf_P g T [.ref a0, .int (Int32.ofInt x1), .int (Int32.ofInt x2), .int (Int32.ofInt x3)] (fun H => True)) (tf_Qi g M_X10_salt T (fun z _ _ => (-2147483648) ≤ z ∧ z ≤ 2147483647)) 0 0 (fun q => tf_B g ≤ q) := by
  refine Met.ofW (cc := cX10_salt) (maxL := 6) (ret := (some .int)) (by decide) rfl ?_
  intro p e s m args below meth c s₁ B hml hv
  obtain ⟨hargs, hk, hW0, hB, hpre⟩ := hv
  have hx := B.exec
  have hb := B.bytes
  have hr := B.returns
  have hts : ∀ w ∈ wsL_law, w.before args s = true := fun w h => atoms_spec (ws := cd_X10_salt :: wsL_law) B.pre w (List.mem_cons_of_mem _ h)
  have hown : s.vm.findClass RX10 = some m.cls := findClass_of_methodNamed B.named
  have hlocks := B.notSynchronized
  have hK := hk.1
  have hW := tf_n.start (M := M_X10_salt) hW0 hB
  obtain ⟨Q, hQ⟩ : ∃ q, q = MQ below (tf_Qi g M_X10_salt T (fun z _ _ => (-2147483648) ≤ z ∧ z ≤ 2147483647)) args s 0 0 (fun q => tf_B g ≤ q) := ⟨_, rfl⟩
  rw [← hQ]
  obtain ⟨R, hR⟩ : ∃ q, q = (headSpec (cd_X10_salt :: wsL_law) ({ frames := 7, cells := 0, slots := 0, locals := 179 })).room := ⟨_, rfl⟩
  rw [← hR]
  have hR1 : 7 ≤ R.frames := by rw [hR]; exact Nat.le_refl _
  have hR2 : 179 ≤ R.locals := by rw [hR]; exact Nat.le_refl _
  have hR3 : 0 ≤ R.cells := by rw [hR]; exact Nat.le_refl _
  have hR4 : 0 ≤ R.slots := by rw [hR]; exact Nat.le_refl _
  have hin := (name_of_methodNamed B.named B.method).1
  clear hR B
  have j_62 : ∀ (n_62 : Nat), 0 ≤ x2 ∧ x2 ≤ 3 → 0 ≤ x3 ∧ x3 ≤ 9999 → ∀ (x4_62 : Int), (-2147483648) ≤ x4_62 ∧ x4_62 ≤ 2147483647 → ∀ (x5_62 : Int), 0 ≤ x5_62 ∧ x5_62 ≤ 100 → (100 - x5_62 + 1 ≤ (n_62 : Int)) → ∀ (H : Heap) (locs : List Loc), tf_n tf_kt g M_X10_salt T s.heap T H locs → ∀ (ls : Array Slot), lv_has ls 6 [(0, .ref a0), (2, .int (Int32.ofInt x2)), (3, .int (Int32.ofInt x3)), (4, .int (Int32.ofInt x4_62)), (5, .int (Int32.ofInt x5_62))] → W p l e R s m args below meth c H locs 0 0 Q (F0 m 62 ls []) := by
    intro n_62
    induction n_62 with
    | zero =>
      intro hx2_62 hx3_62 x4_62 hx4_62 x5_62 hx5_62 hm_62
      exfalso; omega
    | succ n_62 ih_62 =>
      intro hx2_62 hx3_62 x4_62 hx4_62 x5_62 hx5_62 hm_62 H locs hW  ls hl
      have j_99 : 0 ≤ x2 ∧ x2 ≤ 3 → 0 ≤ x3 ∧ x3 ≤ 9999 → 0 ≤ x5_62 ∧ x5_62 ≤ 99 → (-2147483648) ≤ x4_62 ∧ x4_62 ≤ 2147483647 → ∀ (y1_99 : Int), 0 ≤ y1_99 ∧ y1_99 ≤ 1 → ∀ (H : Heap) (locs : List Loc), tf_n tf_kt g M_X10_salt T s.heap T H locs → ∀ (ls : Array Slot), lv_has ls 6 [(0, .ref a0), (2, .int (Int32.ofInt x2)), (3, .int (Int32.ofInt x3)), (5, .int (Int32.ofInt x5_62))] → W p l e R s m args below meth c H locs 0 0 Q (F0 m 99 ls [.int (Int32.ofInt y1_99), .int (Int32.ofInt x4_62)]) := by
        intro hx2_99 hx3_99 hx5_99 hy0_99 y1_99 hy1_99 H locs hW  ls hl
        refine tf_iadd_any hx hb dX10_salt_99 (fun z1 hz1 => ?_)
        refine lv_istore (lv' := [(4, .int (Int32.ofInt z1)), (0, .ref a0), (2, .int (Int32.ofInt x2)), (3, .int (Int32.ofInt x3)), (5, .int (Int32.ofInt x5_62))]) hx hb dX10_salt_100 hl (by decide) rfl (fun ls hl => ?_)
        refine lv_iinc (v := Int32.ofInt ((x5_62 + 1))) (lv' := [(5, .int (Int32.ofInt ((x5_62 + 1)))), (4, .int (Int32.ofInt z1)), (0, .ref a0), (2, .int (Int32.ofInt x2)), (3, .int (Int32.ofInt x3))]) hx hb dX10_salt_102 hl (k := 4) rfl (Int32.ofInt_add _ _).symm (by decide) rfl (fun ls hl => ?_)
        refine lv_goto (tgt := 62) hx hb dX10_salt_105 (by decide) ?_
        exact ih_62 ⟨by omega, by omega⟩ ⟨by omega, by omega⟩ (z1) ⟨by omega, by omega⟩ ((x5_62 + 1)) ⟨by omega, by omega⟩ (by omega) _ _ hW  _ (lv_sub hl [2, 3, 4, 1, 0] rfl)
      have j_98 : 0 ≤ x2 ∧ x2 ≤ 3 → 0 ≤ x3 ∧ x3 ≤ 9999 → 0 ≤ x5_62 ∧ x5_62 ≤ 99 → (-2147483648) ≤ x4_62 ∧ x4_62 ≤ 2147483647 → ∀ (H : Heap) (locs : List Loc), tf_n tf_kt g M_X10_salt T s.heap T H locs → ∀ (ls : Array Slot), lv_has ls 6 [(0, .ref a0), (2, .int (Int32.ofInt x2)), (3, .int (Int32.ofInt x3)), (5, .int (Int32.ofInt x5_62))] → W p l e R s m args below meth c H locs 0 0 Q (F0 m 98 ls [.int (Int32.ofInt x4_62)]) := by
        intro hx2_98 hx3_98 hx5_98 hy0_98 H locs hW  ls hl
        refine tf_iconst hx hb dX10_salt_98 ?_
        exact j_99 ⟨by omega, by omega⟩ ⟨by omega, by omega⟩ ⟨by omega, by omega⟩ ⟨by omega, by omega⟩ (0) ⟨by omega, by omega⟩ _ _ hW  _ (lv_sub hl [0, 1, 2, 3] rfl)
      refine lv_iload hx hb dX10_salt_62 (lv_at hl 4 rfl) ?_
      refine tf_bipush hx hb dX10_salt_64 (by decide) ?_
      refine tf_icmp_ge (tgt := 108) hx hb ⟨by omega, by omega⟩ ⟨by decide, by decide⟩ dX10_salt_66 (by decide) (fun h2 => ?_) (fun h2 => ?_)
      · refine lv_iload hx hb dX10_salt_108 (lv_at hl 3 rfl) ?_
        exact tf_reti (z := x4_62) hx hb hr hlocks hQ hW (show (-2147483648) ≤ (x4_62) ∧ (x4_62) ≤ 2147483647 by omega) dX10_salt_110
      · refine lv_iload hx hb dX10_salt_69 (lv_at hl 3 rfl) ?_
        refine lv_aload_n hx hb dX10_salt_71 rfl (lv_at hl 0 rfl) ?_
        refine tf_get hx hb hts inlX10 hown hK (ci := 10) rfl hW ha0 rfl 32 rfl (by decide) (hts _ fl_X10_73) dX10_salt_72 (fun v3 hv3 hsv3 => ?_)
        obtain ⟨ad4, rfl, had4⟩ := tf_v1 hv3
        refine lv_iload hx hb dX10_salt_75 (lv_at hl 4 rfl) ?_
        refine tf_iald (t0 := 0) hx hb hK hW had4 rfl rfl (by omega) (by omega) dX10_salt_77 (fun v5 hv5 hsv5 => ?_)
        obtain ⟨z6, rfl, hz6⟩ := tf_v0 hv5
        refine tf_iconst hx hb dX10_salt_78 ?_
        refine tf_icmp_ne (tgt := 98) hx hb ⟨by omega, by omega⟩ ⟨by decide, by decide⟩ dX10_salt_79 (by decide) (fun h7 => ?_) (fun h7 => ?_)
        · exact j_98 ⟨by omega, by omega⟩ ⟨by omega, by omega⟩ ⟨by omega, by omega⟩ ⟨by omega, by omega⟩ _ _ hW  _ (lv_sub hl [0, 1, 2, 4] rfl)
        · refine lv_aload_n hx hb dX10_salt_82 rfl (lv_at hl 0 rfl) ?_
          refine lv_iload hx hb dX10_salt_83 (lv_at hl 4 rfl) ?_
          refine lv_iload_n hx hb dX10_salt_85 rfl (lv_at hl 1 rfl) ?_
          refine lv_iload_n hx hb dX10_salt_86 rfl (lv_at hl 2 rfl) ?_
          refine tf_calli (va_runV (As := [.int (Int32.ofInt x5_62), .int (Int32.ofInt x2), .int (Int32.ofInt x3)]) (rest := [.int (Int32.ofInt x4_62)]) ⟨hx, hb, hml, hown, hts⟩ (c_X10_blown l g T a0 ha0 (x5_62) ⟨by omega, by omega⟩ (x2) ⟨by omega, by omega⟩ (x3) ⟨by omega, by omega⟩) (cwV 3 hts gv_X10_467 rfl rfl rfl hd_X10_blown ⟨Nat.le_trans (by decide) hR1, Nat.le_trans (by decide) hR2⟩) (tf_preV hk hW ha0 (ci := 10) rfl rfl trivial) rfl rfl hl.1 rfl (lv_room (Nat.le_of_ble_eq_true rfl)) dX10_salt_87 ⟨Nat.zero_le _, Nat.zero_le _⟩) hW (by decide) (fun z8 H8 locs8 hW hF8 hp8 => ?_)
          obtain ⟨hp8_0, hp8_1⟩ := hp8
          refine tf_iconst hx hb dX10_salt_90 ?_
          refine tf_icmp_eq (tgt := 98) hx hb ⟨by omega, by omega⟩ ⟨by decide, by decide⟩ dX10_salt_91 (by decide) (fun h9 => ?_) (fun h9 => ?_)
          · exact j_98 ⟨by omega, by omega⟩ ⟨by omega, by omega⟩ ⟨by omega, by omega⟩ ⟨by omega, by omega⟩ _ _ hW  _ (lv_sub hl [0, 1, 2, 4] rfl)
          · refine tf_iconst hx hb dX10_salt_94 ?_
            refine lv_goto (tgt := 99) hx hb dX10_salt_95 (by decide) ?_
            exact j_99 ⟨by omega, by omega⟩ ⟨by omega, by omega⟩ ⟨by omega, by omega⟩ ⟨by omega, by omega⟩ (1) ⟨by omega, by omega⟩ _ _ hW  _ (lv_sub hl [0, 1, 2, 4] rfl)
  have j_18 : (-1) ≤ x1 ∧ x1 ≤ 99 → (-2147483648) ≤ x2 ∧ x2 ≤ 2147483647 → (-2147483648) ≤ x3 ∧ x3 ≤ 2147483647 → ∀ (H : Heap) (locs : List Loc), tf_n tf_kt g M_X10_salt T s.heap T H locs → ∀ (ls : Array Slot), lv_has ls 6 [(0, .ref a0), (1, .int (Int32.ofInt x1)), (2, .int (Int32.ofInt x2)), (3, .int (Int32.ofInt x3))] → W p l e R s m args below meth c H locs 0 0 Q (F0 m 18 ls []) := by
    intro hx1_18 hx2_18 hx3_18 H locs hW  ls hl
    refine lv_iload_n hx hb dX10_salt_18 rfl (lv_at hl 2 rfl) ?_
    refine tf_calli (va_runS (As := [.int (Int32.ofInt x2)]) (rest := []) ⟨hx, hb, hml, hown, hts⟩ (c_X10_isWay l g T (x2) ⟨by omega, by omega⟩) ⟨callB_of 1 hts (gw_ws cm_X10_isWay) rfl rfl rfl (hts _ (tw1 (i := 5) rfl)) (hts _ (tw17 (i := 8) rfl)) hd_X10_isWay.2 ⟨Nat.le_trans (by decide) hR1, Nat.le_trans (by decide) hR2⟩, hts _ (tw17 (i := 9) rfl)⟩ (tf_preS hk hW trivial) rfl rfl hl.1 rfl (lv_room (Nat.le_of_ble_eq_true rfl)) dX10_salt_19 ⟨Nat.zero_le _, Nat.zero_le _⟩) hW (by decide) (fun z10 H10 locs10 hW hF10 hp10 => ?_)
    rcases hp10 with ⟨rfl, h11, h12⟩ | ⟨rfl, h13⟩
    · refine tf_if_eq (tgt := 37) hx hb ⟨by decide, by decide⟩ dX10_salt_22 (by decide) (fun h14 => ?_) (fun h14 => ?_)
      · exfalso; omega
      · refine lv_iload_n hx hb dX10_salt_25 rfl (lv_at hl 3 rfl) ?_
        refine tf_i2l hx hb ⟨by omega, by omega⟩ dX10_salt_26 ?_
        refine tf_lconst (z := 0) hx hb dX10_salt_27 (by decide) ?_
        refine tf_ldc2 (z := 9999) hx hb hown (hts _ kl_X10_176) (by decide) dX10_salt_28 ?_
        refine tf_calli (va_runS (As := [.long (Int64.ofInt x3), .long (Int64.ofInt 0), .long (Int64.ofInt 9999)]) (rest := []) ⟨hx, hb, hml, hown, hts⟩ (c_X10_in l g T (x3) ⟨by omega, by omega⟩ (0) ⟨by omega, by omega⟩ (9999) ⟨by omega, by omega⟩) ⟨callB_of 3 hts (gw_ws cm_X10_in) rfl rfl rfl (hts _ (tw1 (i := 5) rfl)) (hts _ (tw11 (i := 3) rfl)) hd_X10_in.2 ⟨Nat.le_trans (by decide) hR1, Nat.le_trans (by decide) hR2⟩, hts _ (tw11 (i := 4) rfl)⟩ (tf_preS hk hW trivial) rfl rfl hl.1 rfl (lv_room (Nat.le_of_ble_eq_true rfl)) dX10_salt_31 ⟨Nat.zero_le _, Nat.zero_le _⟩) hW (by decide) (fun z15 H15 locs15 hW hF15 hp15 => ?_)
        rcases hp15 with ⟨rfl, h16, h17⟩ | ⟨rfl, h18⟩
        · refine tf_if_ne (tgt := 39) hx hb ⟨by decide, by decide⟩ dX10_salt_34 (by decide) (fun h19 => ?_) (fun h19 => ?_)
          · refine lv_aload_n hx hb dX10_salt_39 rfl (lv_at hl 0 rfl) ?_
            refine tf_callv (va_runV (As := []) (rest := []) ⟨hx, hb, hml, hown, hts⟩ (c_X10_layAll l g T a0 ha0) (cwV 0 hts gv_X10_405 rfl rfl rfl hd_X10_layAll ⟨Nat.le_trans (by decide) hR1, Nat.le_trans (by decide) hR2⟩) (tf_preV hk hW ha0 (ci := 10) rfl rfl trivial) rfl rfl hl.1 rfl (lv_room (Nat.le_of_ble_eq_true rfl)) dX10_salt_40 ⟨Nat.zero_le _, Nat.zero_le _⟩) hW (by decide) (fun H20 locs20 hW hF20 hp20 => ?_)
            refine lv_iload_n hx hb dX10_salt_43 rfl (lv_at hl 1 rfl) ?_
            refine tf_iconst hx hb dX10_salt_44 ?_
            refine tf_icmp_eq (tgt := 56) hx hb ⟨by omega, by omega⟩ ⟨by decide, by decide⟩ dX10_salt_45 (by decide) (fun h21 => ?_) (fun h21 => ?_)
            · refine tf_iconst hx hb dX10_salt_56 ?_
              refine lv_istore (lv' := [(4, .int (Int32.ofInt 0)), (0, .ref a0), (1, .int (Int32.ofInt x1)), (2, .int (Int32.ofInt x2)), (3, .int (Int32.ofInt x3))]) hx hb dX10_salt_57 hl (by decide) rfl (fun ls hl => ?_)
              refine tf_iconst hx hb dX10_salt_59 ?_
              refine lv_istore (lv' := [(5, .int (Int32.ofInt 0)), (4, .int (Int32.ofInt 0)), (0, .ref a0), (1, .int (Int32.ofInt x1)), (2, .int (Int32.ofInt x2)), (3, .int (Int32.ofInt x3))]) hx hb dX10_salt_60 hl (by decide) rfl (fun ls hl => ?_)
              exact j_62 ((100 - 0 + 1 : Int)).toNat ⟨by omega, by omega⟩ ⟨by omega, by omega⟩ (0) ⟨by omega, by omega⟩ (0) ⟨by omega, by omega⟩ (by omega) _ _ hW  _ (lv_sub hl [2, 4, 5, 1, 0] rfl)
            · refine lv_aload_n hx hb dX10_salt_48 rfl (lv_at hl 0 rfl) ?_
              refine lv_iload_n hx hb dX10_salt_49 rfl (lv_at hl 1 rfl) ?_
              refine lv_iload_n hx hb dX10_salt_50 rfl (lv_at hl 2 rfl) ?_
              refine lv_iload_n hx hb dX10_salt_51 rfl (lv_at hl 3 rfl) ?_
              refine tf_calli (va_runV (As := [.int (Int32.ofInt x1), .int (Int32.ofInt x2), .int (Int32.ofInt x3)]) (rest := []) ⟨hx, hb, hml, hown, hts⟩ (c_X10_blown l g T a0 ha0 (x1) ⟨by omega, by omega⟩ (x2) ⟨by omega, by omega⟩ (x3) ⟨by omega, by omega⟩) (cwV 3 hts gv_X10_467 rfl rfl rfl hd_X10_blown ⟨Nat.le_trans (by decide) hR1, Nat.le_trans (by decide) hR2⟩) (tf_preV hk hW ha0 (ci := 10) rfl rfl trivial) rfl rfl hl.1 rfl (lv_room (Nat.le_of_ble_eq_true rfl)) dX10_salt_52 ⟨Nat.zero_le _, Nat.zero_le _⟩) hW (by decide) (fun z22 H22 locs22 hW hF22 hp22 => ?_)
              obtain ⟨hp22_0, hp22_1⟩ := hp22
              exact tf_reti (z := z22) hx hb hr hlocks hQ hW (show (-2147483648) ≤ (z22) ∧ (z22) ≤ 2147483647 by omega) dX10_salt_55
          · exfalso; omega
        · refine tf_if_ne (tgt := 39) hx hb ⟨by decide, by decide⟩ dX10_salt_34 (by decide) (fun h23 => ?_) (fun h23 => ?_)
          · exfalso; omega
          · refine tf_iconst hx hb dX10_salt_37 ?_
            exact tf_reti (z := (-1)) hx hb hr hlocks hQ hW (show (-2147483648) ≤ ((-1)) ∧ ((-1)) ≤ 2147483647 by omega) dX10_salt_38
    · refine tf_if_eq (tgt := 37) hx hb ⟨by decide, by decide⟩ dX10_salt_22 (by decide) (fun h24 => ?_) (fun h24 => ?_)
      · refine tf_iconst hx hb dX10_salt_37 ?_
        exact tf_reti (z := (-1)) hx hb hr hlocks hQ hW (show (-2147483648) ≤ ((-1)) ∧ ((-1)) ≤ 2147483647 by omega) dX10_salt_38
      · exfalso; omega
  refine tf_enter (As := [.ref a0, .int (Int32.ofInt x1), .int (Int32.ofInt x2), .int (Int32.ofInt x3)]) hargs (Nat.le_of_ble_eq_true rfl) (fun ls hl => ?_)
  have hl : lv_has ls 6 [(0, .ref a0), (1, .int (Int32.ofInt x1)), (2, .int (Int32.ofInt x2)), (3, .int (Int32.ofInt x3))] := hl
  refine lv_aload_n hx hb dX10_salt_0 rfl (lv_at hl 0 rfl) ?_
  refine tf_iconst hx hb dX10_salt_1 ?_
  refine tf_put hx hb hts inlX10 tyX10 tyX10_ok nmX10 hown hK (ci := 10) rfl hW ha0 rfl rfl 0 rfl (by decide) (by decide) (hts _ fl_X10_103) rfl (tf_u0 (by omega) (by omega)) rfl rfl dX10_salt_2 (fun H25 locs25 hW hs25 ht25 hq25 => ?_)
  refine lv_iload_n hx hb dX10_salt_5 rfl (lv_at hl 1 rfl) ?_
  refine tf_iconst hx hb dX10_salt_6 ?_
  refine tf_icmp_eq (tgt := 18) hx hb ⟨by omega, by omega⟩ ⟨by decide, by decide⟩ dX10_salt_7 (by decide) (fun h26 => ?_) (fun h26 => ?_)
  · exact j_18 ⟨by omega, by omega⟩ ⟨by omega, by omega⟩ ⟨by omega, by omega⟩ _ _ hW  _ (lv_sub hl [0, 1, 2, 3] rfl)
  · refine lv_aload_n hx hb dX10_salt_10 rfl (lv_at hl 0 rfl) ?_
    refine lv_iload_n hx hb dX10_salt_11 rfl (lv_at hl 1 rfl) ?_
    refine tf_calli (va_runV (As := [.int (Int32.ofInt x1)]) (rest := []) ⟨hx, hb, hml, hown, hts⟩ (c_X10_isGround l g T a0 ha0 (x1) ⟨by omega, by omega⟩) (cwV 1 hts gv_X10_148 rfl rfl rfl hd_X10_isGround ⟨Nat.le_trans (by decide) hR1, Nat.le_trans (by decide) hR2⟩) (tf_preV hk hW ha0 (ci := 10) rfl rfl trivial) rfl rfl hl.1 rfl (lv_room (Nat.le_of_ble_eq_true rfl)) dX10_salt_12 ⟨Nat.zero_le _, Nat.zero_le _⟩) hW (by decide) (fun z27 H27 locs27 hW hF27 hp27 => ?_)
    rcases hp27 with ⟨rfl, h28, h29⟩ | ⟨rfl⟩
    · refine tf_if_eq (tgt := 37) hx hb ⟨by decide, by decide⟩ dX10_salt_15 (by decide) (fun h30 => ?_) (fun h30 => ?_)
      · exfalso; omega
      · exact j_18 ⟨by omega, by omega⟩ ⟨by omega, by omega⟩ ⟨by omega, by omega⟩ _ _ hW  _ (lv_sub hl [0, 1, 2, 3] rfl)
    · refine tf_if_eq (tgt := 37) hx hb ⟨by decide, by decide⟩ dX10_salt_15 (by decide) (fun h31 => ?_) (fun h31 => ?_)
      · refine tf_iconst hx hb dX10_salt_37 ?_
        exact tf_reti (z := (-1)) hx hb hr hlocks hQ hW (show (-2147483648) ≤ ((-1)) ∧ ((-1)) ≤ 2147483647 by omega) dX10_salt_38
      · exfalso; omega

abbrev M_X10_odds : List (Nat × Nat) := [(38, 0), (39, 0), (40, 0), (41, 0), (42, 0), (43, 0), (44, 0), (50, 0), (50, 26), (50, 29), (50, 30), (50, 31), (50, 37), (50, 38), (50, 39), (50, 40), (50, 41), (50, 42)]
set_option maxHeartbeats 4000000 in
set_option maxRecDepth 100000 in
theorem c_X10_odds (l : Launch) (g : tf_G) (T : tf_T) (a0 : Nat) (ha0 : T a0 = some (50, 0)) (x1 : Int) (hp1 : (-2147483648) ≤ x1 ∧ x1 ≤ 2147483647) (x2 : Int) (hp2 : (-2147483648) ≤ x2 ∧ x2 ≤ 2147483647) (x3 : Int) (hp3 : (-2147483648) ≤ x3 ∧ x3 ≤ 2147483647) (x4 : Int) (hp4 : (-2147483648) ≤ x4 ∧ x4 ≤ 2147483647) (x5 : Int) (hp5 : (-2147483648) ≤ x5 ∧ x5 ≤ 2147483647) : Met l yX10_odds (cd_X10_odds :: wsL_law) ({ frames := 6, cells := 0, slots := 0, locals := 154 }) (tf_P g T [.ref a0, .int (Int32.ofInt x1), .int (Int32.ofInt x2), .int (Int32.ofInt x3), .int (Int32.ofInt x4), .int (Int32.ofInt x5)] (fun H => True)) (tf_Qi g M_X10_odds T (fun z _ _ => (-2147483648) ≤ z ∧ z ≤ 2147483647)) 0 0 (fun q => tf_B g ≤ q) := by
  refine Met.ofW (cc := cX10_odds) (maxL := 11) (ret := (some .int)) (by decide) rfl ?_
  intro p e s m args below meth c s₁ B hml hv
  obtain ⟨hargs, hk, hW0, hB, hpre⟩ := hv
  have hx := B.exec
  have hb := B.bytes
  have hr := B.returns
  have hts : ∀ w ∈ wsL_law, w.before args s = true := fun w h => atoms_spec (ws := cd_X10_odds :: wsL_law) B.pre w (List.mem_cons_of_mem _ h)
  have hown : s.vm.findClass RX10 = some m.cls := findClass_of_methodNamed B.named
  have hlocks := B.notSynchronized
  have hK := hk.1
  have hW := tf_n.start (M := M_X10_odds) hW0 hB
  obtain ⟨Q, hQ⟩ : ∃ q, q = MQ below (tf_Qi g M_X10_odds T (fun z _ _ => (-2147483648) ≤ z ∧ z ≤ 2147483647)) args s 0 0 (fun q => tf_B g ≤ q) := ⟨_, rfl⟩
  rw [← hQ]
  obtain ⟨R, hR⟩ : ∃ q, q = (headSpec (cd_X10_odds :: wsL_law) ({ frames := 6, cells := 0, slots := 0, locals := 154 })).room := ⟨_, rfl⟩
  rw [← hR]
  have hR1 : 6 ≤ R.frames := by rw [hR]; exact Nat.le_refl _
  have hR2 : 154 ≤ R.locals := by rw [hR]; exact Nat.le_refl _
  have hR3 : 0 ≤ R.cells := by rw [hR]; exact Nat.le_refl _
  have hR4 : 0 ≤ R.slots := by rw [hR]; exact Nat.le_refl _
  have hin := (name_of_methodNamed B.named B.method).1
  clear hR B
  have j_95 : ∀ (n_95 : Nat), 0 ≤ x3 ∧ x3 ≤ 3 → 0 ≤ x4 ∧ x4 ≤ 9 → 0 ≤ x5 ∧ x5 ≤ 1 → ∀ (x6_95 : Int), (-2147483648) ≤ x6_95 ∧ x6_95 ≤ 2147483647 → ∀ (x7_95 : Int), (-2147483648) ≤ x7_95 ∧ x7_95 ≤ 2147483647 → ∀ (x8_95 : Int), 0 ≤ x8_95 ∧ x8_95 ≤ 9990 → ∀ (x9_95 : Int), 0 ≤ x9_95 ∧ x9_95 ≤ 9990 → ∀ (x10_95 : Int), 0 ≤ x10_95 ∧ x10_95 ≤ 10 → (x8_95 ≤ 999 * x10_95) → (x9_95 ≤ 999 * x10_95) → (10 - x10_95 + 1 ≤ (n_95 : Int)) → ∀ (H : Heap) (locs : List Loc), tf_n tf_kt g M_X10_odds T s.heap T H locs → ∀ (ls : Array Slot), lv_has ls 11 [(0, .ref a0), (3, .int (Int32.ofInt x3)), (4, .int (Int32.ofInt x4)), (5, .int (Int32.ofInt x5)), (6, .int (Int32.ofInt x6_95)), (7, .int (Int32.ofInt x7_95)), (8, .int (Int32.ofInt x8_95)), (9, .int (Int32.ofInt x9_95)), (10, .int (Int32.ofInt x10_95))] → W p l e R s m args below meth c H locs 0 0 Q (F0 m 95 ls []) := by
    intro n_95
    induction n_95 with
    | zero =>
      intro hx3_95 hx4_95 hx5_95 x6_95 hx6_95 x7_95 hx7_95 x8_95 hx8_95 x9_95 hx9_95 x10_95 hx10_95 hi0_95 hi1_95 hm_95
      exfalso; omega
    | succ n_95 ih_95 =>
      intro hx3_95 hx4_95 hx5_95 x6_95 hx6_95 x7_95 hx7_95 x8_95 hx8_95 x9_95 hx9_95 x10_95 hx10_95 hi0_95 hi1_95 hm_95 H locs hW  ls hl
      have j_174 : 0 ≤ x3 ∧ x3 ≤ 3 → 0 ≤ x4 ∧ x4 ≤ 9 → 0 ≤ x5 ∧ x5 ≤ 1 → (-2147483648) ≤ x6_95 ∧ x6_95 ≤ 2147483647 → (-2147483648) ≤ x7_95 ∧ x7_95 ≤ 2147483647 → ∀ (x8_174 : Int), 0 ≤ x8_174 ∧ x8_174 ≤ 9990 → ∀ (x9_174 : Int), 0 ≤ x9_174 ∧ x9_174 ≤ 9990 → 0 ≤ x10_95 ∧ x10_95 ≤ 9 → (x8_174 ≤ 999 * x10_95 + 999) → (x9_174 ≤ 999 * x10_95 + 999) → ∀ (H : Heap) (locs : List Loc), tf_n tf_kt g M_X10_odds T s.heap T H locs → ∀ (ls : Array Slot), lv_has ls 11 [(0, .ref a0), (3, .int (Int32.ofInt x3)), (4, .int (Int32.ofInt x4)), (5, .int (Int32.ofInt x5)), (6, .int (Int32.ofInt x6_95)), (7, .int (Int32.ofInt x7_95)), (8, .int (Int32.ofInt x8_174)), (9, .int (Int32.ofInt x9_174)), (10, .int (Int32.ofInt x10_95))] → W p l e R s m args below meth c H locs 0 0 Q (F0 m 174 ls []) := by
        intro hx3_174 hx4_174 hx5_174 hx6_174 hx7_174 x8_174 hx8_174 x9_174 hx9_174 hx10_174 hi0_174 hi1_174 H locs hW  ls hl
        refine lv_iinc (v := Int32.ofInt ((x10_95 + 1))) (lv' := [(10, .int (Int32.ofInt ((x10_95 + 1)))), (0, .ref a0), (3, .int (Int32.ofInt x3)), (4, .int (Int32.ofInt x4)), (5, .int (Int32.ofInt x5)), (6, .int (Int32.ofInt x6_95)), (7, .int (Int32.ofInt x7_95)), (8, .int (Int32.ofInt x8_174)), (9, .int (Int32.ofInt x9_174))]) hx hb dX10_odds_174 hl (k := 8) rfl (Int32.ofInt_add _ _).symm (by decide) rfl (fun ls hl => ?_)
        refine lv_goto (tgt := 95) hx hb dX10_odds_177 (by decide) ?_
        exact ih_95 ⟨by omega, by omega⟩ ⟨by omega, by omega⟩ ⟨by omega, by omega⟩ (x6_95) ⟨by omega, by omega⟩ (x7_95) ⟨by omega, by omega⟩ (x8_174) ⟨by omega, by omega⟩ (x9_174) ⟨by omega, by omega⟩ ((x10_95 + 1)) ⟨by omega, by omega⟩ (by omega) (by omega) (by omega) _ _ hW  _ (lv_sub hl [1, 2, 3, 4, 5, 6, 7, 8, 0] rfl)
      have j_171 : 0 ≤ x3 ∧ x3 ≤ 3 → 0 ≤ x4 ∧ x4 ≤ 9 → 0 ≤ x5 ∧ x5 ≤ 1 → (-2147483648) ≤ x6_95 ∧ x6_95 ≤ 2147483647 → (-2147483648) ≤ x7_95 ∧ x7_95 ≤ 2147483647 → ∀ (x8_171 : Int), 0 ≤ x8_171 ∧ x8_171 ≤ 9990 → 0 ≤ x10_95 ∧ x10_95 ≤ 9 → 0 ≤ x9_95 ∧ x9_95 ≤ 9990 → ∀ (y1_171 : Int), 0 ≤ y1_171 ∧ y1_171 ≤ 999 → (x9_95 ≤ 999 * x10_95) → (x8_171 ≤ 999 * x10_95 + 999) → ∀ (H : Heap) (locs : List Loc), tf_n tf_kt g M_X10_odds T s.heap T H locs → ∀ (ls : Array Slot), lv_has ls 11 [(0, .ref a0), (3, .int (Int32.ofInt x3)), (4, .int (Int32.ofInt x4)), (5, .int (Int32.ofInt x5)), (6, .int (Int32.ofInt x6_95)), (7, .int (Int32.ofInt x7_95)), (8, .int (Int32.ofInt x8_171)), (10, .int (Int32.ofInt x10_95))] → W p l e R s m args below meth c H locs 0 0 Q (F0 m 171 ls [.int (Int32.ofInt y1_171), .int (Int32.ofInt x9_95)]) := by
        intro hx3_171 hx4_171 hx5_171 hx6_171 hx7_171 x8_171 hx8_171 hx10_171 hy0_171 y1_171 hy1_171 hi0_171 hi1_171 H locs hW  ls hl
        refine tf_iadd hx hb dX10_odds_171 ?_
        refine lv_istore (lv' := [(9, .int (Int32.ofInt ((x9_95 + y1_171)))), (0, .ref a0), (3, .int (Int32.ofInt x3)), (4, .int (Int32.ofInt x4)), (5, .int (Int32.ofInt x5)), (6, .int (Int32.ofInt x6_95)), (7, .int (Int32.ofInt x7_95)), (8, .int (Int32.ofInt x8_171)), (10, .int (Int32.ofInt x10_95))]) hx hb dX10_odds_172 hl (by decide) rfl (fun ls hl => ?_)
        exact j_174 ⟨by omega, by omega⟩ ⟨by omega, by omega⟩ ⟨by omega, by omega⟩ ⟨by omega, by omega⟩ ⟨by omega, by omega⟩ (x8_171) ⟨by omega, by omega⟩ ((x9_95 + y1_171)) ⟨by omega, by omega⟩ ⟨by omega, by omega⟩ (by omega) (by omega) _ _ hW  _ (lv_sub hl [1, 2, 3, 4, 5, 6, 7, 0, 8] rfl)
      refine lv_iload hx hb dX10_odds_95 (lv_at hl 8 rfl) ?_
      refine tf_bipush hx hb dX10_odds_97 (by decide) ?_
      refine tf_icmp_ge (tgt := 180) hx hb ⟨by omega, by omega⟩ ⟨by decide, by decide⟩ dX10_odds_99 (by decide) (fun h1 => ?_) (fun h1 => ?_)
      · refine lv_iload hx hb dX10_odds_180 (lv_at hl 6 rfl) ?_
        refine tf_if_ne (tgt := 188) hx hb ⟨by omega, by omega⟩ dX10_odds_182 (by decide) (fun h2 => ?_) (fun h2 => ?_)
        · refine lv_iload hx hb dX10_odds_188 (lv_at hl 6 rfl) ?_
          refine lv_iload hx hb dX10_odds_190 (lv_at hl 7 rfl) ?_
          refine tf_calli (va_runS (As := [.int (Int32.ofInt x8_95), .int (Int32.ofInt x9_95)]) (rest := []) ⟨hx, hb, hml, hown, hts⟩ (c_X10_common l g T (x8_95) ⟨by omega, by omega⟩ (x9_95) ⟨by omega, by omega⟩) ⟨callB_of 2 hts (gw_ws cm_X10_common) rfl rfl rfl (hts _ (tw1 (i := 5) rfl)) (hts _ (tw54 (i := 6) rfl)) hd_X10_common.2 ⟨Nat.le_trans (by decide) hR1, Nat.le_trans (by decide) hR2⟩, hts _ (tw54 (i := 7) rfl)⟩ (tf_preS hk hW trivial) rfl rfl hl.1 rfl (lv_room (Nat.le_of_ble_eq_true rfl)) dX10_odds_192 ⟨Nat.zero_le _, Nat.zero_le _⟩) hW (by decide) (fun z3 H3 locs3 hW hF3 hp3 => ?_)
          obtain ⟨hp3_0, hp3_1⟩ := hp3
          refine lv_istore (lv' := [(10, .int (Int32.ofInt z3)), (0, .ref a0), (3, .int (Int32.ofInt x3)), (4, .int (Int32.ofInt x4)), (5, .int (Int32.ofInt x5)), (6, .int (Int32.ofInt x6_95)), (7, .int (Int32.ofInt x7_95)), (8, .int (Int32.ofInt x8_95)), (9, .int (Int32.ofInt x9_95))]) hx hb dX10_odds_195 hl (by decide) rfl (fun ls hl => ?_)
          refine lv_iload hx hb dX10_odds_197 (lv_at hl 4 rfl) ?_
          refine tf_if_ne (tgt := 210) hx hb ⟨by omega, by omega⟩ dX10_odds_199 (by decide) (fun h4 => ?_) (fun h4 => ?_)
          · refine lv_iload hx hb dX10_odds_210 (lv_at hl 7 rfl) ?_
            refine lv_iload hx hb dX10_odds_212 (lv_at hl 0 rfl) ?_
            refine tf_idiv_pos hx hb ⟨by omega, by omega⟩ (by omega) ⟨by omega, by omega⟩ (by omega) dX10_odds_214 (fun z5 hz5 => ?_)
            exact tf_reti (z := z5) hx hb hr hlocks hQ hW (show (-2147483648) ≤ (z5) ∧ (z5) ≤ 2147483647 by omega) dX10_odds_215
          · refine lv_iload hx hb dX10_odds_202 (lv_at hl 8 rfl) ?_
            refine lv_iload hx hb dX10_odds_204 (lv_at hl 0 rfl) ?_
            refine tf_idiv_pos hx hb ⟨by omega, by omega⟩ (by omega) ⟨by omega, by omega⟩ (by omega) dX10_odds_206 (fun z6 hz6 => ?_)
            refine lv_goto (tgt := 215) hx hb dX10_odds_207 (by decide) ?_
            exact tf_reti (z := z6) hx hb hr hlocks hQ hW (show (-2147483648) ≤ (z6) ∧ (z6) ≤ 2147483647 by omega) dX10_odds_215
        · refine lv_iload hx hb dX10_odds_185 (lv_at hl 3 rfl) ?_
          exact tf_reti (z := x5) hx hb hr hlocks hQ hW (show (-2147483648) ≤ (x5) ∧ (x5) ≤ 2147483647 by omega) dX10_odds_187
      · refine lv_iload hx hb dX10_odds_102 (lv_at hl 8 rfl) ?_
        refine lv_iload hx hb dX10_odds_104 (lv_at hl 4 rfl) ?_
        refine tf_imul_any hx hb dX10_odds_106 (fun z7 hz7 => ?_)
        refine lv_iload hx hb dX10_odds_107 (lv_at hl 2 rfl) ?_
        refine lv_iload hx hb dX10_odds_109 (lv_at hl 4 rfl) ?_
        refine tf_imul_any hx hb dX10_odds_111 (fun z8 hz8 => ?_)
        refine tf_icmp_lt (tgt := 174) hx hb ⟨by omega, by omega⟩ ⟨by omega, by omega⟩ dX10_odds_112 (by decide) (fun h9 => ?_) (fun h9 => ?_)
        · exact j_174 ⟨by omega, by omega⟩ ⟨by omega, by omega⟩ ⟨by omega, by omega⟩ ⟨by omega, by omega⟩ ⟨by omega, by omega⟩ (x8_95) ⟨by omega, by omega⟩ (x9_95) ⟨by omega, by omega⟩ ⟨by omega, by omega⟩ (by omega) (by omega) _ _ hW  _ (lv_sub hl [0, 1, 2, 3, 4, 5, 6, 7, 8] rfl)
        · refine lv_iload hx hb dX10_odds_115 (lv_at hl 6 rfl) ?_
          refine lv_aload_n hx hb dX10_odds_117 rfl (lv_at hl 0 rfl) ?_
          refine tf_get hx hb hts inlX10 hown hK (ci := 10) rfl hW ha0 rfl 3 rfl (by decide) (hts _ fl_X10_13) dX10_odds_118 (fun v10 hv10 hsv10 => ?_)
          obtain ⟨ad11, rfl, had11⟩ := tf_v1 hv10
          refine tf_sipush hx hb dX10_odds_121 (by decide) ?_
          refine tf_bipush hx hb dX10_odds_124 (by decide) ?_
          refine lv_iload_n hx hb dX10_odds_126 rfl (lv_at hl 1 rfl) ?_
          refine tf_imul hx hb dX10_odds_127 ?_
          refine tf_iadd hx hb dX10_odds_128 ?_
          refine lv_iload hx hb dX10_odds_129 (lv_at hl 8 rfl) ?_
          refine tf_iadd hx hb dX10_odds_131 ?_
          refine tf_iald (t0 := 0) hx hb hK hW had11 rfl rfl (by omega) (by omega) dX10_odds_132 (fun v12 hv12 hsv12 => ?_)
          obtain ⟨z13, rfl, hz13⟩ := tf_v0 hv12
          have hg14 := tf_rdH (tf_ROof hW had11) hsv12 ⟨by omega, by omega⟩ (by omega)
          refine tf_iadd hx hb dX10_odds_133 ?_
          refine lv_istore (lv' := [(8, .int (Int32.ofInt ((x8_95 + z13)))), (0, .ref a0), (3, .int (Int32.ofInt x3)), (4, .int (Int32.ofInt x4)), (5, .int (Int32.ofInt x5)), (6, .int (Int32.ofInt x6_95)), (7, .int (Int32.ofInt x7_95)), (9, .int (Int32.ofInt x9_95)), (10, .int (Int32.ofInt x10_95))]) hx hb dX10_odds_134 hl (by decide) rfl (fun ls hl => ?_)
          refine lv_iload hx hb dX10_odds_136 (lv_at hl 7 rfl) ?_
          refine lv_iload hx hb dX10_odds_138 (lv_at hl 8 rfl) ?_
          refine lv_iload hx hb dX10_odds_140 (lv_at hl 6 rfl) ?_
          refine tf_imul_any hx hb dX10_odds_142 (fun z15 hz15 => ?_)
          refine lv_iload hx hb dX10_odds_143 (lv_at hl 3 rfl) ?_
          refine lv_iload hx hb dX10_odds_145 (lv_at hl 5 rfl) ?_
          refine tf_imul_any hx hb dX10_odds_147 (fun z16 hz16 => ?_)
          refine tf_icmp_ge (tgt := 170) hx hb ⟨by omega, by omega⟩ ⟨by omega, by omega⟩ dX10_odds_148 (by decide) (fun h17 => ?_) (fun h17 => ?_)
          · refine tf_iconst hx hb dX10_odds_170 ?_
            exact j_171 ⟨by omega, by omega⟩ ⟨by omega, by omega⟩ ⟨by omega, by omega⟩ ⟨by omega, by omega⟩ ⟨by omega, by omega⟩ ((x8_95 + z13)) ⟨by omega, by omega⟩ ⟨by omega, by omega⟩ ⟨by omega, by omega⟩ (0) ⟨by omega, by omega⟩ (by omega) (by omega) _ _ hW  _ (lv_sub hl [1, 2, 3, 4, 5, 6, 0, 8] rfl)
          · refine lv_aload_n hx hb dX10_odds_151 rfl (lv_at hl 1 rfl) ?_
            refine tf_get hx hb hts inlX10 hown hK (ci := 10) rfl hW ha0 rfl 3 rfl (by decide) (hts _ fl_X10_13) dX10_odds_152 (fun v18 hv18 hsv18 => ?_)
            obtain rfl : v18 = .ref ad11 := Option.some.inj (hsv18.symm.trans hsv10)
            refine tf_sipush hx hb dX10_odds_155 (by decide) ?_
            refine tf_bipush hx hb dX10_odds_158 (by decide) ?_
            refine lv_iload_n hx hb dX10_odds_160 rfl (lv_at hl 2 rfl) ?_
            refine tf_imul hx hb dX10_odds_161 ?_
            refine tf_iadd hx hb dX10_odds_162 ?_
            refine lv_iload hx hb dX10_odds_163 (lv_at hl 8 rfl) ?_
            refine tf_iadd hx hb dX10_odds_165 ?_
            refine tf_iald (t0 := 0) hx hb hK hW had11 rfl rfl (by omega) (by omega) dX10_odds_166 (fun v19 hv19 hsv19 => ?_)
            obtain ⟨z20, rfl, hz20⟩ := tf_v0 hv19
            have hg21 := tf_rdH (tf_ROof hW had11) hsv19 ⟨by omega, by omega⟩ (by omega)
            refine lv_goto (tgt := 171) hx hb dX10_odds_167 (by decide) ?_
            exact j_171 ⟨by omega, by omega⟩ ⟨by omega, by omega⟩ ⟨by omega, by omega⟩ ⟨by omega, by omega⟩ ⟨by omega, by omega⟩ ((x8_95 + z13)) ⟨by omega, by omega⟩ ⟨by omega, by omega⟩ ⟨by omega, by omega⟩ (z20) ⟨by omega, by omega⟩ (by omega) (by omega) _ _ hW  _ (lv_sub hl [1, 2, 3, 4, 5, 6, 0, 8] rfl)
  refine tf_enter (As := [.ref a0, .int (Int32.ofInt x1), .int (Int32.ofInt x2), .int (Int32.ofInt x3), .int (Int32.ofInt x4), .int (Int32.ofInt x5)]) hargs (Nat.le_of_ble_eq_true rfl) (fun ls hl => ?_)
  have hl : lv_has ls 11 [(0, .ref a0), (1, .int (Int32.ofInt x1)), (2, .int (Int32.ofInt x2)), (3, .int (Int32.ofInt x3)), (4, .int (Int32.ofInt x4)), (5, .int (Int32.ofInt x5))] := hl
  refine lv_aload_n hx hb dX10_odds_0 rfl (lv_at hl 0 rfl) ?_
  refine tf_iconst hx hb dX10_odds_1 ?_
  refine tf_put hx hb hts inlX10 tyX10 tyX10_ok nmX10 hown hK (ci := 10) rfl hW ha0 rfl rfl 0 rfl (by decide) (by decide) (hts _ fl_X10_103) rfl (tf_u0 (by omega) (by omega)) rfl rfl dX10_odds_2 (fun H22 locs22 hW hs22 ht22 hq22 => ?_)
  refine lv_aload_n hx hb dX10_odds_5 rfl (lv_at hl 0 rfl) ?_
  refine lv_iload_n hx hb dX10_odds_6 rfl (lv_at hl 1 rfl) ?_
  refine tf_calli (va_runV (As := [.int (Int32.ofInt x1)]) (rest := []) ⟨hx, hb, hml, hown, hts⟩ (c_X10_isTower l g T a0 ha0 (x1) ⟨by omega, by omega⟩) (cwV 1 hts gv_X10_165 rfl rfl rfl hd_X10_isTower ⟨Nat.le_trans (by decide) hR1, Nat.le_trans (by decide) hR2⟩) (tf_preV hk hW ha0 (ci := 10) rfl rfl trivial) rfl rfl hl.1 rfl (lv_room (Nat.le_of_ble_eq_true rfl)) dX10_odds_7 ⟨Nat.zero_le _, Nat.zero_le _⟩) hW (by decide) (fun z23 H23 locs23 hW hF23 hp23 => ?_)
  rcases hp23 with ⟨rfl, h24, h25⟩ | ⟨rfl⟩
  · refine tf_if_eq (tgt := 52) hx hb ⟨by decide, by decide⟩ dX10_odds_10 (by decide) (fun h26 => ?_) (fun h26 => ?_)
    · exfalso; omega
    · refine lv_aload_n hx hb dX10_odds_13 rfl (lv_at hl 0 rfl) ?_
      refine lv_iload_n hx hb dX10_odds_14 rfl (lv_at hl 2 rfl) ?_
      refine tf_calli (va_runV (As := [.int (Int32.ofInt x2)]) (rest := []) ⟨hx, hb, hml, hown, hts⟩ (c_X10_isGround l g T a0 ha0 (x2) ⟨by omega, by omega⟩) (cwV 1 hts gv_X10_148 rfl rfl rfl hd_X10_isGround ⟨Nat.le_trans (by decide) hR1, Nat.le_trans (by decide) hR2⟩) (tf_preV hk hW ha0 (ci := 10) rfl rfl trivial) rfl rfl hl.1 rfl (lv_room (Nat.le_of_ble_eq_true rfl)) dX10_odds_15 ⟨Nat.zero_le _, Nat.zero_le _⟩) hW (by decide) (fun z27 H27 locs27 hW hF27 hp27 => ?_)
      rcases hp27 with ⟨rfl, h28, h29⟩ | ⟨rfl⟩
      · refine tf_if_eq (tgt := 52) hx hb ⟨by decide, by decide⟩ dX10_odds_18 (by decide) (fun h30 => ?_) (fun h30 => ?_)
        · exfalso; omega
        · refine lv_iload_n hx hb dX10_odds_21 rfl (lv_at hl 3 rfl) ?_
          refine tf_calli (va_runS (As := [.int (Int32.ofInt x3)]) (rest := []) ⟨hx, hb, hml, hown, hts⟩ (c_X10_isWay l g T (x3) ⟨by omega, by omega⟩) ⟨callB_of 1 hts (gw_ws cm_X10_isWay) rfl rfl rfl (hts _ (tw1 (i := 5) rfl)) (hts _ (tw17 (i := 8) rfl)) hd_X10_isWay.2 ⟨Nat.le_trans (by decide) hR1, Nat.le_trans (by decide) hR2⟩, hts _ (tw17 (i := 9) rfl)⟩ (tf_preS hk hW trivial) rfl rfl hl.1 rfl (lv_room (Nat.le_of_ble_eq_true rfl)) dX10_odds_22 ⟨Nat.zero_le _, Nat.zero_le _⟩) hW (by decide) (fun z31 H31 locs31 hW hF31 hp31 => ?_)
          rcases hp31 with ⟨rfl, h32, h33⟩ | ⟨rfl, h34⟩
          · refine tf_if_eq (tgt := 52) hx hb ⟨by decide, by decide⟩ dX10_odds_25 (by decide) (fun h35 => ?_) (fun h35 => ?_)
            · exfalso; omega
            · refine lv_iload hx hb dX10_odds_28 (lv_at hl 4 rfl) ?_
              refine tf_i2l hx hb ⟨by omega, by omega⟩ dX10_odds_30 ?_
              refine tf_lconst (z := 0) hx hb dX10_odds_31 (by decide) ?_
              refine tf_ldc2 (z := 9) hx hb hown (hts _ kl_X10_142) (by decide) dX10_odds_32 ?_
              refine tf_calli (va_runS (As := [.long (Int64.ofInt x4), .long (Int64.ofInt 0), .long (Int64.ofInt 9)]) (rest := []) ⟨hx, hb, hml, hown, hts⟩ (c_X10_in l g T (x4) ⟨by omega, by omega⟩ (0) ⟨by omega, by omega⟩ (9) ⟨by omega, by omega⟩) ⟨callB_of 3 hts (gw_ws cm_X10_in) rfl rfl rfl (hts _ (tw1 (i := 5) rfl)) (hts _ (tw11 (i := 3) rfl)) hd_X10_in.2 ⟨Nat.le_trans (by decide) hR1, Nat.le_trans (by decide) hR2⟩, hts _ (tw11 (i := 4) rfl)⟩ (tf_preS hk hW trivial) rfl rfl hl.1 rfl (lv_room (Nat.le_of_ble_eq_true rfl)) dX10_odds_35 ⟨Nat.zero_le _, Nat.zero_le _⟩) hW (by decide) (fun z36 H36 locs36 hW hF36 hp36 => ?_)
              rcases hp36 with ⟨rfl, h37, h38⟩ | ⟨rfl, h39⟩
              · refine tf_if_eq (tgt := 52) hx hb ⟨by decide, by decide⟩ dX10_odds_38 (by decide) (fun h40 => ?_) (fun h40 => ?_)
                · exfalso; omega
                · refine lv_iload hx hb dX10_odds_41 (lv_at hl 5 rfl) ?_
                  refine tf_i2l hx hb ⟨by omega, by omega⟩ dX10_odds_43 ?_
                  refine tf_lconst (z := 0) hx hb dX10_odds_44 (by decide) ?_
                  refine tf_lconst (z := 1) hx hb dX10_odds_45 (by decide) ?_
                  refine tf_calli (va_runS (As := [.long (Int64.ofInt x5), .long (Int64.ofInt 0), .long (Int64.ofInt 1)]) (rest := []) ⟨hx, hb, hml, hown, hts⟩ (c_X10_in l g T (x5) ⟨by omega, by omega⟩ (0) ⟨by omega, by omega⟩ (1) ⟨by omega, by omega⟩) ⟨callB_of 3 hts (gw_ws cm_X10_in) rfl rfl rfl (hts _ (tw1 (i := 5) rfl)) (hts _ (tw11 (i := 3) rfl)) hd_X10_in.2 ⟨Nat.le_trans (by decide) hR1, Nat.le_trans (by decide) hR2⟩, hts _ (tw11 (i := 4) rfl)⟩ (tf_preS hk hW trivial) rfl rfl hl.1 rfl (lv_room (Nat.le_of_ble_eq_true rfl)) dX10_odds_46 ⟨Nat.zero_le _, Nat.zero_le _⟩) hW (by decide) (fun z41 H41 locs41 hW hF41 hp41 => ?_)
                  rcases hp41 with ⟨rfl, h42, h43⟩ | ⟨rfl, h44⟩
                  · refine tf_if_ne (tgt := 54) hx hb ⟨by decide, by decide⟩ dX10_odds_49 (by decide) (fun h45 => ?_) (fun h45 => ?_)
                    · refine lv_aload_n hx hb dX10_odds_54 rfl (lv_at hl 0 rfl) ?_
                      refine tf_callv (va_runV (As := []) (rest := []) ⟨hx, hb, hml, hown, hts⟩ (c_X10_layAll l g T a0 ha0) (cwV 0 hts gv_X10_405 rfl rfl rfl hd_X10_layAll ⟨Nat.le_trans (by decide) hR1, Nat.le_trans (by decide) hR2⟩) (tf_preV hk hW ha0 (ci := 10) rfl rfl trivial) rfl rfl hl.1 rfl (lv_room (Nat.le_of_ble_eq_true rfl)) dX10_odds_55 ⟨Nat.zero_le _, Nat.zero_le _⟩) hW (by decide) (fun H46 locs46 hW hF46 hp46 => ?_)
                      refine lv_aload_n hx hb dX10_odds_58 rfl (lv_at hl 0 rfl) ?_
                      refine lv_iload_n hx hb dX10_odds_59 rfl (lv_at hl 2 rfl) ?_
                      refine lv_iload_n hx hb dX10_odds_60 rfl (lv_at hl 3 rfl) ?_
                      refine tf_calli (va_runV (As := [.int (Int32.ofInt x2), .int (Int32.ofInt x3)]) (rest := []) ⟨hx, hb, hml, hown, hts⟩ (c_X10_quickIn l g T a0 ha0 (x2) ⟨by omega, by omega⟩ (x3) ⟨by omega, by omega⟩) (cwV 2 hts gv_X10_408 rfl rfl rfl hd_X10_quickIn ⟨Nat.le_trans (by decide) hR1, Nat.le_trans (by decide) hR2⟩) (tf_preV hk hW ha0 (ci := 10) rfl rfl trivial) rfl rfl hl.1 rfl (lv_room (Nat.le_of_ble_eq_true rfl)) dX10_odds_61 ⟨Nat.zero_le _, Nat.zero_le _⟩) hW (by decide) (fun z47 H47 locs47 hW hF47 hp47 => ?_)
                      obtain ⟨hp47_0, hp47_1⟩ := hp47
                      refine lv_istore (lv' := [(6, .int (Int32.ofInt z47)), (0, .ref a0), (1, .int (Int32.ofInt x1)), (2, .int (Int32.ofInt x2)), (3, .int (Int32.ofInt x3)), (4, .int (Int32.ofInt x4)), (5, .int (Int32.ofInt x5))]) hx hb dX10_odds_64 hl (by decide) rfl (fun ls hl => ?_)
                      refine lv_aload_n hx hb dX10_odds_66 rfl (lv_at hl 1 rfl) ?_
                      refine tf_bipush hx hb dX10_odds_67 (by decide) ?_
                      refine tf_iconst hx hb dX10_odds_69 ?_
                      refine lv_iload_n hx hb dX10_odds_70 rfl (lv_at hl 2 rfl) ?_
                      refine tf_ishl_any hx hb dX10_odds_71 (fun z48 hz48 => ?_)
                      refine tf_iconst hx hb dX10_odds_72 ?_
                      refine tf_ixor_any hx hb dX10_odds_73 (fun z49 hz49 => ?_)
                      refine tf_iand_any hx hb dX10_odds_74 (fun z50 hz50 => ?_)
                      refine tf_callv (va_runV (As := [.int (Int32.ofInt z50)]) (rest := []) ⟨hx, hb, hml, hown, hts⟩ (c_X10_lay l g T a0 ha0 (z50) ⟨by omega, by omega⟩) (cwV 1 hts gv_X10_357 rfl rfl rfl hd_X10_lay ⟨Nat.le_trans (by decide) hR1, Nat.le_trans (by decide) hR2⟩) (tf_preV hk hW ha0 (ci := 10) rfl rfl trivial) rfl rfl hl.1 rfl (lv_room (Nat.le_of_ble_eq_true rfl)) dX10_odds_75 ⟨Nat.zero_le _, Nat.zero_le _⟩) hW (by decide) (fun H51 locs51 hW hF51 hp51 => ?_)
                      refine lv_aload_n hx hb dX10_odds_78 rfl (lv_at hl 1 rfl) ?_
                      refine lv_iload_n hx hb dX10_odds_79 rfl (lv_at hl 3 rfl) ?_
                      refine lv_iload_n hx hb dX10_odds_80 rfl (lv_at hl 4 rfl) ?_
                      refine tf_calli (va_runV (As := [.int (Int32.ofInt x2), .int (Int32.ofInt x3)]) (rest := []) ⟨hx, hb, hml, hown, hts⟩ (c_X10_quickIn l g T a0 ha0 (x2) ⟨by omega, by omega⟩ (x3) ⟨by omega, by omega⟩) (cwV 2 hts gv_X10_408 rfl rfl rfl hd_X10_quickIn ⟨Nat.le_trans (by decide) hR1, Nat.le_trans (by decide) hR2⟩) (tf_preV hk hW ha0 (ci := 10) rfl rfl trivial) rfl rfl hl.1 rfl (lv_room (Nat.le_of_ble_eq_true rfl)) dX10_odds_81 ⟨Nat.zero_le _, Nat.zero_le _⟩) hW (by decide) (fun z52 H52 locs52 hW hF52 hp52 => ?_)
                      obtain ⟨hp52_0, hp52_1⟩ := hp52
                      refine lv_istore (lv' := [(7, .int (Int32.ofInt z52)), (6, .int (Int32.ofInt z47)), (0, .ref a0), (1, .int (Int32.ofInt x1)), (2, .int (Int32.ofInt x2)), (3, .int (Int32.ofInt x3)), (4, .int (Int32.ofInt x4)), (5, .int (Int32.ofInt x5))]) hx hb dX10_odds_84 hl (by decide) rfl (fun ls hl => ?_)
                      refine tf_iconst hx hb dX10_odds_86 ?_
                      refine lv_istore (lv' := [(8, .int (Int32.ofInt 0)), (7, .int (Int32.ofInt z52)), (6, .int (Int32.ofInt z47)), (0, .ref a0), (1, .int (Int32.ofInt x1)), (2, .int (Int32.ofInt x2)), (3, .int (Int32.ofInt x3)), (4, .int (Int32.ofInt x4)), (5, .int (Int32.ofInt x5))]) hx hb dX10_odds_87 hl (by decide) rfl (fun ls hl => ?_)
                      refine tf_iconst hx hb dX10_odds_89 ?_
                      refine lv_istore (lv' := [(9, .int (Int32.ofInt 0)), (8, .int (Int32.ofInt 0)), (7, .int (Int32.ofInt z52)), (6, .int (Int32.ofInt z47)), (0, .ref a0), (1, .int (Int32.ofInt x1)), (2, .int (Int32.ofInt x2)), (3, .int (Int32.ofInt x3)), (4, .int (Int32.ofInt x4)), (5, .int (Int32.ofInt x5))]) hx hb dX10_odds_90 hl (by decide) rfl (fun ls hl => ?_)
                      refine tf_iconst hx hb dX10_odds_92 ?_
                      refine lv_istore (lv' := [(10, .int (Int32.ofInt 0)), (9, .int (Int32.ofInt 0)), (8, .int (Int32.ofInt 0)), (7, .int (Int32.ofInt z52)), (6, .int (Int32.ofInt z47)), (0, .ref a0), (1, .int (Int32.ofInt x1)), (2, .int (Int32.ofInt x2)), (3, .int (Int32.ofInt x3)), (4, .int (Int32.ofInt x4)), (5, .int (Int32.ofInt x5))]) hx hb dX10_odds_93 hl (by decide) rfl (fun ls hl => ?_)
                      exact j_95 ((10 - 0 + 1 : Int)).toNat ⟨by omega, by omega⟩ ⟨by omega, by omega⟩ ⟨by omega, by omega⟩ (z47) ⟨by omega, by omega⟩ (z52) ⟨by omega, by omega⟩ (0) ⟨by omega, by omega⟩ (0) ⟨by omega, by omega⟩ (0) ⟨by omega, by omega⟩ (by omega) (by omega) (by omega) _ _ hW  _ (lv_sub hl [5, 8, 9, 10, 4, 3, 2, 1, 0] rfl)
                    · exfalso; omega
                  · refine tf_if_ne (tgt := 54) hx hb ⟨by decide, by decide⟩ dX10_odds_49 (by decide) (fun h53 => ?_) (fun h53 => ?_)
                    · exfalso; omega
                    · refine tf_iconst hx hb dX10_odds_52 ?_
                      exact tf_reti (z := (-1)) hx hb hr hlocks hQ hW (show (-2147483648) ≤ ((-1)) ∧ ((-1)) ≤ 2147483647 by omega) dX10_odds_53
              · refine tf_if_eq (tgt := 52) hx hb ⟨by decide, by decide⟩ dX10_odds_38 (by decide) (fun h54 => ?_) (fun h54 => ?_)
                · refine tf_iconst hx hb dX10_odds_52 ?_
                  exact tf_reti (z := (-1)) hx hb hr hlocks hQ hW (show (-2147483648) ≤ ((-1)) ∧ ((-1)) ≤ 2147483647 by omega) dX10_odds_53
                · exfalso; omega
          · refine tf_if_eq (tgt := 52) hx hb ⟨by decide, by decide⟩ dX10_odds_25 (by decide) (fun h55 => ?_) (fun h55 => ?_)
            · refine tf_iconst hx hb dX10_odds_52 ?_
              exact tf_reti (z := (-1)) hx hb hr hlocks hQ hW (show (-2147483648) ≤ ((-1)) ∧ ((-1)) ≤ 2147483647 by omega) dX10_odds_53
            · exfalso; omega
      · refine tf_if_eq (tgt := 52) hx hb ⟨by decide, by decide⟩ dX10_odds_18 (by decide) (fun h56 => ?_) (fun h56 => ?_)
        · refine tf_iconst hx hb dX10_odds_52 ?_
          exact tf_reti (z := (-1)) hx hb hr hlocks hQ hW (show (-2147483648) ≤ ((-1)) ∧ ((-1)) ≤ 2147483647 by omega) dX10_odds_53
        · exfalso; omega
  · refine tf_if_eq (tgt := 52) hx hb ⟨by decide, by decide⟩ dX10_odds_10 (by decide) (fun h57 => ?_) (fun h57 => ?_)
    · refine tf_iconst hx hb dX10_odds_52 ?_
      exact tf_reti (z := (-1)) hx hb hr hlocks hQ hW (show (-2147483648) ≤ ((-1)) ∧ ((-1)) ≤ 2147483647 by omega) dX10_odds_53
    · exfalso; omega

abbrev M_X10_glass : List (Nat × Nat) := [(38, 0), (39, 0), (40, 0), (41, 0), (42, 0), (43, 0), (44, 0), (45, 0), (46, 0), (50, 0), (50, 26), (50, 29), (50, 30), (50, 31), (50, 37), (50, 38), (50, 39), (50, 40), (50, 41), (50, 42)]
set_option maxHeartbeats 4000000 in
set_option maxRecDepth 100000 in
theorem c_X10_glass (l : Launch) (g : tf_G) (T : tf_T) (a0 : Nat) (ha0 : T a0 = some (50, 0)) (x1 : Int) (hp1 : (-2147483648) ≤ x1 ∧ x1 ≤ 2147483647) : Met l yX10_glass (cd_X10_glass :: wsL_law) ({ frames := 9, cells := 0, slots := 0, locals := 223 }) (tf_P g T [.ref a0, .int (Int32.ofInt x1)] (fun H => True)) (tf_Qi g M_X10_glass T (fun z _ _ => (-2147483648) ≤ z ∧ z ≤ 2147483647)) 0 0 (fun q => tf_B g ≤ q) := by
  refine Met.ofW (cc := cX10_glass) (maxL := 8) (ret := (some .int)) (by decide) rfl ?_
  intro p e s m args below meth c s₁ B hml hv
  obtain ⟨hargs, hk, hW0, hB, hpre⟩ := hv
  have hx := B.exec
  have hb := B.bytes
  have hr := B.returns
  have hts : ∀ w ∈ wsL_law, w.before args s = true := fun w h => atoms_spec (ws := cd_X10_glass :: wsL_law) B.pre w (List.mem_cons_of_mem _ h)
  have hown : s.vm.findClass RX10 = some m.cls := findClass_of_methodNamed B.named
  have hlocks := B.notSynchronized
  have hK := hk.1
  have hW := tf_n.start (M := M_X10_glass) hW0 hB
  obtain ⟨Q, hQ⟩ : ∃ q, q = MQ below (tf_Qi g M_X10_glass T (fun z _ _ => (-2147483648) ≤ z ∧ z ≤ 2147483647)) args s 0 0 (fun q => tf_B g ≤ q) := ⟨_, rfl⟩
  rw [← hQ]
  obtain ⟨R, hR⟩ : ∃ q, q = (headSpec (cd_X10_glass :: wsL_law) ({ frames := 9, cells := 0, slots := 0, locals := 223 })).room := ⟨_, rfl⟩
  rw [← hR]
  have hR1 : 9 ≤ R.frames := by rw [hR]; exact Nat.le_refl _
  have hR2 : 223 ≤ R.locals := by rw [hR]; exact Nat.le_refl _
  have hR3 : 0 ≤ R.cells := by rw [hR]; exact Nat.le_refl _
  have hR4 : 0 ≤ R.slots := by rw [hR]; exact Nat.le_refl _
  have hin := (name_of_methodNamed B.named B.method).1
  clear hR B
  have j_37 : ∀ (n_37 : Nat), 0 ≤ x1 ∧ x1 ≤ 2 → ∀ (x2_37 : Int), (-1) ≤ x2_37 ∧ x2_37 ≤ 12 → ∀ (x3_37 : Int), (-2147483648) ≤ x3_37 ∧ x3_37 ≤ 2147483647 → ∀ (x4_37 : Int), (-1) ≤ x4_37 ∧ x4_37 ≤ 2147483646 → ∀ (x5_37 : Int), 0 ≤ x5_37 ∧ x5_37 ≤ 2147483647 → (2147483647 - x5_37 + 1 ≤ (n_37 : Int)) → ∀ (H : Heap) (locs : List Loc), tf_n tf_kt g M_X10_glass T s.heap T H locs → ∀ (ls : Array Slot), lv_has ls 8 [(0, .ref a0), (1, .int (Int32.ofInt x1)), (2, .int (Int32.ofInt x2_37)), (3, .int (Int32.ofInt x3_37)), (4, .int (Int32.ofInt x4_37)), (5, .int (Int32.ofInt x5_37))] → W p l e R s m args below meth c H locs 0 0 Q (F0 m 37 ls []) := by
    intro n_37
    induction n_37 with
    | zero =>
      intro hx1_37 x2_37 hx2_37 x3_37 hx3_37 x4_37 hx4_37 x5_37 hx5_37 hm_37
      exfalso; omega
    | succ n_37 ih_37 =>
      intro hx1_37 x2_37 hx2_37 x3_37 hx3_37 x4_37 hx4_37 x5_37 hx5_37 hm_37 H locs hW  ls hl
      have j_125 : 0 ≤ x1 ∧ x1 ≤ 2 → ∀ (x2_125 : Int), (-1) ≤ x2_125 ∧ x2_125 ≤ 12 → ∀ (x3_125 : Int), (-2147483648) ≤ x3_125 ∧ x3_125 ≤ 2147483647 → ∀ (x4_125 : Int), (-1) ≤ x4_125 ∧ x4_125 ≤ 2147483646 → 0 ≤ x5_37 ∧ x5_37 ≤ 2147483646 → ∀ (H : Heap) (locs : List Loc), tf_n tf_kt g M_X10_glass T s.heap T H locs → ∀ (ls : Array Slot), lv_has ls 8 [(0, .ref a0), (1, .int (Int32.ofInt x1)), (2, .int (Int32.ofInt x2_125)), (3, .int (Int32.ofInt x3_125)), (4, .int (Int32.ofInt x4_125)), (5, .int (Int32.ofInt x5_37))] → W p l e R s m args below meth c H locs 0 0 Q (F0 m 125 ls []) := by
        intro hx1_125 x2_125 hx2_125 x3_125 hx3_125 x4_125 hx4_125 hx5_125 H locs hW  ls hl
        refine lv_iinc (v := Int32.ofInt ((x5_37 + 1))) (lv' := [(5, .int (Int32.ofInt ((x5_37 + 1)))), (0, .ref a0), (1, .int (Int32.ofInt x1)), (2, .int (Int32.ofInt x2_125)), (3, .int (Int32.ofInt x3_125)), (4, .int (Int32.ofInt x4_125))]) hx hb dX10_glass_125 hl (k := 5) rfl (Int32.ofInt_add _ _).symm (by decide) rfl (fun ls hl => ?_)
        refine lv_goto (tgt := 37) hx hb dX10_glass_128 (by decide) ?_
        exact ih_37 ⟨by omega, by omega⟩ (x2_125) ⟨by omega, by omega⟩ (x3_125) ⟨by omega, by omega⟩ (x4_125) ⟨by omega, by omega⟩ ((x5_37 + 1)) ⟨by omega, by omega⟩ (by omega) _ _ hW  _ (lv_sub hl [1, 2, 3, 4, 5, 0] rfl)
      have j_120 : 0 ≤ x1 ∧ x1 ≤ 2 → ∀ (x3_120 : Int), (-2147483648) ≤ x3_120 ∧ x3_120 ≤ 2147483647 → 0 ≤ x5_37 ∧ x5_37 ≤ 2147483646 → ∀ (x6_120 : Int), 0 ≤ x6_120 ∧ x6_120 ≤ 12 → ∀ (y0_120 : Int), (-1) ≤ y0_120 ∧ y0_120 ≤ 2147483646 → ∀ (H : Heap) (locs : List Loc), tf_n tf_kt g M_X10_glass T s.heap T H locs → ∀ (ls : Array Slot), lv_has ls 8 [(0, .ref a0), (1, .int (Int32.ofInt x1)), (3, .int (Int32.ofInt x3_120)), (5, .int (Int32.ofInt x5_37)), (6, .int (Int32.ofInt x6_120))] → W p l e R s m args below meth c H locs 0 0 Q (F0 m 120 ls [.int (Int32.ofInt y0_120)]) := by
        intro hx1_120 x3_120 hx3_120 hx5_120 x6_120 hx6_120 y0_120 hy0_120 H locs hW  ls hl
        refine lv_istore (lv' := [(4, .int (Int32.ofInt y0_120)), (0, .ref a0), (1, .int (Int32.ofInt x1)), (3, .int (Int32.ofInt x3_120)), (5, .int (Int32.ofInt x5_37)), (6, .int (Int32.ofInt x6_120))]) hx hb dX10_glass_120 hl (by decide) rfl (fun ls hl => ?_)
        refine lv_iload hx hb dX10_glass_122 (lv_at hl 5 rfl) ?_
        refine lv_istore_n (lv' := [(2, .int (Int32.ofInt x6_120)), (4, .int (Int32.ofInt y0_120)), (0, .ref a0), (1, .int (Int32.ofInt x1)), (3, .int (Int32.ofInt x3_120)), (5, .int (Int32.ofInt x5_37)), (6, .int (Int32.ofInt x6_120))]) hx hb dX10_glass_124 rfl hl (by decide) rfl (fun ls hl => ?_)
        exact j_125 ⟨by omega, by omega⟩ (x6_120) ⟨by omega, by omega⟩ (x3_120) ⟨by omega, by omega⟩ (y0_120) ⟨by omega, by omega⟩ ⟨by omega, by omega⟩ _ _ hW  _ (lv_sub hl [2, 3, 0, 4, 1, 5] rfl)
      have j_107 : 0 ≤ x1 ∧ x1 ≤ 2 → (-1) ≤ x4_37 ∧ x4_37 ≤ 2147483646 → 0 ≤ x5_37 ∧ x5_37 ≤ 2147483646 → ∀ (x6_107 : Int), 0 ≤ x6_107 ∧ x6_107 ≤ 12 → ∀ (x7_107 : Int), 0 ≤ x7_107 ∧ x7_107 ≤ 1 → ∀ (y0_107 : Int), (-2147483648) ≤ y0_107 ∧ y0_107 ≤ 2147483647 → ∀ (H : Heap) (locs : List Loc), tf_n tf_kt g M_X10_glass T s.heap T H locs → ∀ (ls : Array Slot), lv_has ls 8 [(0, .ref a0), (1, .int (Int32.ofInt x1)), (4, .int (Int32.ofInt x4_37)), (5, .int (Int32.ofInt x5_37)), (6, .int (Int32.ofInt x6_107)), (7, .int (Int32.ofInt x7_107))] → W p l e R s m args below meth c H locs 0 0 Q (F0 m 107 ls [.int (Int32.ofInt y0_107)]) := by
        intro hx1_107 hx4_107 hx5_107 x6_107 hx6_107 x7_107 hx7_107 y0_107 hy0_107 H locs hW  ls hl
        refine lv_istore_n (lv' := [(3, .int (Int32.ofInt y0_107)), (0, .ref a0), (1, .int (Int32.ofInt x1)), (4, .int (Int32.ofInt x4_37)), (5, .int (Int32.ofInt x5_37)), (6, .int (Int32.ofInt x6_107)), (7, .int (Int32.ofInt x7_107))]) hx hb dX10_glass_107 rfl hl (by decide) rfl (fun ls hl => ?_)
        refine lv_iload hx hb dX10_glass_108 (lv_at hl 6 rfl) ?_
        refine tf_if_eq (tgt := 118) hx hb ⟨by omega, by omega⟩ dX10_glass_110 (by decide) (fun h1 => ?_) (fun h1 => ?_)
        · refine lv_iload hx hb dX10_glass_118 (lv_at hl 3 rfl) ?_
          exact j_120 ⟨by omega, by omega⟩ (y0_107) ⟨by omega, by omega⟩ ⟨by omega, by omega⟩ (x6_107) ⟨by omega, by omega⟩ (x4_37) ⟨by omega, by omega⟩ _ _ hW  _ (lv_sub hl [1, 2, 0, 4, 5] rfl)
        · refine lv_iload hx hb dX10_glass_113 (lv_at hl 4 rfl) ?_
          refine lv_goto (tgt := 120) hx hb dX10_glass_115 (by decide) ?_
          exact j_120 ⟨by omega, by omega⟩ (y0_107) ⟨by omega, by omega⟩ ⟨by omega, by omega⟩ (x6_107) ⟨by omega, by omega⟩ (x5_37) ⟨by omega, by omega⟩ _ _ hW  _ (lv_sub hl [1, 2, 0, 4, 5] rfl)
      have j_93 : 0 ≤ x1 ∧ x1 ≤ 2 → (-2147483648) ≤ x3_37 ∧ x3_37 ≤ 2147483647 → (-1) ≤ x4_37 ∧ x4_37 ≤ 2147483646 → 0 ≤ x5_37 ∧ x5_37 ≤ 2147483646 → ∀ (x6_93 : Int), 0 ≤ x6_93 ∧ x6_93 ≤ 12 → ∀ (y0_93 : Int), 0 ≤ y0_93 ∧ y0_93 ≤ 1 → ∀ (H : Heap) (locs : List Loc), tf_n tf_kt g M_X10_glass T s.heap T H locs → ∀ (ls : Array Slot), lv_has ls 8 [(0, .ref a0), (1, .int (Int32.ofInt x1)), (3, .int (Int32.ofInt x3_37)), (4, .int (Int32.ofInt x4_37)), (5, .int (Int32.ofInt x5_37)), (6, .int (Int32.ofInt x6_93))] → W p l e R s m args below meth c H locs 0 0 Q (F0 m 93 ls [.int (Int32.ofInt y0_93)]) := by
        intro hx1_93 hx3_93 hx4_93 hx5_93 x6_93 hx6_93 y0_93 hy0_93 H locs hW  ls hl
        refine lv_istore (lv' := [(7, .int (Int32.ofInt y0_93)), (0, .ref a0), (1, .int (Int32.ofInt x1)), (3, .int (Int32.ofInt x3_37)), (4, .int (Int32.ofInt x4_37)), (5, .int (Int32.ofInt x5_37)), (6, .int (Int32.ofInt x6_93))]) hx hb dX10_glass_93 hl (by decide) rfl (fun ls hl => ?_)
        refine lv_iload hx hb dX10_glass_95 (lv_at hl 0 rfl) ?_
        refine tf_if_eq (tgt := 104) hx hb ⟨by omega, by omega⟩ dX10_glass_97 (by decide) (fun h2 => ?_) (fun h2 => ?_)
        · refine lv_iload_n hx hb dX10_glass_104 rfl (lv_at hl 3 rfl) ?_
          refine tf_iconst hx hb dX10_glass_105 ?_
          refine tf_iadd_any hx hb dX10_glass_106 (fun z3 hz3 => ?_)
          exact j_107 ⟨by omega, by omega⟩ ⟨by omega, by omega⟩ ⟨by omega, by omega⟩ (x6_93) ⟨by omega, by omega⟩ (y0_93) ⟨by omega, by omega⟩ (z3) ⟨by omega, by omega⟩ _ _ hW  _ (lv_sub hl [1, 2, 4, 5, 6, 0] rfl)
        · refine tf_iconst hx hb dX10_glass_100 ?_
          refine lv_goto (tgt := 107) hx hb dX10_glass_101 (by decide) ?_
          exact j_107 ⟨by omega, by omega⟩ ⟨by omega, by omega⟩ ⟨by omega, by omega⟩ (x6_93) ⟨by omega, by omega⟩ (y0_93) ⟨by omega, by omega⟩ (1) ⟨by omega, by omega⟩ _ _ hW  _ (lv_sub hl [1, 2, 4, 5, 6, 0] rfl)
      have j_88 : 0 ≤ x1 ∧ x1 ≤ 2 → (-2147483648) ≤ x3_37 ∧ x3_37 ≤ 2147483647 → (-1) ≤ x4_37 ∧ x4_37 ≤ 2147483646 → 0 ≤ x5_37 ∧ x5_37 ≤ 2147483646 → ∀ (x6_88 : Int), 0 ≤ x6_88 ∧ x6_88 ≤ 12 → ∀ (H : Heap) (locs : List Loc), tf_n tf_kt g M_X10_glass T s.heap T H locs → ∀ (ls : Array Slot), lv_has ls 8 [(0, .ref a0), (1, .int (Int32.ofInt x1)), (3, .int (Int32.ofInt x3_37)), (4, .int (Int32.ofInt x4_37)), (5, .int (Int32.ofInt x5_37)), (6, .int (Int32.ofInt x6_88))] → W p l e R s m args below meth c H locs 0 0 Q (F0 m 88 ls []) := by
        intro hx1_88 hx3_88 hx4_88 hx5_88 x6_88 hx6_88 H locs hW  ls hl
        refine tf_iconst hx hb dX10_glass_88 ?_
        refine lv_goto (tgt := 93) hx hb dX10_glass_89 (by decide) ?_
        exact j_93 ⟨by omega, by omega⟩ ⟨by omega, by omega⟩ ⟨by omega, by omega⟩ ⟨by omega, by omega⟩ (x6_88) ⟨by omega, by omega⟩ (1) ⟨by omega, by omega⟩ _ _ hW  _ (lv_sub hl [0, 1, 2, 3, 4, 5] rfl)
      have j_68 : 0 ≤ x1 ∧ x1 ≤ 2 → (-1) ≤ x2_37 ∧ x2_37 ≤ 12 → (-2147483648) ≤ x3_37 ∧ x3_37 ≤ 2147483647 → (-1) ≤ x4_37 ∧ x4_37 ≤ 2147483646 → 0 ≤ x5_37 ∧ x5_37 ≤ 2147483646 → ∀ (x6_68 : Int), 0 ≤ x6_68 ∧ x6_68 ≤ 12 → ∀ (H : Heap) (locs : List Loc), tf_n tf_kt g M_X10_glass T s.heap T H locs → ∀ (ls : Array Slot), lv_has ls 8 [(0, .ref a0), (1, .int (Int32.ofInt x1)), (2, .int (Int32.ofInt x2_37)), (3, .int (Int32.ofInt x3_37)), (4, .int (Int32.ofInt x4_37)), (5, .int (Int32.ofInt x5_37)), (6, .int (Int32.ofInt x6_68))] → W p l e R s m args below meth c H locs 0 0 Q (F0 m 68 ls []) := by
        intro hx1_68 hx2_68 hx3_68 hx4_68 hx5_68 x6_68 hx6_68 H locs hW  ls hl
        refine lv_aload_n hx hb dX10_glass_68 rfl (lv_at hl 0 rfl) ?_
        refine lv_iload hx hb dX10_glass_69 (lv_at hl 5 rfl) ?_
        refine tf_calli (va_runV (As := [.int (Int32.ofInt x5_37)]) (rest := []) ⟨hx, hb, hml, hown, hts⟩ (c_X10_isWatched l g T a0 ha0 (x5_37) ⟨by omega, by omega⟩) (cwV 1 hts gv_X10_464 rfl rfl rfl hd_X10_isWatched ⟨Nat.le_trans (by decide) hR1, Nat.le_trans (by decide) hR2⟩) (tf_preV hk hW ha0 (ci := 10) rfl rfl trivial) rfl rfl hl.1 rfl (lv_room (Nat.le_of_ble_eq_true rfl)) dX10_glass_71 ⟨Nat.zero_le _, Nat.zero_le _⟩) hW (by decide) (fun z4 H4 locs4 hW hF4 hp4 => ?_)
        have hp4 : z4 = 0 ∨ z4 = 1 := hp4
        refine tf_if_eq (tgt := 125) hx hb ⟨by omega, by omega⟩ dX10_glass_74 (by decide) (fun h5 => ?_) (fun h5 => ?_)
        · exact j_125 ⟨by omega, by omega⟩ (x2_37) ⟨by omega, by omega⟩ (x3_37) ⟨by omega, by omega⟩ (x4_37) ⟨by omega, by omega⟩ ⟨by omega, by omega⟩ _ _ hW  _ (lv_sub hl [0, 1, 2, 3, 4, 5] rfl)
        · refine lv_iload_n hx hb dX10_glass_77 rfl (lv_at hl 2 rfl) ?_
          refine tf_iconst hx hb dX10_glass_78 ?_
          refine tf_icmp_eq (tgt := 88) hx hb ⟨by omega, by omega⟩ ⟨by decide, by decide⟩ dX10_glass_79 (by decide) (fun h6 => ?_) (fun h6 => ?_)
          · exact j_88 ⟨by omega, by omega⟩ ⟨by omega, by omega⟩ ⟨by omega, by omega⟩ ⟨by omega, by omega⟩ (x6_68) ⟨by omega, by omega⟩ _ _ hW  _ (lv_sub hl [0, 1, 3, 4, 5, 6] rfl)
          · refine lv_iload hx hb dX10_glass_82 (lv_at hl 6 rfl) ?_
            refine lv_iload_n hx hb dX10_glass_84 rfl (lv_at hl 2 rfl) ?_
            refine tf_icmp_ge (tgt := 92) hx hb ⟨by omega, by omega⟩ ⟨by omega, by omega⟩ dX10_glass_85 (by decide) (fun h7 => ?_) (fun h7 => ?_)
            · refine tf_iconst hx hb dX10_glass_92 ?_
              exact j_93 ⟨by omega, by omega⟩ ⟨by omega, by omega⟩ ⟨by omega, by omega⟩ ⟨by omega, by omega⟩ (x6_68) ⟨by omega, by omega⟩ (0) ⟨by omega, by omega⟩ _ _ hW  _ (lv_sub hl [0, 1, 3, 4, 5, 6] rfl)
            · exact j_88 ⟨by omega, by omega⟩ ⟨by omega, by omega⟩ ⟨by omega, by omega⟩ ⟨by omega, by omega⟩ (x6_68) ⟨by omega, by omega⟩ _ _ hW  _ (lv_sub hl [0, 1, 3, 4, 5, 6] rfl)
      refine lv_iload hx hb dX10_glass_37 (lv_at hl 5 rfl) ?_
      refine tf_iconst hx hb dX10_glass_39 ?_
      refine lv_aload_n hx hb dX10_glass_40 rfl (lv_at hl 0 rfl) ?_
      refine tf_get hx hb hts inlX10 hown hK (ci := 10) rfl hW ha0 rfl 3 rfl (by decide) (hts _ fl_X10_13) dX10_glass_41 (fun v8 hv8 hsv8 => ?_)
      obtain ⟨ad9, rfl, had9⟩ := tf_v1 hv8
      refine tf_iconst hx hb dX10_glass_44 ?_
      refine tf_iald (t0 := 0) hx hb hK hW had9 rfl rfl (by omega) (by omega) dX10_glass_45 (fun v10 hv10 hsv10 => ?_)
      obtain ⟨z11, rfl, hz11⟩ := tf_v0 hv10
      have hg12 := tf_rd4 (tf_ROof hW had9) hsv10 ⟨by omega, by omega⟩ (by omega)
      have hg13 := tf_rdM (tf_ROof hW had9) hsv10 ⟨by omega, by omega⟩ (by omega)
      refine tf_ishl_any hx hb dX10_glass_46 (fun z14 hz14 => ?_)
      refine tf_icmp_ge (tgt := 131) hx hb ⟨by omega, by omega⟩ ⟨by omega, by omega⟩ dX10_glass_47 (by decide) (fun h15 => ?_) (fun h15 => ?_)
      · refine lv_iload_n hx hb dX10_glass_131 rfl (lv_at hl 1 rfl) ?_
        refine tf_if_ne (tgt := 139) hx hb ⟨by omega, by omega⟩ dX10_glass_132 (by decide) (fun h16 => ?_) (fun h16 => ?_)
        · refine lv_iload_n hx hb dX10_glass_139 rfl (lv_at hl 1 rfl) ?_
          refine tf_iconst hx hb dX10_glass_140 ?_
          refine tf_icmp_ne (tgt := 149) hx hb ⟨by omega, by omega⟩ ⟨by decide, by decide⟩ dX10_glass_141 (by decide) (fun h17 => ?_) (fun h17 => ?_)
          · refine lv_iload_n hx hb dX10_glass_149 rfl (lv_at hl 3 rfl) ?_
            exact tf_reti (z := x3_37) hx hb hr hlocks hQ hW (show (-2147483648) ≤ (x3_37) ∧ (x3_37) ≤ 2147483647 by omega) dX10_glass_150
          · refine lv_iload hx hb dX10_glass_144 (lv_at hl 4 rfl) ?_
            refine lv_goto (tgt := 150) hx hb dX10_glass_146 (by decide) ?_
            exact tf_reti (z := x4_37) hx hb hr hlocks hQ hW (show (-2147483648) ≤ (x4_37) ∧ (x4_37) ≤ 2147483647 by omega) dX10_glass_150
        · refine lv_iload_n hx hb dX10_glass_135 rfl (lv_at hl 2 rfl) ?_
          refine lv_goto (tgt := 150) hx hb dX10_glass_136 (by decide) ?_
          exact tf_reti (z := x2_37) hx hb hr hlocks hQ hW (show (-2147483648) ≤ (x2_37) ∧ (x2_37) ≤ 2147483647 by omega) dX10_glass_150
      · refine lv_iload hx hb dX10_glass_50 (lv_at hl 5 rfl) ?_
        refine tf_calli (va_runS (As := [.int (Int32.ofInt x5_37)]) (rest := []) ⟨hx, hb, hml, hown, hts⟩ (c_X10_bits l g T (x5_37) ⟨by omega, by omega⟩) ⟨callB_of 1 hts (gw_ws cm_X10_bits) rfl rfl rfl (hts _ (tw1 (i := 5) rfl)) (hts _ (tw43 (i := 6) rfl)) hd_X10_bits.2 ⟨Nat.le_trans (by decide) hR1, Nat.le_trans (by decide) hR2⟩, hts _ (tw43 (i := 7) rfl)⟩ (tf_preS hk hW trivial) rfl rfl hl.1 rfl (lv_room (Nat.le_of_ble_eq_true rfl)) dX10_glass_52 ⟨Nat.zero_le _, Nat.zero_le _⟩) hW (by decide) (fun z18 H18 locs18 hW hF18 hp18 => ?_)
        obtain ⟨hp18_0, hp18_1⟩ := hp18
        refine lv_istore (lv' := [(6, .int (Int32.ofInt z18)), (0, .ref a0), (1, .int (Int32.ofInt x1)), (2, .int (Int32.ofInt x2_37)), (3, .int (Int32.ofInt x3_37)), (4, .int (Int32.ofInt x4_37)), (5, .int (Int32.ofInt x5_37))]) hx hb dX10_glass_55 hl (by decide) rfl (fun ls hl => ?_)
        refine lv_iload_n hx hb dX10_glass_57 rfl (lv_at hl 3 rfl) ?_
        refine tf_iconst hx hb dX10_glass_58 ?_
        refine tf_icmp_eq (tgt := 68) hx hb ⟨by omega, by omega⟩ ⟨by decide, by decide⟩ dX10_glass_59 (by decide) (fun h19 => ?_) (fun h19 => ?_)
        · exact j_68 ⟨by omega, by omega⟩ ⟨by omega, by omega⟩ ⟨by omega, by omega⟩ ⟨by omega, by omega⟩ ⟨by omega, by omega⟩ (z18) ⟨by omega, by omega⟩ _ _ hW  _ (lv_sub hl [1, 2, 3, 4, 5, 6, 0] rfl)
        · refine lv_iload hx hb dX10_glass_62 (lv_at hl 0 rfl) ?_
          refine lv_iload_n hx hb dX10_glass_64 rfl (lv_at hl 3 rfl) ?_
          refine tf_icmp_gt (tgt := 125) hx hb ⟨by omega, by omega⟩ ⟨by omega, by omega⟩ dX10_glass_65 (by decide) (fun h20 => ?_) (fun h20 => ?_)
          · exact j_125 ⟨by omega, by omega⟩ (x2_37) ⟨by omega, by omega⟩ (x3_37) ⟨by omega, by omega⟩ (x4_37) ⟨by omega, by omega⟩ ⟨by omega, by omega⟩ _ _ hW  _ (lv_sub hl [1, 2, 3, 4, 5, 6] rfl)
          · exact j_68 ⟨by omega, by omega⟩ ⟨by omega, by omega⟩ ⟨by omega, by omega⟩ ⟨by omega, by omega⟩ ⟨by omega, by omega⟩ (z18) ⟨by omega, by omega⟩ _ _ hW  _ (lv_sub hl [1, 2, 3, 4, 5, 6, 0] rfl)
  refine tf_enter (As := [.ref a0, .int (Int32.ofInt x1)]) hargs (Nat.le_of_ble_eq_true rfl) (fun ls hl => ?_)
  have hl : lv_has ls 8 [(0, .ref a0), (1, .int (Int32.ofInt x1))] := hl
  refine lv_aload_n hx hb dX10_glass_0 rfl (lv_at hl 0 rfl) ?_
  refine tf_iconst hx hb dX10_glass_1 ?_
  refine tf_put hx hb hts inlX10 tyX10 tyX10_ok nmX10 hown hK (ci := 10) rfl hW ha0 rfl rfl 0 rfl (by decide) (by decide) (hts _ fl_X10_103) rfl (tf_u0 (by omega) (by omega)) rfl rfl dX10_glass_2 (fun H21 locs21 hW hs21 ht21 hq21 => ?_)
  refine lv_iload_n hx hb dX10_glass_5 rfl (lv_at hl 1 rfl) ?_
  refine tf_i2l hx hb ⟨by omega, by omega⟩ dX10_glass_6 ?_
  refine tf_lconst (z := 0) hx hb dX10_glass_7 (by decide) ?_
  refine tf_ldc2 (z := 2) hx hb hown (hts _ kl_X10_171) (by decide) dX10_glass_8 ?_
  refine tf_calli (va_runS (As := [.long (Int64.ofInt x1), .long (Int64.ofInt 0), .long (Int64.ofInt 2)]) (rest := []) ⟨hx, hb, hml, hown, hts⟩ (c_X10_in l g T (x1) ⟨by omega, by omega⟩ (0) ⟨by omega, by omega⟩ (2) ⟨by omega, by omega⟩) ⟨callB_of 3 hts (gw_ws cm_X10_in) rfl rfl rfl (hts _ (tw1 (i := 5) rfl)) (hts _ (tw11 (i := 3) rfl)) hd_X10_in.2 ⟨Nat.le_trans (by decide) hR1, Nat.le_trans (by decide) hR2⟩, hts _ (tw11 (i := 4) rfl)⟩ (tf_preS hk hW trivial) rfl rfl hl.1 rfl (lv_room (Nat.le_of_ble_eq_true rfl)) dX10_glass_11 ⟨Nat.zero_le _, Nat.zero_le _⟩) hW (by decide) (fun z22 H22 locs22 hW hF22 hp22 => ?_)
  rcases hp22 with ⟨rfl, h23, h24⟩ | ⟨rfl, h25⟩
  · refine tf_if_ne (tgt := 19) hx hb ⟨by decide, by decide⟩ dX10_glass_14 (by decide) (fun h26 => ?_) (fun h26 => ?_)
    · refine lv_aload_n hx hb dX10_glass_19 rfl (lv_at hl 0 rfl) ?_
      refine tf_callv (va_runV (As := []) (rest := []) ⟨hx, hb, hml, hown, hts⟩ (c_X10_layAll l g T a0 ha0) (cwV 0 hts gv_X10_405 rfl rfl rfl hd_X10_layAll ⟨Nat.le_trans (by decide) hR1, Nat.le_trans (by decide) hR2⟩) (tf_preV hk hW ha0 (ci := 10) rfl rfl trivial) rfl rfl hl.1 rfl (lv_room (Nat.le_of_ble_eq_true rfl)) dX10_glass_20 ⟨Nat.zero_le _, Nat.zero_le _⟩) hW (by decide) (fun H27 locs27 hW hF27 hp27 => ?_)
      refine lv_aload_n hx hb dX10_glass_23 rfl (lv_at hl 0 rfl) ?_
      refine tf_callv (va_runV (As := []) (rest := []) ⟨hx, hb, hml, hown, hts⟩ (c_X10_findBad l g T a0 ha0) (cwV 0 hts gv_X10_425 rfl rfl rfl hd_X10_findBad ⟨Nat.le_trans (by decide) hR1, Nat.le_trans (by decide) hR2⟩) (tf_preV hk hW ha0 (ci := 10) rfl rfl trivial) rfl rfl hl.1 rfl (lv_room (Nat.le_of_ble_eq_true rfl)) dX10_glass_24 ⟨Nat.zero_le _, Nat.zero_le _⟩) hW (by decide) (fun H28 locs28 hW hF28 hp28 => ?_)
      refine tf_iconst hx hb dX10_glass_27 ?_
      refine lv_istore_n (lv' := [(2, .int (Int32.ofInt ((-1)))), (0, .ref a0), (1, .int (Int32.ofInt x1))]) hx hb dX10_glass_28 rfl hl (by decide) rfl (fun ls hl => ?_)
      refine tf_iconst hx hb dX10_glass_29 ?_
      refine lv_istore_n (lv' := [(3, .int (Int32.ofInt 0)), (2, .int (Int32.ofInt ((-1)))), (0, .ref a0), (1, .int (Int32.ofInt x1))]) hx hb dX10_glass_30 rfl hl (by decide) rfl (fun ls hl => ?_)
      refine tf_iconst hx hb dX10_glass_31 ?_
      refine lv_istore (lv' := [(4, .int (Int32.ofInt ((-1)))), (3, .int (Int32.ofInt 0)), (2, .int (Int32.ofInt ((-1)))), (0, .ref a0), (1, .int (Int32.ofInt x1))]) hx hb dX10_glass_32 hl (by decide) rfl (fun ls hl => ?_)
      refine tf_iconst hx hb dX10_glass_34 ?_
      refine lv_istore (lv' := [(5, .int (Int32.ofInt 0)), (4, .int (Int32.ofInt ((-1)))), (3, .int (Int32.ofInt 0)), (2, .int (Int32.ofInt ((-1)))), (0, .ref a0), (1, .int (Int32.ofInt x1))]) hx hb dX10_glass_35 hl (by decide) rfl (fun ls hl => ?_)
      exact j_37 ((2147483647 - 0 + 1 : Int)).toNat ⟨by omega, by omega⟩ ((-1)) ⟨by omega, by omega⟩ (0) ⟨by omega, by omega⟩ ((-1)) ⟨by omega, by omega⟩ (0) ⟨by omega, by omega⟩ (by omega) _ _ hW  _ (lv_sub hl [4, 5, 3, 2, 1, 0] rfl)
    · exfalso; omega
  · refine tf_if_ne (tgt := 19) hx hb ⟨by decide, by decide⟩ dX10_glass_14 (by decide) (fun h29 => ?_) (fun h29 => ?_)
    · exfalso; omega
    · refine tf_iconst hx hb dX10_glass_17 ?_
      exact tf_reti (z := (-1)) hx hb hr hlocks hQ hW (show (-2147483648) ≤ ((-1)) ∧ ((-1)) ≤ 2147483647 by omega) dX10_glass_18

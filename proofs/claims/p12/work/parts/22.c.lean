
abbrev M_X10_put : List (Nat × Nat) := [(27, 0), (28, 0), (50, 0), (50, 1)]
set_option maxHeartbeats 4000000 in
set_option maxRecDepth 100000 in
theorem c_X10_put (l : Launch) (g : tf_G) (T : tf_T) (a0 : Nat) (ha0 : T a0 = some (50, 0)) (x1 : Int) (hp1 : (-2147483648) ≤ x1 ∧ x1 ≤ 2147483647) (x2 : Int) (hp2 : (-2147483648) ≤ x2 ∧ x2 ≤ 2147483647) (x3 : Int) (hp3 : (-2147483648) ≤ x3 ∧ x3 ≤ 2147483647) : Met l yX10_put (cd_X10_put :: wsL_law) ({ frames := 4, cells := 0, slots := 0, locals := 96 }) (tf_P g T [.ref a0, .int (Int32.ofInt x1), .int (Int32.ofInt x2), .int (Int32.ofInt x3)] (fun H => True)) (tf_Qi g M_X10_put T (fun z _ _ => (-2147483648) ≤ z ∧ z ≤ 2147483647)) 0 0 (fun q => tf_B g ≤ q) := by
  refine Met.ofW (cc := cX10_put) (maxL := 4) (ret := (some .int)) (by decide) rfl ?_
  intro p e s m args below meth c s₁ B hml hv
  obtain ⟨hargs, hk, hW0, hB, hpre⟩ := hv
  have hx := B.exec
  have hb := B.bytes
  have hr := B.returns
  have hts : ∀ w ∈ wsL_law, w.before args s = true := fun w h => atoms_spec (ws := cd_X10_put :: wsL_law) B.pre w (List.mem_cons_of_mem _ h)
  have hown : s.vm.findClass RX10 = some m.cls := findClass_of_methodNamed B.named
  have hlocks := B.notSynchronized
  have hK := hk.1
  have hW := tf_n.start (M := M_X10_put) hW0 hB
  obtain ⟨Q, hQ⟩ : ∃ q, q = MQ below (tf_Qi g M_X10_put T (fun z _ _ => (-2147483648) ≤ z ∧ z ≤ 2147483647)) args s 0 0 (fun q => tf_B g ≤ q) := ⟨_, rfl⟩
  rw [← hQ]
  obtain ⟨R, hR⟩ : ∃ q, q = (headSpec (cd_X10_put :: wsL_law) ({ frames := 4, cells := 0, slots := 0, locals := 96 })).room := ⟨_, rfl⟩
  rw [← hR]
  have hR1 : 4 ≤ R.frames := by rw [hR]; exact Nat.le_refl _
  have hR2 : 96 ≤ R.locals := by rw [hR]; exact Nat.le_refl _
  have hR3 : 0 ≤ R.cells := by rw [hR]; exact Nat.le_refl _
  have hR4 : 0 ≤ R.slots := by rw [hR]; exact Nat.le_refl _
  have hin := (name_of_methodNamed B.named B.method).1
  clear hR B
  have j_47 : ∀ (H : Heap) (locs : List Loc), tf_n tf_kt g M_X10_put T s.heap T H locs → ∀ (ls : Array Slot), lv_has ls 4 [(0, .ref a0)] → W p l e R s m args below meth c H locs 0 0 Q (F0 m 47 ls []) := by
    intro  H locs hW  ls hl
    refine lv_aload_n hx hb dX10_put_47 rfl (lv_at hl 0 rfl) ?_
    refine tf_iconst hx hb dX10_put_48 ?_
    refine tf_calli (va_runV (As := [.int (Int32.ofInt ((-1)))]) (rest := []) ⟨hx, hb, hml, hown, hts⟩ (c_X10_tell l g T a0 ha0 ((-1)) ⟨by omega, by omega⟩) (cwV 1 hts gv_X10_117 rfl rfl rfl hd_X10_tell ⟨Nat.le_trans (by decide) hR1, Nat.le_trans (by decide) hR2⟩) (tf_preV hk hW ha0 (ci := 10) rfl rfl trivial) rfl rfl hl.1 rfl (lv_room (Nat.le_of_ble_eq_true rfl)) dX10_put_49 ⟨Nat.zero_le _, Nat.zero_le _⟩) hW (by decide) (fun z1 H1 locs1 hW hF1 hp1 => ?_)
    obtain ⟨hp1_0, hp1_1, hp1_2⟩ := hp1
    exact tf_reti (z := z1) hx hb hr hlocks hQ hW (show (-2147483648) ≤ (z1) ∧ (z1) ≤ 2147483647 by omega) dX10_put_52
  have j_41 : 0 ≤ x1 ∧ x1 ≤ 99 → 0 ≤ x2 ∧ x2 ≤ 2 → (-2147483648) ≤ x3 ∧ x3 ≤ 2147483647 → (-2147483648) ≤ x3 ∧ x3 ≤ 2147483647 → ∀ (y2_41 : Int), 3 ≤ y2_41 ∧ y2_41 ≤ 9 → ((x2 = 2 ∧ y2_41 = 3) ∨ (x2 ≠ 2 ∧ y2_41 = 9)) → ∀ (H : Heap) (locs : List Loc), tf_n tf_kt g M_X10_put T s.heap T H locs → ∀ (ls : Array Slot), lv_has ls 4 [(0, .ref a0), (1, .int (Int32.ofInt x1)), (2, .int (Int32.ofInt x2)), (3, .int (Int32.ofInt x3))] → W p l e R s m args below meth c H locs 0 0 Q (F0 m 41 ls [.long (Int64.ofInt y2_41), .long (Int64.ofInt 0), .long (Int64.ofInt x3)]) := by
    intro hx1_41 hx2_41 hx3_41 hy0_41 y2_41 hy2_41 hi0_41 H locs hW  ls hl
    refine tf_calli (va_runS (As := [.long (Int64.ofInt x3), .long (Int64.ofInt 0), .long (Int64.ofInt y2_41)]) (rest := []) ⟨hx, hb, hml, hown, hts⟩ (c_X10_in l g T (x3) ⟨by omega, by omega⟩ (0) ⟨by omega, by omega⟩ (y2_41) ⟨by omega, by omega⟩) ⟨callB_of 3 hts (gw_ws cm_X10_in) rfl rfl rfl (hts _ (tw1 (i := 5) rfl)) (hts _ (tw11 (i := 3) rfl)) hd_X10_in.2 ⟨Nat.le_trans (by decide) hR1, Nat.le_trans (by decide) hR2⟩, hts _ (tw11 (i := 4) rfl)⟩ (tf_preS hk hW trivial) rfl rfl hl.1 rfl (lv_room (Nat.le_of_ble_eq_true rfl)) dX10_put_41 ⟨Nat.zero_le _, Nat.zero_le _⟩) hW (by decide) (fun z2 H2 locs2 hW hF2 hp2 => ?_)
    rcases hp2 with ⟨rfl, h3, h4⟩ | ⟨rfl, h5⟩
    · refine tf_if_ne (tgt := 53) hx hb ⟨by decide, by decide⟩ dX10_put_44 (by decide) (fun h6 => ?_) (fun h6 => ?_)
      · refine lv_aload_n hx hb dX10_put_53 rfl (lv_at hl 0 rfl) ?_
        refine lv_iload_n hx hb dX10_put_54 rfl (lv_at hl 1 rfl) ?_
        refine tf_calli (va_runV (As := [.int (Int32.ofInt x1)]) (rest := []) ⟨hx, hb, hml, hown, hts⟩ (c_X10_towerOn l g T a0 ha0 (x1) ⟨by omega, by omega⟩) (cwV 1 hts gv_X10_136 rfl rfl rfl hd_X10_towerOn ⟨Nat.le_trans (by decide) hR1, Nat.le_trans (by decide) hR2⟩) (tf_preV hk hW ha0 (ci := 10) rfl rfl trivial) rfl rfl hl.1 rfl (lv_room (Nat.le_of_ble_eq_true rfl)) dX10_put_55 ⟨Nat.zero_le _, Nat.zero_le _⟩) hW (by decide) (fun z7 H7 locs7 hW hF7 hp7 => ?_)
        obtain ⟨hp7_0, hp7_1⟩ := hp7
        refine tf_iconst hx hb dX10_put_58 ?_
        refine tf_icmp_eq (tgt := 71) hx hb ⟨by omega, by omega⟩ ⟨by decide, by decide⟩ dX10_put_59 (by decide) (fun h8 => ?_) (fun h8 => ?_)
        · refine lv_aload_n hx hb dX10_put_71 rfl (lv_at hl 0 rfl) ?_
          refine tf_bipush hx hb dX10_put_72 (by decide) ?_
          refine tf_bipush hx hb dX10_put_74 (by decide) ?_
          refine lv_iload_n hx hb dX10_put_76 rfl (lv_at hl 2 rfl) ?_
          refine tf_imul hx hb dX10_put_77 ?_
          refine tf_iadd hx hb dX10_put_78 ?_
          refine lv_iload_n hx hb dX10_put_79 rfl (lv_at hl 1 rfl) ?_
          refine tf_iadd hx hb dX10_put_80 ?_
          refine lv_iload_n hx hb dX10_put_81 rfl (lv_at hl 3 rfl) ?_
          refine tf_calli (va_runV (As := [.int (Int32.ofInt (((41 + (100 * x2)) + x1))), .int (Int32.ofInt x3)]) (rest := []) ⟨hx, hb, hml, hown, hts⟩ (c_X10_change l g T a0 ha0 (((41 + (100 * x2)) + x1)) ⟨by omega, by omega⟩ (x3) ⟨by omega, by omega⟩ (by omega)) (cwV 2 hts gv_X10_168 rfl rfl rfl hd_X10_change ⟨Nat.le_trans (by decide) hR1, Nat.le_trans (by decide) hR2⟩) (tf_preV hk hW ha0 (ci := 10) rfl rfl trivial) rfl rfl hl.1 rfl (lv_room (Nat.le_of_ble_eq_true rfl)) dX10_put_82 ⟨Nat.zero_le _, Nat.zero_le _⟩) hW (by decide) (fun z9 H9 locs9 hW hF9 hp9 => ?_)
          obtain ⟨hp9_0, hp9_1⟩ := hp9
          exact tf_reti (z := z9) hx hb hr hlocks hQ hW (show (-2147483648) ≤ (z9) ∧ (z9) ≤ 2147483647 by omega) dX10_put_85
        · refine lv_aload_n hx hb dX10_put_62 rfl (lv_at hl 0 rfl) ?_
          refine tf_bipush hx hb dX10_put_63 (by decide) ?_
          refine tf_calli (va_runV (As := [.int (Int32.ofInt ((-3)))]) (rest := []) ⟨hx, hb, hml, hown, hts⟩ (c_X10_tell l g T a0 ha0 ((-3)) ⟨by omega, by omega⟩) (cwV 1 hts gv_X10_117 rfl rfl rfl hd_X10_tell ⟨Nat.le_trans (by decide) hR1, Nat.le_trans (by decide) hR2⟩) (tf_preV hk hW ha0 (ci := 10) rfl rfl trivial) rfl rfl hl.1 rfl (lv_room (Nat.le_of_ble_eq_true rfl)) dX10_put_65 ⟨Nat.zero_le _, Nat.zero_le _⟩) hW (by decide) (fun z10 H10 locs10 hW hF10 hp10 => ?_)
          obtain ⟨hp10_0, hp10_1, hp10_2⟩ := hp10
          refine lv_goto (tgt := 85) hx hb dX10_put_68 (by decide) ?_
          exact tf_reti (z := z10) hx hb hr hlocks hQ hW (show (-2147483648) ≤ (z10) ∧ (z10) ≤ 2147483647 by omega) dX10_put_85
      · exfalso; omega
    · refine tf_if_ne (tgt := 53) hx hb ⟨by decide, by decide⟩ dX10_put_44 (by decide) (fun h11 => ?_) (fun h11 => ?_)
      · exfalso; omega
      · exact j_47  _ _ hW  _ (lv_sub hl [0] rfl)
  refine tf_enter (As := [.ref a0, .int (Int32.ofInt x1), .int (Int32.ofInt x2), .int (Int32.ofInt x3)]) hargs (Nat.le_of_ble_eq_true rfl) (fun ls hl => ?_)
  have hl : lv_has ls 4 [(0, .ref a0), (1, .int (Int32.ofInt x1)), (2, .int (Int32.ofInt x2)), (3, .int (Int32.ofInt x3))] := hl
  refine lv_aload_n hx hb dX10_put_0 rfl (lv_at hl 0 rfl) ?_
  refine tf_iconst hx hb dX10_put_1 ?_
  refine tf_put hx hb hts inlX10 tyX10 tyX10_ok nmX10 hown hK (ci := 10) rfl hW ha0 rfl rfl 0 rfl (by decide) (by decide) (hts _ fl_X10_103) rfl (tf_u0 (by omega) (by omega)) rfl rfl dX10_put_2 (fun H12 locs12 hW hs12 ht12 hq12 => ?_)
  refine lv_iload_n hx hb dX10_put_5 rfl (lv_at hl 1 rfl) ?_
  refine tf_calli (va_runS (As := [.int (Int32.ofInt x1)]) (rest := []) ⟨hx, hb, hml, hown, hts⟩ (c_X10_isCell l g T (x1) ⟨by omega, by omega⟩) ⟨callB_of 1 hts (gw_ws cm_X10_isCell) rfl rfl rfl (hts _ (tw1 (i := 5) rfl)) (hts _ (tw11 (i := 19) rfl)) hd_X10_isCell.2 ⟨Nat.le_trans (by decide) hR1, Nat.le_trans (by decide) hR2⟩, hts _ (tw11 (i := 20) rfl)⟩ (tf_preS hk hW trivial) rfl rfl hl.1 rfl (lv_room (Nat.le_of_ble_eq_true rfl)) dX10_put_6 ⟨Nat.zero_le _, Nat.zero_le _⟩) hW (by decide) (fun z13 H13 locs13 hW hF13 hp13 => ?_)
  rcases hp13 with ⟨rfl, h14, h15⟩ | ⟨rfl, h16⟩
  · refine tf_if_eq (tgt := 47) hx hb ⟨by decide, by decide⟩ dX10_put_9 (by decide) (fun h17 => ?_) (fun h17 => ?_)
    · exfalso; omega
    · refine lv_iload_n hx hb dX10_put_12 rfl (lv_at hl 2 rfl) ?_
      refine tf_i2l hx hb ⟨by omega, by omega⟩ dX10_put_13 ?_
      refine tf_lconst (z := 0) hx hb dX10_put_14 (by decide) ?_
      refine tf_ldc2 (z := 2) hx hb hown (hts _ kl_X10_171) (by decide) dX10_put_15 ?_
      refine tf_calli (va_runS (As := [.long (Int64.ofInt x2), .long (Int64.ofInt 0), .long (Int64.ofInt 2)]) (rest := []) ⟨hx, hb, hml, hown, hts⟩ (c_X10_in l g T (x2) ⟨by omega, by omega⟩ (0) ⟨by omega, by omega⟩ (2) ⟨by omega, by omega⟩) ⟨callB_of 3 hts (gw_ws cm_X10_in) rfl rfl rfl (hts _ (tw1 (i := 5) rfl)) (hts _ (tw11 (i := 3) rfl)) hd_X10_in.2 ⟨Nat.le_trans (by decide) hR1, Nat.le_trans (by decide) hR2⟩, hts _ (tw11 (i := 4) rfl)⟩ (tf_preS hk hW trivial) rfl rfl hl.1 rfl (lv_room (Nat.le_of_ble_eq_true rfl)) dX10_put_18 ⟨Nat.zero_le _, Nat.zero_le _⟩) hW (by decide) (fun z18 H18 locs18 hW hF18 hp18 => ?_)
      rcases hp18 with ⟨rfl, h19, h20⟩ | ⟨rfl, h21⟩
      · refine tf_if_eq (tgt := 47) hx hb ⟨by decide, by decide⟩ dX10_put_21 (by decide) (fun h22 => ?_) (fun h22 => ?_)
        · exfalso; omega
        · refine lv_iload_n hx hb dX10_put_24 rfl (lv_at hl 3 rfl) ?_
          refine tf_i2l hx hb ⟨by omega, by omega⟩ dX10_put_25 ?_
          refine tf_lconst (z := 0) hx hb dX10_put_26 (by decide) ?_
          refine lv_iload_n hx hb dX10_put_27 rfl (lv_at hl 2 rfl) ?_
          refine tf_iconst hx hb dX10_put_28 ?_
          refine tf_icmp_ne (tgt := 38) hx hb ⟨by omega, by omega⟩ ⟨by decide, by decide⟩ dX10_put_29 (by decide) (fun h23 => ?_) (fun h23 => ?_)
          · refine tf_ldc2 (z := 9) hx hb hown (hts _ kl_X10_142) (by decide) dX10_put_38 ?_
            exact j_41 ⟨by omega, by omega⟩ ⟨by omega, by omega⟩ ⟨by omega, by omega⟩ ⟨by omega, by omega⟩ (9) ⟨by omega, by omega⟩ (by omega) _ _ hW  _ (lv_sub hl [0, 1, 2, 3] rfl)
          · refine tf_ldc2 (z := 3) hx hb hown (hts _ kl_X10_122) (by decide) dX10_put_32 ?_
            refine lv_goto (tgt := 41) hx hb dX10_put_35 (by decide) ?_
            exact j_41 ⟨by omega, by omega⟩ ⟨by omega, by omega⟩ ⟨by omega, by omega⟩ ⟨by omega, by omega⟩ (3) ⟨by omega, by omega⟩ (by omega) _ _ hW  _ (lv_sub hl [0, 1, 2, 3] rfl)
      · refine tf_if_eq (tgt := 47) hx hb ⟨by decide, by decide⟩ dX10_put_21 (by decide) (fun h24 => ?_) (fun h24 => ?_)
        · exact j_47  _ _ hW  _ (lv_sub hl [0] rfl)
        · exfalso; omega
  · refine tf_if_eq (tgt := 47) hx hb ⟨by decide, by decide⟩ dX10_put_9 (by decide) (fun h25 => ?_) (fun h25 => ?_)
    · exact j_47  _ _ hW  _ (lv_sub hl [0] rfl)
    · exfalso; omega

abbrev M_X10_line : List (Nat × Nat) := [(27, 0), (28, 0), (50, 0), (50, 1)]
set_option maxHeartbeats 4000000 in
set_option maxRecDepth 100000 in
theorem c_X10_line (l : Launch) (g : tf_G) (T : tf_T) (a0 : Nat) (ha0 : T a0 = some (50, 0)) (x1 : Int) (hp1 : (-2147483648) ≤ x1 ∧ x1 ≤ 2147483647) (x2 : Int) (hp2 : (-2147483648) ≤ x2 ∧ x2 ≤ 2147483647) (x3 : Int) (hp3 : (-2147483648) ≤ x3 ∧ x3 ≤ 2147483647) : Met l yX10_line (cd_X10_line :: wsL_law) ({ frames := 3, cells := 0, slots := 0, locals := 69 }) (tf_P g T [.ref a0, .int (Int32.ofInt x1), .int (Int32.ofInt x2), .int (Int32.ofInt x3)] (fun H => True)) (tf_Qi g M_X10_line T (fun z _ _ => (-2147483648) ≤ z ∧ z ≤ 2147483647)) 0 0 (fun q => tf_B g ≤ q) := by
  refine Met.ofW (cc := cX10_line) (maxL := 5) (ret := (some .int)) (by decide) rfl ?_
  intro p e s m args below meth c s₁ B hml hv
  obtain ⟨hargs, hk, hW0, hB, hpre⟩ := hv
  have hx := B.exec
  have hb := B.bytes
  have hr := B.returns
  have hts : ∀ w ∈ wsL_law, w.before args s = true := fun w h => atoms_spec (ws := cd_X10_line :: wsL_law) B.pre w (List.mem_cons_of_mem _ h)
  have hown : s.vm.findClass RX10 = some m.cls := findClass_of_methodNamed B.named
  have hlocks := B.notSynchronized
  have hK := hk.1
  have hW := tf_n.start (M := M_X10_line) hW0 hB
  obtain ⟨Q, hQ⟩ : ∃ q, q = MQ below (tf_Qi g M_X10_line T (fun z _ _ => (-2147483648) ≤ z ∧ z ≤ 2147483647)) args s 0 0 (fun q => tf_B g ≤ q) := ⟨_, rfl⟩
  rw [← hQ]
  obtain ⟨R, hR⟩ : ∃ q, q = (headSpec (cd_X10_line :: wsL_law) ({ frames := 3, cells := 0, slots := 0, locals := 69 })).room := ⟨_, rfl⟩
  rw [← hR]
  have hR1 : 3 ≤ R.frames := by rw [hR]; exact Nat.le_refl _
  have hR2 : 69 ≤ R.locals := by rw [hR]; exact Nat.le_refl _
  have hR3 : 0 ≤ R.cells := by rw [hR]; exact Nat.le_refl _
  have hR4 : 0 ≤ R.slots := by rw [hR]; exact Nat.le_refl _
  have hin := (name_of_methodNamed B.named B.method).1
  clear hR B
  have j_49 : (-2147483648) ≤ x1 ∧ x1 ≤ 2147483647 → (-2147483648) ≤ x2 ∧ x2 ≤ 2147483647 → (-2147483648) ≤ x3 ∧ x3 ≤ 2147483647 → ∀ (y0_49 : Int), 0 ≤ y0_49 ∧ y0_49 ≤ 1 → (y0_49 = 0 ∨ (1 ≤ x1 ∧ x1 ≤ 3 ∧ 0 ≤ x2 ∧ x2 ≤ 1 ∧ 0 ≤ x3 ∧ x3 ≤ 9999)) → ∀ (H : Heap) (locs : List Loc), tf_n tf_kt g M_X10_line T s.heap T H locs → ∀ (ls : Array Slot), lv_has ls 5 [(0, .ref a0), (1, .int (Int32.ofInt x1)), (2, .int (Int32.ofInt x2)), (3, .int (Int32.ofInt x3))] → W p l e R s m args below meth c H locs 0 0 Q (F0 m 49 ls [.int (Int32.ofInt y0_49)]) := by
    intro hx1_49 hx2_49 hx3_49 y0_49 hy0_49 hi0_49 H locs hW  ls hl
    refine lv_istore (lv' := [(4, .int (Int32.ofInt y0_49)), (0, .ref a0), (1, .int (Int32.ofInt x1)), (2, .int (Int32.ofInt x2)), (3, .int (Int32.ofInt x3))]) hx hb dX10_line_49 hl (by decide) rfl (fun ls hl => ?_)
    refine lv_iload hx hb dX10_line_51 (lv_at hl 0 rfl) ?_
    refine tf_if_eq (tgt := 73) hx hb ⟨by omega, by omega⟩ dX10_line_53 (by decide) (fun h1 => ?_) (fun h1 => ?_)
    · refine lv_aload_n hx hb dX10_line_73 rfl (lv_at hl 1 rfl) ?_
      refine tf_iconst hx hb dX10_line_74 ?_
      refine tf_calli (va_runV (As := [.int (Int32.ofInt ((-1)))]) (rest := []) ⟨hx, hb, hml, hown, hts⟩ (c_X10_tell l g T a0 ha0 ((-1)) ⟨by omega, by omega⟩) (cwV 1 hts gv_X10_117 rfl rfl rfl hd_X10_tell ⟨Nat.le_trans (by decide) hR1, Nat.le_trans (by decide) hR2⟩) (tf_preV hk hW ha0 (ci := 10) rfl rfl trivial) rfl rfl hl.1 rfl (lv_room (Nat.le_of_ble_eq_true rfl)) dX10_line_75 ⟨Nat.zero_le _, Nat.zero_le _⟩) hW (by decide) (fun z2 H2 locs2 hW hF2 hp2 => ?_)
      obtain ⟨hp2_0, hp2_1, hp2_2⟩ := hp2
      exact tf_reti (z := z2) hx hb hr hlocks hQ hW (show (-2147483648) ≤ (z2) ∧ (z2) ≤ 2147483647 by omega) dX10_line_78
    · refine lv_aload_n hx hb dX10_line_56 rfl (lv_at hl 1 rfl) ?_
      refine tf_iconst hx hb dX10_line_57 ?_
      refine tf_iconst hx hb dX10_line_58 ?_
      refine lv_iload_n hx hb dX10_line_59 rfl (lv_at hl 2 rfl) ?_
      refine tf_iconst hx hb dX10_line_60 ?_
      refine tf_isub hx hb dX10_line_61 ?_
      refine tf_imul hx hb dX10_line_62 ?_
      refine tf_iadd hx hb dX10_line_63 ?_
      refine lv_iload_n hx hb dX10_line_64 rfl (lv_at hl 3 rfl) ?_
      refine tf_iadd hx hb dX10_line_65 ?_
      refine lv_iload_n hx hb dX10_line_66 rfl (lv_at hl 4 rfl) ?_
      refine tf_calli (va_runV (As := [.int (Int32.ofInt (((5 + (2 * (x1 - 1))) + x2))), .int (Int32.ofInt x3)]) (rest := []) ⟨hx, hb, hml, hown, hts⟩ (c_X10_change l g T a0 ha0 (((5 + (2 * (x1 - 1))) + x2)) ⟨by omega, by omega⟩ (x3) ⟨by omega, by omega⟩ (by omega)) (cwV 2 hts gv_X10_168 rfl rfl rfl hd_X10_change ⟨Nat.le_trans (by decide) hR1, Nat.le_trans (by decide) hR2⟩) (tf_preV hk hW ha0 (ci := 10) rfl rfl trivial) rfl rfl hl.1 rfl (lv_room (Nat.le_of_ble_eq_true rfl)) dX10_line_67 ⟨Nat.zero_le _, Nat.zero_le _⟩) hW (by decide) (fun z3 H3 locs3 hW hF3 hp3 => ?_)
      obtain ⟨hp3_0, hp3_1⟩ := hp3
      refine lv_goto (tgt := 78) hx hb dX10_line_70 (by decide) ?_
      exact tf_reti (z := z3) hx hb hr hlocks hQ hW (show (-2147483648) ≤ (z3) ∧ (z3) ≤ 2147483647 by omega) dX10_line_78
  have j_48 : (-2147483648) ≤ x1 ∧ x1 ≤ 2147483647 → (-2147483648) ≤ x2 ∧ x2 ≤ 2147483647 → (-2147483648) ≤ x3 ∧ x3 ≤ 2147483647 → ∀ (H : Heap) (locs : List Loc), tf_n tf_kt g M_X10_line T s.heap T H locs → ∀ (ls : Array Slot), lv_has ls 5 [(0, .ref a0), (1, .int (Int32.ofInt x1)), (2, .int (Int32.ofInt x2)), (3, .int (Int32.ofInt x3))] → W p l e R s m args below meth c H locs 0 0 Q (F0 m 48 ls []) := by
    intro hx1_48 hx2_48 hx3_48 H locs hW  ls hl
    refine tf_iconst hx hb dX10_line_48 ?_
    exact j_49 ⟨by omega, by omega⟩ ⟨by omega, by omega⟩ ⟨by omega, by omega⟩ (0) ⟨by omega, by omega⟩ (by omega) _ _ hW  _ (lv_sub hl [0, 1, 2, 3] rfl)
  have j_38 : 1 ≤ x1 ∧ x1 ≤ 3 → 0 ≤ x2 ∧ x2 ≤ 1 → (-2147483648) ≤ x3 ∧ x3 ≤ 2147483647 → (-2147483648) ≤ x3 ∧ x3 ≤ 2147483647 → ∀ (y2_38 : Int), 99 ≤ y2_38 ∧ y2_38 ≤ 9999 → ∀ (H : Heap) (locs : List Loc), tf_n tf_kt g M_X10_line T s.heap T H locs → ∀ (ls : Array Slot), lv_has ls 5 [(0, .ref a0), (1, .int (Int32.ofInt x1)), (2, .int (Int32.ofInt x2)), (3, .int (Int32.ofInt x3))] → W p l e R s m args below meth c H locs 0 0 Q (F0 m 38 ls [.long (Int64.ofInt y2_38), .long (Int64.ofInt 0), .long (Int64.ofInt x3)]) := by
    intro hx1_38 hx2_38 hx3_38 hy0_38 y2_38 hy2_38 H locs hW  ls hl
    refine tf_calli (va_runS (As := [.long (Int64.ofInt x3), .long (Int64.ofInt 0), .long (Int64.ofInt y2_38)]) (rest := []) ⟨hx, hb, hml, hown, hts⟩ (c_X10_in l g T (x3) ⟨by omega, by omega⟩ (0) ⟨by omega, by omega⟩ (y2_38) ⟨by omega, by omega⟩) ⟨callB_of 3 hts (gw_ws cm_X10_in) rfl rfl rfl (hts _ (tw1 (i := 5) rfl)) (hts _ (tw11 (i := 3) rfl)) hd_X10_in.2 ⟨Nat.le_trans (by decide) hR1, Nat.le_trans (by decide) hR2⟩, hts _ (tw11 (i := 4) rfl)⟩ (tf_preS hk hW trivial) rfl rfl hl.1 rfl (lv_room (Nat.le_of_ble_eq_true rfl)) dX10_line_38 ⟨Nat.zero_le _, Nat.zero_le _⟩) hW (by decide) (fun z4 H4 locs4 hW hF4 hp4 => ?_)
    rcases hp4 with ⟨rfl, h5, h6⟩ | ⟨rfl, h7⟩
    · refine tf_if_eq (tgt := 48) hx hb ⟨by decide, by decide⟩ dX10_line_41 (by decide) (fun h8 => ?_) (fun h8 => ?_)
      · exfalso; omega
      · refine tf_iconst hx hb dX10_line_44 ?_
        refine lv_goto (tgt := 49) hx hb dX10_line_45 (by decide) ?_
        exact j_49 ⟨by omega, by omega⟩ ⟨by omega, by omega⟩ ⟨by omega, by omega⟩ (1) ⟨by omega, by omega⟩ (by omega) _ _ hW  _ (lv_sub hl [0, 1, 2, 3] rfl)
    · refine tf_if_eq (tgt := 48) hx hb ⟨by decide, by decide⟩ dX10_line_41 (by decide) (fun h9 => ?_) (fun h9 => ?_)
      · exact j_48 ⟨by omega, by omega⟩ ⟨by omega, by omega⟩ ⟨by omega, by omega⟩ _ _ hW  _ (lv_sub hl [0, 1, 2, 3] rfl)
      · exfalso; omega
  refine tf_enter (As := [.ref a0, .int (Int32.ofInt x1), .int (Int32.ofInt x2), .int (Int32.ofInt x3)]) hargs (Nat.le_of_ble_eq_true rfl) (fun ls hl => ?_)
  have hl : lv_has ls 5 [(0, .ref a0), (1, .int (Int32.ofInt x1)), (2, .int (Int32.ofInt x2)), (3, .int (Int32.ofInt x3))] := hl
  refine lv_aload_n hx hb dX10_line_0 rfl (lv_at hl 0 rfl) ?_
  refine tf_iconst hx hb dX10_line_1 ?_
  refine tf_put hx hb hts inlX10 tyX10 tyX10_ok nmX10 hown hK (ci := 10) rfl hW ha0 rfl rfl 0 rfl (by decide) (by decide) (hts _ fl_X10_103) rfl (tf_u0 (by omega) (by omega)) rfl rfl dX10_line_2 (fun H10 locs10 hW hs10 ht10 hq10 => ?_)
  refine lv_iload_n hx hb dX10_line_5 rfl (lv_at hl 1 rfl) ?_
  refine tf_calli (va_runS (As := [.int (Int32.ofInt x1)]) (rest := []) ⟨hx, hb, hml, hown, hts⟩ (c_X10_isUse l g T (x1) ⟨by omega, by omega⟩) ⟨callB_of 1 hts (gw_ws cm_X10_isUse) rfl rfl rfl (hts _ (tw1 (i := 5) rfl)) (hts _ (tw16 (i := 10) rfl)) hd_X10_isUse.2 ⟨Nat.le_trans (by decide) hR1, Nat.le_trans (by decide) hR2⟩, hts _ (tw16 (i := 11) rfl)⟩ (tf_preS hk hW trivial) rfl rfl hl.1 rfl (lv_room (Nat.le_of_ble_eq_true rfl)) dX10_line_6 ⟨Nat.zero_le _, Nat.zero_le _⟩) hW (by decide) (fun z11 H11 locs11 hW hF11 hp11 => ?_)
  rcases hp11 with ⟨rfl, h12, h13⟩ | ⟨rfl, h14⟩
  · refine tf_if_eq (tgt := 48) hx hb ⟨by decide, by decide⟩ dX10_line_9 (by decide) (fun h15 => ?_) (fun h15 => ?_)
    · exfalso; omega
    · refine lv_iload_n hx hb dX10_line_12 rfl (lv_at hl 2 rfl) ?_
      refine tf_i2l hx hb ⟨by omega, by omega⟩ dX10_line_13 ?_
      refine tf_lconst (z := 0) hx hb dX10_line_14 (by decide) ?_
      refine tf_lconst (z := 1) hx hb dX10_line_15 (by decide) ?_
      refine tf_calli (va_runS (As := [.long (Int64.ofInt x2), .long (Int64.ofInt 0), .long (Int64.ofInt 1)]) (rest := []) ⟨hx, hb, hml, hown, hts⟩ (c_X10_in l g T (x2) ⟨by omega, by omega⟩ (0) ⟨by omega, by omega⟩ (1) ⟨by omega, by omega⟩) ⟨callB_of 3 hts (gw_ws cm_X10_in) rfl rfl rfl (hts _ (tw1 (i := 5) rfl)) (hts _ (tw11 (i := 3) rfl)) hd_X10_in.2 ⟨Nat.le_trans (by decide) hR1, Nat.le_trans (by decide) hR2⟩, hts _ (tw11 (i := 4) rfl)⟩ (tf_preS hk hW trivial) rfl rfl hl.1 rfl (lv_room (Nat.le_of_ble_eq_true rfl)) dX10_line_16 ⟨Nat.zero_le _, Nat.zero_le _⟩) hW (by decide) (fun z16 H16 locs16 hW hF16 hp16 => ?_)
      rcases hp16 with ⟨rfl, h17, h18⟩ | ⟨rfl, h19⟩
      · refine tf_if_eq (tgt := 48) hx hb ⟨by decide, by decide⟩ dX10_line_19 (by decide) (fun h20 => ?_) (fun h20 => ?_)
        · exfalso; omega
        · refine lv_iload_n hx hb dX10_line_22 rfl (lv_at hl 3 rfl) ?_
          refine tf_i2l hx hb ⟨by omega, by omega⟩ dX10_line_23 ?_
          refine tf_lconst (z := 0) hx hb dX10_line_24 (by decide) ?_
          refine lv_iload_n hx hb dX10_line_25 rfl (lv_at hl 2 rfl) ?_
          refine tf_if_ne (tgt := 35) hx hb ⟨by omega, by omega⟩ dX10_line_26 (by decide) (fun h21 => ?_) (fun h21 => ?_)
          · refine tf_ldc2 (z := 9999) hx hb hown (hts _ kl_X10_176) (by decide) dX10_line_35 ?_
            exact j_38 ⟨by omega, by omega⟩ ⟨by omega, by omega⟩ ⟨by omega, by omega⟩ ⟨by omega, by omega⟩ (9999) ⟨by omega, by omega⟩ _ _ hW  _ (lv_sub hl [0, 1, 2, 3] rfl)
          · refine tf_ldc2 (z := 99) hx hb hown (hts _ kl_X10_120) (by decide) dX10_line_29 ?_
            refine lv_goto (tgt := 38) hx hb dX10_line_32 (by decide) ?_
            exact j_38 ⟨by omega, by omega⟩ ⟨by omega, by omega⟩ ⟨by omega, by omega⟩ ⟨by omega, by omega⟩ (99) ⟨by omega, by omega⟩ _ _ hW  _ (lv_sub hl [0, 1, 2, 3] rfl)
      · refine tf_if_eq (tgt := 48) hx hb ⟨by decide, by decide⟩ dX10_line_19 (by decide) (fun h22 => ?_) (fun h22 => ?_)
        · exact j_48 ⟨by omega, by omega⟩ ⟨by omega, by omega⟩ ⟨by omega, by omega⟩ _ _ hW  _ (lv_sub hl [0, 1, 2, 3] rfl)
        · exfalso; omega
  · refine tf_if_eq (tgt := 48) hx hb ⟨by decide, by decide⟩ dX10_line_9 (by decide) (fun h23 => ?_) (fun h23 => ?_)
    · exact j_48 ⟨by omega, by omega⟩ ⟨by omega, by omega⟩ ⟨by omega, by omega⟩ _ _ hW  _ (lv_sub hl [0, 1, 2, 3] rfl)
    · exfalso; omega

abbrev M_X10_hours : List (Nat × Nat) := [(27, 0), (28, 0), (50, 0), (50, 1)]
set_option maxHeartbeats 4000000 in
set_option maxRecDepth 100000 in
theorem c_X10_hours (l : Launch) (g : tf_G) (T : tf_T) (a0 : Nat) (ha0 : T a0 = some (50, 0)) (x1 : Int) (hp1 : (-2147483648) ≤ x1 ∧ x1 ≤ 2147483647) (x2 : Int) (hp2 : (-2147483648) ≤ x2 ∧ x2 ≤ 2147483647) (x3 : Int) (hp3 : (-2147483648) ≤ x3 ∧ x3 ≤ 2147483647) : Met l yX10_hours (cd_X10_hours :: wsL_law) ({ frames := 3, cells := 0, slots := 0, locals := 69 }) (tf_P g T [.ref a0, .int (Int32.ofInt x1), .int (Int32.ofInt x2), .int (Int32.ofInt x3)] (fun H => True)) (tf_Qi g M_X10_hours T (fun z _ _ => (-2147483648) ≤ z ∧ z ≤ 2147483647)) 0 0 (fun q => tf_B g ≤ q) := by
  refine Met.ofW (cc := cX10_hours) (maxL := 4) (ret := (some .int)) (by decide) rfl ?_
  intro p e s m args below meth c s₁ B hml hv
  obtain ⟨hargs, hk, hW0, hB, hpre⟩ := hv
  have hx := B.exec
  have hb := B.bytes
  have hr := B.returns
  have hts : ∀ w ∈ wsL_law, w.before args s = true := fun w h => atoms_spec (ws := cd_X10_hours :: wsL_law) B.pre w (List.mem_cons_of_mem _ h)
  have hown : s.vm.findClass RX10 = some m.cls := findClass_of_methodNamed B.named
  have hlocks := B.notSynchronized
  have hK := hk.1
  have hW := tf_n.start (M := M_X10_hours) hW0 hB
  obtain ⟨Q, hQ⟩ : ∃ q, q = MQ below (tf_Qi g M_X10_hours T (fun z _ _ => (-2147483648) ≤ z ∧ z ≤ 2147483647)) args s 0 0 (fun q => tf_B g ≤ q) := ⟨_, rfl⟩
  rw [← hQ]
  obtain ⟨R, hR⟩ : ∃ q, q = (headSpec (cd_X10_hours :: wsL_law) ({ frames := 3, cells := 0, slots := 0, locals := 69 })).room := ⟨_, rfl⟩
  rw [← hR]
  have hR1 : 3 ≤ R.frames := by rw [hR]; exact Nat.le_refl _
  have hR2 : 69 ≤ R.locals := by rw [hR]; exact Nat.le_refl _
  have hR3 : 0 ≤ R.cells := by rw [hR]; exact Nat.le_refl _
  have hR4 : 0 ≤ R.slots := by rw [hR]; exact Nat.le_refl _
  have hin := (name_of_methodNamed B.named B.method).1
  clear hR B
  have j_54 : ∀ (H : Heap) (locs : List Loc), tf_n tf_kt g M_X10_hours T s.heap T H locs → ∀ (ls : Array Slot), lv_has ls 4 [(0, .ref a0)] → W p l e R s m args below meth c H locs 0 0 Q (F0 m 54 ls []) := by
    intro  H locs hW  ls hl
    refine lv_aload_n hx hb dX10_hours_54 rfl (lv_at hl 0 rfl) ?_
    refine tf_iconst hx hb dX10_hours_55 ?_
    refine tf_calli (va_runV (As := [.int (Int32.ofInt ((-1)))]) (rest := []) ⟨hx, hb, hml, hown, hts⟩ (c_X10_tell l g T a0 ha0 ((-1)) ⟨by omega, by omega⟩) (cwV 1 hts gv_X10_117 rfl rfl rfl hd_X10_tell ⟨Nat.le_trans (by decide) hR1, Nat.le_trans (by decide) hR2⟩) (tf_preV hk hW ha0 (ci := 10) rfl rfl trivial) rfl rfl hl.1 rfl (lv_room (Nat.le_of_ble_eq_true rfl)) dX10_hours_56 ⟨Nat.zero_le _, Nat.zero_le _⟩) hW (by decide) (fun z1 H1 locs1 hW hF1 hp1 => ?_)
    obtain ⟨hp1_0, hp1_1, hp1_2⟩ := hp1
    exact tf_reti (z := z1) hx hb hr hlocks hQ hW (show (-2147483648) ≤ (z1) ∧ (z1) ≤ 2147483647 by omega) dX10_hours_59
  refine tf_enter (As := [.ref a0, .int (Int32.ofInt x1), .int (Int32.ofInt x2), .int (Int32.ofInt x3)]) hargs (Nat.le_of_ble_eq_true rfl) (fun ls hl => ?_)
  have hl : lv_has ls 4 [(0, .ref a0), (1, .int (Int32.ofInt x1)), (2, .int (Int32.ofInt x2)), (3, .int (Int32.ofInt x3))] := hl
  refine lv_aload_n hx hb dX10_hours_0 rfl (lv_at hl 0 rfl) ?_
  refine tf_iconst hx hb dX10_hours_1 ?_
  refine tf_put hx hb hts inlX10 tyX10 tyX10_ok nmX10 hown hK (ci := 10) rfl hW ha0 rfl rfl 0 rfl (by decide) (by decide) (hts _ fl_X10_103) rfl (tf_u0 (by omega) (by omega)) rfl rfl dX10_hours_2 (fun H2 locs2 hW hs2 ht2 hq2 => ?_)
  refine lv_iload_n hx hb dX10_hours_5 rfl (lv_at hl 1 rfl) ?_
  refine tf_calli (va_runS (As := [.int (Int32.ofInt x1)]) (rest := []) ⟨hx, hb, hml, hown, hts⟩ (c_X10_isWay l g T (x1) ⟨by omega, by omega⟩) ⟨callB_of 1 hts (gw_ws cm_X10_isWay) rfl rfl rfl (hts _ (tw1 (i := 5) rfl)) (hts _ (tw17 (i := 8) rfl)) hd_X10_isWay.2 ⟨Nat.le_trans (by decide) hR1, Nat.le_trans (by decide) hR2⟩, hts _ (tw17 (i := 9) rfl)⟩ (tf_preS hk hW trivial) rfl rfl hl.1 rfl (lv_room (Nat.le_of_ble_eq_true rfl)) dX10_hours_6 ⟨Nat.zero_le _, Nat.zero_le _⟩) hW (by decide) (fun z3 H3 locs3 hW hF3 hp3 => ?_)
  rcases hp3 with ⟨rfl, h4, h5⟩ | ⟨rfl, h6⟩
  · refine tf_if_eq (tgt := 54) hx hb ⟨by decide, by decide⟩ dX10_hours_9 (by decide) (fun h7 => ?_) (fun h7 => ?_)
    · exfalso; omega
    · refine lv_iload_n hx hb dX10_hours_12 rfl (lv_at hl 2 rfl) ?_
      refine tf_i2l hx hb ⟨by omega, by omega⟩ dX10_hours_13 ?_
      refine tf_lconst (z := 0) hx hb dX10_hours_14 (by decide) ?_
      refine tf_ldc2 (z := 9) hx hb hown (hts _ kl_X10_142) (by decide) dX10_hours_15 ?_
      refine tf_calli (va_runS (As := [.long (Int64.ofInt x2), .long (Int64.ofInt 0), .long (Int64.ofInt 9)]) (rest := []) ⟨hx, hb, hml, hown, hts⟩ (c_X10_in l g T (x2) ⟨by omega, by omega⟩ (0) ⟨by omega, by omega⟩ (9) ⟨by omega, by omega⟩) ⟨callB_of 3 hts (gw_ws cm_X10_in) rfl rfl rfl (hts _ (tw1 (i := 5) rfl)) (hts _ (tw11 (i := 3) rfl)) hd_X10_in.2 ⟨Nat.le_trans (by decide) hR1, Nat.le_trans (by decide) hR2⟩, hts _ (tw11 (i := 4) rfl)⟩ (tf_preS hk hW trivial) rfl rfl hl.1 rfl (lv_room (Nat.le_of_ble_eq_true rfl)) dX10_hours_18 ⟨Nat.zero_le _, Nat.zero_le _⟩) hW (by decide) (fun z8 H8 locs8 hW hF8 hp8 => ?_)
      rcases hp8 with ⟨rfl, h9, h10⟩ | ⟨rfl, h11⟩
      · refine tf_if_eq (tgt := 54) hx hb ⟨by decide, by decide⟩ dX10_hours_21 (by decide) (fun h12 => ?_) (fun h12 => ?_)
        · exfalso; omega
        · refine lv_iload_n hx hb dX10_hours_24 rfl (lv_at hl 3 rfl) ?_
          refine tf_i2l hx hb ⟨by omega, by omega⟩ dX10_hours_25 ?_
          refine tf_lconst (z := 0) hx hb dX10_hours_26 (by decide) ?_
          refine tf_ldc2 (z := 999) hx hb hown (hts _ kl_X10_181) (by decide) dX10_hours_27 ?_
          refine tf_calli (va_runS (As := [.long (Int64.ofInt x3), .long (Int64.ofInt 0), .long (Int64.ofInt 999)]) (rest := []) ⟨hx, hb, hml, hown, hts⟩ (c_X10_in l g T (x3) ⟨by omega, by omega⟩ (0) ⟨by omega, by omega⟩ (999) ⟨by omega, by omega⟩) ⟨callB_of 3 hts (gw_ws cm_X10_in) rfl rfl rfl (hts _ (tw1 (i := 5) rfl)) (hts _ (tw11 (i := 3) rfl)) hd_X10_in.2 ⟨Nat.le_trans (by decide) hR1, Nat.le_trans (by decide) hR2⟩, hts _ (tw11 (i := 4) rfl)⟩ (tf_preS hk hW trivial) rfl rfl hl.1 rfl (lv_room (Nat.le_of_ble_eq_true rfl)) dX10_hours_30 ⟨Nat.zero_le _, Nat.zero_le _⟩) hW (by decide) (fun z13 H13 locs13 hW hF13 hp13 => ?_)
          rcases hp13 with ⟨rfl, h14, h15⟩ | ⟨rfl, h16⟩
          · refine tf_if_eq (tgt := 54) hx hb ⟨by decide, by decide⟩ dX10_hours_33 (by decide) (fun h17 => ?_) (fun h17 => ?_)
            · exfalso; omega
            · refine lv_aload_n hx hb dX10_hours_36 rfl (lv_at hl 0 rfl) ?_
              refine tf_sipush hx hb dX10_hours_37 (by decide) ?_
              refine tf_bipush hx hb dX10_hours_40 (by decide) ?_
              refine lv_iload_n hx hb dX10_hours_42 rfl (lv_at hl 1 rfl) ?_
              refine tf_imul hx hb dX10_hours_43 ?_
              refine tf_iadd hx hb dX10_hours_44 ?_
              refine lv_iload_n hx hb dX10_hours_45 rfl (lv_at hl 2 rfl) ?_
              refine tf_iadd hx hb dX10_hours_46 ?_
              refine lv_iload_n hx hb dX10_hours_47 rfl (lv_at hl 3 rfl) ?_
              refine tf_calli (va_runV (As := [.int (Int32.ofInt (((341 + (10 * x1)) + x2))), .int (Int32.ofInt x3)]) (rest := []) ⟨hx, hb, hml, hown, hts⟩ (c_X10_change l g T a0 ha0 (((341 + (10 * x1)) + x2)) ⟨by omega, by omega⟩ (x3) ⟨by omega, by omega⟩ (by omega)) (cwV 2 hts gv_X10_168 rfl rfl rfl hd_X10_change ⟨Nat.le_trans (by decide) hR1, Nat.le_trans (by decide) hR2⟩) (tf_preV hk hW ha0 (ci := 10) rfl rfl trivial) rfl rfl hl.1 rfl (lv_room (Nat.le_of_ble_eq_true rfl)) dX10_hours_48 ⟨Nat.zero_le _, Nat.zero_le _⟩) hW (by decide) (fun z18 H18 locs18 hW hF18 hp18 => ?_)
              obtain ⟨hp18_0, hp18_1⟩ := hp18
              refine lv_goto (tgt := 59) hx hb dX10_hours_51 (by decide) ?_
              exact tf_reti (z := z18) hx hb hr hlocks hQ hW (show (-2147483648) ≤ (z18) ∧ (z18) ≤ 2147483647 by omega) dX10_hours_59
          · refine tf_if_eq (tgt := 54) hx hb ⟨by decide, by decide⟩ dX10_hours_33 (by decide) (fun h19 => ?_) (fun h19 => ?_)
            · exact j_54  _ _ hW  _ (lv_sub hl [0] rfl)
            · exfalso; omega
      · refine tf_if_eq (tgt := 54) hx hb ⟨by decide, by decide⟩ dX10_hours_21 (by decide) (fun h20 => ?_) (fun h20 => ?_)
        · exact j_54  _ _ hW  _ (lv_sub hl [0] rfl)
        · exfalso; omega
  · refine tf_if_eq (tgt := 54) hx hb ⟨by decide, by decide⟩ dX10_hours_9 (by decide) (fun h21 => ?_) (fun h21 => ?_)
    · exact j_54  _ _ hW  _ (lv_sub hl [0] rfl)
    · exfalso; omega

abbrev M_X10_allHours : List (Nat × Nat) := []
set_option maxHeartbeats 4000000 in
set_option maxRecDepth 100000 in
theorem c_X10_allHours (l : Launch) (g : tf_G) (T : tf_T) (a0 : Nat) (ha0 : T a0 = some (50, 0)) (b0 : Nat) (hb0 : T b0 = some (28, 5830)) (r0 : Int → Int) : Met l yX10_allHours (cd_X10_allHours :: wsL_law) ({ frames := 1, cells := 0, slots := 0, locals := 24 }) (tf_P g T [.ref a0] (fun H => tf_s H a0 (g.1.2 10 3) = some (.ref b0) ∧ tf_rw H b0 = r0)) (tf_Qi g M_X10_allHours T (fun z _ _ => 0 ≤ z ∧ z ≤ 39960 ∧ z = tf_Su r0 0)) 0 0 (fun q => tf_B g ≤ q) := by
  refine Met.ofW (cc := cX10_allHours) (maxL := 3) (ret := (some .int)) (by decide) rfl ?_
  intro p e s m args below meth c s₁ B hml hv
  obtain ⟨hargs, hk, hW0, hB, hpre⟩ := hv
  obtain ⟨he0, he1⟩ := hpre
  have hx := B.exec
  have hb := B.bytes
  have hr := B.returns
  have hts : ∀ w ∈ wsL_law, w.before args s = true := fun w h => atoms_spec (ws := cd_X10_allHours :: wsL_law) B.pre w (List.mem_cons_of_mem _ h)
  have hown : s.vm.findClass RX10 = some m.cls := findClass_of_methodNamed B.named
  have hlocks := B.notSynchronized
  have hK := hk.1
  have hW := tf_n.start (M := M_X10_allHours) hW0 hB
  obtain ⟨Q, hQ⟩ : ∃ q, q = MQ below (tf_Qi g M_X10_allHours T (fun z _ _ => 0 ≤ z ∧ z ≤ 39960 ∧ z = tf_Su r0 0)) args s 0 0 (fun q => tf_B g ≤ q) := ⟨_, rfl⟩
  rw [← hQ]
  obtain ⟨R, hR⟩ : ∃ q, q = (headSpec (cd_X10_allHours :: wsL_law) ({ frames := 1, cells := 0, slots := 0, locals := 24 })).room := ⟨_, rfl⟩
  rw [← hR]
  have hR1 : 1 ≤ R.frames := by rw [hR]; exact Nat.le_refl _
  have hR2 : 24 ≤ R.locals := by rw [hR]; exact Nat.le_refl _
  have hR3 : 0 ≤ R.cells := by rw [hR]; exact Nat.le_refl _
  have hR4 : 0 ≤ R.slots := by rw [hR]; exact Nat.le_refl _
  have hin := (name_of_methodNamed B.named B.method).1
  clear hR B
  have j_4 : ∀ (n_4 : Nat), ∀ (x1_4 : Int), 0 ≤ x1_4 ∧ x1_4 ≤ 39960 → ∀ (x2_4 : Int), 0 ≤ x2_4 ∧ x2_4 ≤ 40 → (x1_4 ≤ 999 * x2_4) → (x1_4 + tf_Su r0 x2_4 = tf_Su r0 0) → (40 - x2_4 + 1 ≤ (n_4 : Int)) → ∀ (H : Heap) (locs : List Loc), tf_n tf_kt g M_X10_allHours T s.heap T H locs → tf_s H a0 (g.1.2 10 3) = some (.ref b0) → tf_rw H b0 = r0 → ∀ (ls : Array Slot), lv_has ls 3 [(0, .ref a0), (1, .int (Int32.ofInt x1_4)), (2, .int (Int32.ofInt x2_4))] → W p l e R s m args below meth c H locs 0 0 Q (F0 m 4 ls []) := by
    intro n_4
    induction n_4 with
    | zero =>
      intro x1_4 hx1_4 x2_4 hx2_4 hi0_4 hi1_4 hm_4
      exfalso; omega
    | succ n_4 ih_4 =>
      intro x1_4 hx1_4 x2_4 hx2_4 hi0_4 hi1_4 hm_4 H locs hW hs3_4 hcROW_4 ls hl
      refine lv_iload_n hx hb dX10_allHours_4 rfl (lv_at hl 2 rfl) ?_
      refine tf_bipush hx hb dX10_allHours_5 (by decide) ?_
      refine tf_icmp_ge (tgt := 29) hx hb ⟨by omega, by omega⟩ ⟨by decide, by decide⟩ dX10_allHours_7 (by decide) (fun h1 => ?_) (fun h1 => ?_)
      · have h40 : tf_Su r0 x2_4 = 0 := tf_Su_end r0 (by omega)
        refine lv_iload_n hx hb dX10_allHours_29 rfl (lv_at hl 1 rfl) ?_
        exact tf_reti (z := x1_4) hx hb hr hlocks hQ hW (show 0 ≤ (x1_4) ∧ (x1_4) ≤ 39960 ∧ (x1_4) = tf_Su r0 0 by omega) dX10_allHours_30
      · have hS := tf_Su_step r0 (k := x2_4) (by omega) (by omega)
        refine lv_iload_n hx hb dX10_allHours_10 rfl (lv_at hl 1 rfl) ?_
        refine lv_aload_n hx hb dX10_allHours_11 rfl (lv_at hl 0 rfl) ?_
        refine tf_get hx hb hts inlX10 hown hK (ci := 10) rfl hW ha0 rfl 3 rfl (by decide) (hts _ fl_X10_13) dX10_allHours_12 (fun v2 hv2 hsv2 => ?_)
        obtain rfl : v2 = .ref b0 := Option.some.inj (hsv2.symm.trans hs3_4)
        refine tf_sipush hx hb dX10_allHours_15 (by decide) ?_
        refine lv_iload_n hx hb dX10_allHours_18 rfl (lv_at hl 2 rfl) ?_
        refine tf_iadd hx hb dX10_allHours_19 ?_
        refine tf_iald (t0 := 0) hx hb hK hW hb0 rfl rfl (by omega) (by omega) dX10_allHours_20 (fun v3 hv3 hsv3 => ?_)
        obtain ⟨z4, rfl, hz4⟩ := tf_v0 hv3
        have er5 : r0 (341 + x2_4) = z4 := hcROW_4 ▸ tf_rw_of (by omega) hsv3 ⟨by omega, by omega⟩
        have hg6 := tf_rdH (tf_ROof hW hb0) hsv3 ⟨by omega, by omega⟩ (by omega)
        refine tf_iadd hx hb dX10_allHours_21 ?_
        refine lv_istore_n (lv' := [(1, .int (Int32.ofInt ((x1_4 + z4)))), (0, .ref a0), (2, .int (Int32.ofInt x2_4))]) hx hb dX10_allHours_22 rfl hl (by decide) rfl (fun ls hl => ?_)
        refine lv_iinc (v := Int32.ofInt ((x2_4 + 1))) (lv' := [(2, .int (Int32.ofInt ((x2_4 + 1)))), (1, .int (Int32.ofInt ((x1_4 + z4)))), (0, .ref a0)]) hx hb dX10_allHours_23 hl (k := 2) rfl (Int32.ofInt_add _ _).symm (by decide) rfl (fun ls hl => ?_)
        refine lv_goto (tgt := 4) hx hb dX10_allHours_26 (by decide) ?_
        exact ih_4 ((x1_4 + z4)) ⟨by omega, by omega⟩ ((x2_4 + 1)) ⟨by omega, by omega⟩ (by omega) (by omega) (by omega) _ _ hW hs3_4 hcROW_4 _ (lv_sub hl [2, 1, 0] rfl)
  refine tf_enter (As := [.ref a0]) hargs (Nat.le_of_ble_eq_true rfl) (fun ls hl => ?_)
  have hl : lv_has ls 3 [(0, .ref a0)] := hl
  refine tf_iconst hx hb dX10_allHours_0 ?_
  refine lv_istore_n (lv' := [(1, .int (Int32.ofInt 0)), (0, .ref a0)]) hx hb dX10_allHours_1 rfl hl (by decide) rfl (fun ls hl => ?_)
  refine tf_iconst hx hb dX10_allHours_2 ?_
  refine lv_istore_n (lv' := [(2, .int (Int32.ofInt 0)), (1, .int (Int32.ofInt 0)), (0, .ref a0)]) hx hb dX10_allHours_3 rfl hl (by decide) rfl (fun ls hl => ?_)
  exact j_4 ((40 - 0 + 1 : Int)).toNat (0) ⟨by omega, by omega⟩ (0) ⟨by omega, by omega⟩ (by omega) (by omega) (by omega) _ _ hW he0 he1 _ (lv_sub hl [2, 1, 0] rfl)

abbrev M_X10_row : List (Nat × Nat) := [(27, 0), (28, 0), (50, 0), (50, 1), (50, 6), (50, 8)]
set_option maxHeartbeats 4000000 in
set_option maxRecDepth 100000 in
theorem c_X10_row (l : Launch) (g : tf_G) (T : tf_T) (a0 : Nat) (ha0 : T a0 = some (50, 0)) : Met l yX10_row (cd_X10_row :: wsL_law) ({ frames := 2, cells := 0, slots := 0, locals := 46 }) (tf_P g T [.ref a0] (fun H => True)) (tf_Qi g M_X10_row T (fun z _ _ => (-2147483648) ≤ z ∧ z ≤ 2147483647)) 0 0 (fun q => tf_B g ≤ q) := by
  refine Met.ofW (cc := cX10_row) (maxL := 5) (ret := (some .int)) (by decide) rfl ?_
  intro p e s m args below meth c s₁ B hml hv
  obtain ⟨hargs, hk, hW0, hB, hpre⟩ := hv
  have hx := B.exec
  have hb := B.bytes
  have hr := B.returns
  have hts : ∀ w ∈ wsL_law, w.before args s = true := fun w h => atoms_spec (ws := cd_X10_row :: wsL_law) B.pre w (List.mem_cons_of_mem _ h)
  have hown : s.vm.findClass RX10 = some m.cls := findClass_of_methodNamed B.named
  have hlocks := B.notSynchronized
  have hK := hk.1
  have hW := tf_n.start (M := M_X10_row) hW0 hB
  obtain ⟨Q, hQ⟩ : ∃ q, q = MQ below (tf_Qi g M_X10_row T (fun z _ _ => (-2147483648) ≤ z ∧ z ≤ 2147483647)) args s 0 0 (fun q => tf_B g ≤ q) := ⟨_, rfl⟩
  rw [← hQ]
  obtain ⟨R, hR⟩ : ∃ q, q = (headSpec (cd_X10_row :: wsL_law) ({ frames := 2, cells := 0, slots := 0, locals := 46 })).room := ⟨_, rfl⟩
  rw [← hR]
  have hR1 : 2 ≤ R.frames := by rw [hR]; exact Nat.le_refl _
  have hR2 : 46 ≤ R.locals := by rw [hR]; exact Nat.le_refl _
  have hR3 : 0 ≤ R.cells := by rw [hR]; exact Nat.le_refl _
  have hR4 : 0 ≤ R.slots := by rw [hR]; exact Nat.le_refl _
  have hin := (name_of_methodNamed B.named B.method).1
  clear hR B
  have j_52 : ∀ (n_52 : Nat), ∀ (x2_52 : Int), 0 ≤ x2_52 ∧ x2_52 ≤ 80 → ∀ (x3_52 : Int), 0 ≤ x3_52 ∧ x3_52 ≤ 255 → (255 - x3_52 + 1 ≤ (n_52 : Int)) → ∀ (H : Heap) (locs : List Loc), tf_n tf_kt g M_X10_row T s.heap T H locs → ∀ (ls : Array Slot), lv_has ls 5 [(0, .ref a0), (2, .int (Int32.ofInt x2_52)), (3, .int (Int32.ofInt x3_52))] → W p l e R s m args below meth c H locs 0 0 Q (F0 m 52 ls []) := by
    intro n_52
    induction n_52 with
    | zero =>
      intro x2_52 hx2_52 x3_52 hx3_52 hm_52
      exfalso; omega
    | succ n_52 ih_52 =>
      intro x2_52 hx2_52 x3_52 hx3_52 hm_52 H locs hW  ls hl
      have j_105 : 1 ≤ x2_52 ∧ x2_52 ≤ 80 → 0 ≤ x3_52 ∧ x3_52 ≤ 99 → ∀ (b0_105 : Nat), T b0_105 = some (28, 5830) → ∀ (y1_105 : Int), 341 ≤ y1_105 ∧ y1_105 ≤ 380 → ∀ (y2_105 : Int), 0 ≤ y2_105 ∧ y2_105 ≤ 999 → ∀ (H : Heap) (locs : List Loc), tf_n tf_kt g M_X10_row T s.heap T H locs → ∀ (ls : Array Slot), lv_has ls 5 [(0, .ref a0), (2, .int (Int32.ofInt x2_52)), (3, .int (Int32.ofInt x3_52))] → W p l e R s m args below meth c H locs 0 0 Q (F0 m 105 ls [.int (Int32.ofInt y2_105), .int (Int32.ofInt y1_105), .ref b0_105]) := by
        intro hx2_105 hx3_105 b0_105 hb0_105 y1_105 hy1_105 y2_105 hy2_105 H locs hW  ls hl
        refine tf_rowst hx hb hK hW hb0_105 rfl (by omega) (by omega) (by decide) ⟨by omega, by omega⟩ (tf_RO_any (tf_ROof hW hb0_105) (by omega)) dX10_row_105 (fun H1 locs1 hW hu1 hq1 => ?_)
        refine lv_iinc (v := Int32.ofInt ((x3_52 + 2))) (lv' := [(3, .int (Int32.ofInt ((x3_52 + 2)))), (0, .ref a0), (2, .int (Int32.ofInt x2_52))]) hx hb dX10_row_106 hl (k := 2) rfl (Int32.ofInt_add _ _).symm (by decide) rfl (fun ls hl => ?_)
        refine lv_goto (tgt := 52) hx hb dX10_row_109 (by decide) ?_
        exact ih_52 (x2_52) ⟨by omega, by omega⟩ ((x3_52 + 2)) ⟨by omega, by omega⟩ (by omega) _ _ hW  _ (lv_sub hl [1, 2, 0] rfl)
      refine lv_iload_n hx hb dX10_row_52 rfl (lv_at hl 2 rfl) ?_
      refine lv_iload_n hx hb dX10_row_53 rfl (lv_at hl 1 rfl) ?_
      refine tf_icmp_ge (tgt := 112) hx hb ⟨by omega, by omega⟩ ⟨by omega, by omega⟩ dX10_row_54 (by decide) (fun h2 => ?_) (fun h2 => ?_)
      · refine lv_aload_n hx hb dX10_row_112 rfl (lv_at hl 0 rfl) ?_
        refine lv_aload_n hx hb dX10_row_113 rfl (lv_at hl 0 rfl) ?_
        obtain ⟨pv3, hpv3, hok3⟩ := tf_peek hW ha0 (ci := 10) rfl 3 rfl
        obtain ⟨ad4, rfl, had4⟩ := tf_v1 hok3
        obtain ⟨r5, hr5⟩ := tf_rname hW ad4
        have hro5 : tf_RO r5 := hr5 ▸ tf_ROof hW had4
        refine tf_calli (va_runV (As := []) (rest := [.ref a0]) ⟨hx, hb, hml, hown, hts⟩ (c_X10_allHours l g T a0 ha0 ad4 had4 r5) (cwV 0 hts gv_X10_189 rfl rfl rfl hd_X10_allHours ⟨Nat.le_trans (by decide) hR1, Nat.le_trans (by decide) hR2⟩) (tf_preV hk hW ha0 (ci := 10) rfl rfl ⟨hpv3, hr5⟩) rfl rfl hl.1 rfl (lv_room (Nat.le_of_ble_eq_true rfl)) dX10_row_114 ⟨Nat.zero_le _, Nat.zero_le _⟩) hW (by decide) (fun z6 H6 locs6 hW hF6 hp6 => ?_)
        have hs7 := tf_keepF hF6 ha0 rfl rfl (by decide) hpv3
        have hs8 := tf_keepC hF6 had4 rfl (by decide) hr5
        obtain ⟨hp6_0, hp6_1, hp6_2⟩ := hp6
        refine tf_calli (va_runV (As := [.int (Int32.ofInt z6)]) (rest := []) ⟨hx, hb, hml, hown, hts⟩ (c_X10_tell l g T a0 ha0 (z6) ⟨by omega, by omega⟩) (cwV 1 hts gv_X10_117 rfl rfl rfl hd_X10_tell ⟨Nat.le_trans (by decide) hR1, Nat.le_trans (by decide) hR2⟩) (tf_preV hk hW ha0 (ci := 10) rfl rfl trivial) rfl rfl hl.1 rfl (lv_room (Nat.le_of_ble_eq_true rfl)) dX10_row_117 ⟨Nat.zero_le _, Nat.zero_le _⟩) hW (by decide) (fun z9 H9 locs9 hW hF9 hp9 => ?_)
        have hs10 := tf_keepF hF9 ha0 rfl rfl (by decide) hs7
        have hs11 := tf_keepC hF9 had4 rfl (by decide) hs8
        obtain ⟨hp9_0, hp9_1, hp9_2⟩ := hp9
        exact tf_reti (z := z9) hx hb hr hlocks hQ hW (show (-2147483648) ≤ (z9) ∧ (z9) ≤ 2147483647 by omega) dX10_row_120
      · refine tf_sipush hx hb dX10_row_57 (by decide) ?_
        refine lv_aload_n hx hb dX10_row_60 rfl (lv_at hl 0 rfl) ?_
        refine tf_get hx hb hts inlX10 hown hK (ci := 10) rfl hW ha0 rfl 7 rfl (by decide) (hts _ fl_X10_23) dX10_row_61 (fun v12 hv12 hsv12 => ?_)
        obtain ⟨ad13, rfl, had13⟩ := tf_v1 hv12
        refine lv_iload_n hx hb dX10_row_64 rfl (lv_at hl 2 rfl) ?_
        refine tf_iald (t0 := 0) hx hb hK hW had13 rfl rfl (by omega) (by omega) dX10_row_65 (fun v14 hv14 hsv14 => ?_)
        obtain ⟨z15, rfl, hz15⟩ := tf_v0 hv14
        refine tf_imul hx hb dX10_row_66 ?_
        refine lv_aload_n hx hb dX10_row_67 rfl (lv_at hl 0 rfl) ?_
        refine tf_get hx hb hts inlX10 hown hK (ci := 10) rfl hW ha0 rfl 7 rfl (by decide) (hts _ fl_X10_23) dX10_row_68 (fun v16 hv16 hsv16 => ?_)
        obtain rfl : v16 = .ref ad13 := Option.some.inj (hsv16.symm.trans hsv12)
        refine lv_iload_n hx hb dX10_row_71 rfl (lv_at hl 2 rfl) ?_
        refine tf_iconst hx hb dX10_row_72 ?_
        refine tf_iadd hx hb dX10_row_73 ?_
        refine tf_iald (t0 := 0) hx hb hK hW had13 rfl rfl (by omega) (by omega) dX10_row_74 (fun v17 hv17 hsv17 => ?_)
        obtain ⟨z18, rfl, hz18⟩ := tf_v0 hv17
        refine tf_iadd hx hb dX10_row_75 ?_
        refine lv_istore (lv' := [(4, .int (Int32.ofInt (((256 * z15) + z18)))), (0, .ref a0), (2, .int (Int32.ofInt x2_52)), (3, .int (Int32.ofInt x3_52))]) hx hb dX10_row_76 hl (by decide) rfl (fun ls hl => ?_)
        refine lv_aload_n hx hb dX10_row_78 rfl (lv_at hl 1 rfl) ?_
        refine tf_get hx hb hts inlX10 hown hK (ci := 10) rfl hW ha0 rfl 3 rfl (by decide) (hts _ fl_X10_13) dX10_row_79 (fun v19 hv19 hsv19 => ?_)
        obtain ⟨ad20, rfl, had20⟩ := tf_v1 hv19
        refine tf_sipush hx hb dX10_row_82 (by decide) ?_
        refine lv_iload_n hx hb dX10_row_85 rfl (lv_at hl 3 rfl) ?_
        refine tf_iconst hx hb dX10_row_86 ?_
        refine tf_idiv hx hb ⟨by omega, by omega⟩ (by omega) ⟨by decide, by decide⟩ (by decide) dX10_row_87 ?_
        refine tf_name (fun z21 ez21 => ?_)
        refine tf_iadd hx hb dX10_row_88 ?_
        refine lv_iload hx hb dX10_row_89 (lv_at hl 0 rfl) ?_
        refine tf_sipush hx hb dX10_row_91 (by decide) ?_
        refine tf_icmp_le (tgt := 103) hx hb ⟨by omega, by omega⟩ ⟨by decide, by decide⟩ dX10_row_94 (by decide) (fun h22 => ?_) (fun h22 => ?_)
        · refine lv_iload hx hb dX10_row_103 (lv_at hl 0 rfl) ?_
          exact j_105 ⟨by omega, by omega⟩ ⟨by omega, by omega⟩ ad20 had20 ((341 + z21)) ⟨by omega, by omega⟩ (((256 * z15) + z18)) ⟨by omega, by omega⟩ _ _ hW  _ (lv_sub hl [1, 2, 3] rfl)
        · refine tf_sipush hx hb dX10_row_97 (by decide) ?_
          refine lv_goto (tgt := 105) hx hb dX10_row_100 (by decide) ?_
          exact j_105 ⟨by omega, by omega⟩ ⟨by omega, by omega⟩ ad20 had20 ((341 + z21)) ⟨by omega, by omega⟩ (999) ⟨by omega, by omega⟩ _ _ hW  _ (lv_sub hl [1, 2, 3] rfl)
  have j_42 : ∀ (x1_42 : Int), 1 ≤ x1_42 ∧ x1_42 ≤ 400 → ∀ (y0_42 : Int), 0 ≤ y0_42 ∧ y0_42 ≤ 80 → ∀ (H : Heap) (locs : List Loc), tf_n tf_kt g M_X10_row T s.heap T H locs → ∀ (ls : Array Slot), lv_has ls 5 [(0, .ref a0), (1, .int (Int32.ofInt x1_42))] → W p l e R s m args below meth c H locs 0 0 Q (F0 m 42 ls [.int (Int32.ofInt y0_42)]) := by
    intro x1_42 hx1_42 y0_42 hy0_42 H locs hW  ls hl
    refine lv_istore_n (lv' := [(2, .int (Int32.ofInt y0_42)), (0, .ref a0), (1, .int (Int32.ofInt x1_42))]) hx hb dX10_row_42 rfl hl (by decide) rfl (fun ls hl => ?_)
    refine lv_aload_n hx hb dX10_row_43 rfl (lv_at hl 1 rfl) ?_
    refine lv_iload_n hx hb dX10_row_44 rfl (lv_at hl 2 rfl) ?_
    refine lv_iload_n hx hb dX10_row_45 rfl (lv_at hl 0 rfl) ?_
    refine tf_isub hx hb dX10_row_46 ?_
    refine tf_put hx hb hts inlX10 tyX10 tyX10_ok nmX10 hown hK (ci := 10) rfl hW ha0 rfl rfl 6 rfl (by decide) (by decide) (hts _ fl_X10_186) rfl (tf_u0 (by omega) (by omega)) rfl rfl dX10_row_47 (fun H23 locs23 hW hs23 ht23 hq23 => ?_)
    refine tf_iconst hx hb dX10_row_50 ?_
    refine lv_istore_n (lv' := [(3, .int (Int32.ofInt 0)), (2, .int (Int32.ofInt y0_42)), (0, .ref a0), (1, .int (Int32.ofInt x1_42))]) hx hb dX10_row_51 rfl hl (by decide) rfl (fun ls hl => ?_)
    exact j_52 ((255 - 0 + 1 : Int)).toNat (y0_42) ⟨by omega, by omega⟩ (0) ⟨by omega, by omega⟩ (by omega) _ _ hW  _ (lv_sub hl [2, 1, 0] rfl)
  refine tf_enter (As := [.ref a0]) hargs (Nat.le_of_ble_eq_true rfl) (fun ls hl => ?_)
  have hl : lv_has ls 5 [(0, .ref a0)] := hl
  refine lv_aload_n hx hb dX10_row_0 rfl (lv_at hl 0 rfl) ?_
  refine tf_iconst hx hb dX10_row_1 ?_
  refine tf_put hx hb hts inlX10 tyX10 tyX10_ok nmX10 hown hK (ci := 10) rfl hW ha0 rfl rfl 0 rfl (by decide) (by decide) (hts _ fl_X10_103) rfl (tf_u0 (by omega) (by omega)) rfl rfl dX10_row_2 (fun H24 locs24 hW hs24 ht24 hq24 => ?_)
  refine lv_aload_n hx hb dX10_row_5 rfl (lv_at hl 0 rfl) ?_
  refine tf_get hx hb hts inlX10 hown hK (ci := 10) rfl hW ha0 rfl 8 rfl (by decide) (hts _ fl_X10_183) dX10_row_6 (fun v25 hv25 hsv25 => ?_)
  obtain ⟨z26, rfl, hz26⟩ := tf_v0 hv25
  refine lv_istore_n (lv' := [(1, .int (Int32.ofInt z26)), (0, .ref a0)]) hx hb dX10_row_9 rfl hl (by decide) rfl (fun ls hl => ?_)
  refine lv_aload_n hx hb dX10_row_10 rfl (lv_at hl 1 rfl) ?_
  refine tf_iconst hx hb dX10_row_11 ?_
  refine tf_put hx hb hts inlX10 tyX10 tyX10_ok nmX10 hown hK (ci := 10) rfl hW ha0 rfl rfl 8 rfl (by decide) (by decide) (hts _ fl_X10_183) rfl (tf_u0 (by omega) (by omega)) rfl rfl dX10_row_12 (fun H27 locs27 hW hs27 ht27 hq27 => ?_)
  refine lv_iload_n hx hb dX10_row_15 rfl (lv_at hl 0 rfl) ?_
  refine tf_if_ne (tgt := 26) hx hb ⟨by omega, by omega⟩ dX10_row_16 (by decide) (fun h28 => ?_) (fun h28 => ?_)
  · refine lv_iload_n hx hb dX10_row_26 rfl (lv_at hl 0 rfl) ?_
    refine tf_bipush hx hb dX10_row_27 (by decide) ?_
    refine tf_icmp_le (tgt := 37) hx hb ⟨by omega, by omega⟩ ⟨by decide, by decide⟩ dX10_row_29 (by decide) (fun h29 => ?_) (fun h29 => ?_)
    · refine lv_iload_n hx hb dX10_row_37 rfl (lv_at hl 0 rfl) ?_
      refine lv_iload_n hx hb dX10_row_38 rfl (lv_at hl 0 rfl) ?_
      refine tf_iconst hx hb dX10_row_39 ?_
      refine tf_irem hx hb ⟨by omega, by omega⟩ (by omega) ⟨by decide, by decide⟩ (by decide) dX10_row_40 ?_
      refine tf_name (fun z30 ez30 => ?_)
      refine tf_isub hx hb dX10_row_41 ?_
      exact j_42 (z26) ⟨by omega, by omega⟩ ((z26 - z30)) ⟨by omega, by omega⟩ _ _ hW  _ (lv_sub hl [1, 0] rfl)
    · refine tf_bipush hx hb dX10_row_32 (by decide) ?_
      refine lv_goto (tgt := 42) hx hb dX10_row_34 (by decide) ?_
      exact j_42 (z26) ⟨by omega, by omega⟩ (80) ⟨by omega, by omega⟩ _ _ hW  _ (lv_sub hl [1, 0] rfl)
  · refine lv_aload_n hx hb dX10_row_19 rfl (lv_at hl 1 rfl) ?_
    refine tf_bipush hx hb dX10_row_20 (by decide) ?_
    refine tf_calli (va_runV (As := [.int (Int32.ofInt ((-6)))]) (rest := []) ⟨hx, hb, hml, hown, hts⟩ (c_X10_tell l g T a0 ha0 ((-6)) ⟨by omega, by omega⟩) (cwV 1 hts gv_X10_117 rfl rfl rfl hd_X10_tell ⟨Nat.le_trans (by decide) hR1, Nat.le_trans (by decide) hR2⟩) (tf_preV hk hW ha0 (ci := 10) rfl rfl trivial) rfl rfl hl.1 rfl (lv_room (Nat.le_of_ble_eq_true rfl)) dX10_row_22 ⟨Nat.zero_le _, Nat.zero_le _⟩) hW (by decide) (fun z31 H31 locs31 hW hF31 hp31 => ?_)
    obtain ⟨hp31_0, hp31_1, hp31_2⟩ := hp31
    exact tf_reti (z := z31) hx hb hr hlocks hQ hW (show (-2147483648) ≤ (z31) ∧ (z31) ≤ 2147483647 by omega) dX10_row_25

abbrev M_X10_four : List (Nat × Nat) := [(31, 0), (50, 8)]
set_option maxHeartbeats 4000000 in
set_option maxRecDepth 100000 in
theorem c_X10_four (l : Launch) (g : tf_G) (T : tf_T) (a0 : Nat) (ha0 : T a0 = some (50, 0)) (x1 : Int) (hp1 : (-2147483648) ≤ x1 ∧ x1 ≤ 2147483647) (t0 : Int) (ht0 : 0 ≤ t0 ∧ t0 ≤ 396) : Met l yX10_four (cd_X10_four :: wsL_law) ({ frames := 1, cells := 0, slots := 0, locals := 24 }) (tf_P g T [.ref a0, .int (Int32.ofInt x1)] (fun H => tf_s H a0 (g.1.2 10 8) = some (.int (Int32.ofInt t0)))) (tf_Qv g M_X10_four T (fun _ H => tf_s H a0 (g.1.2 10 8) = some (.int (Int32.ofInt (t0 + 4))))) 0 0 (fun q => tf_B g ≤ q) := by
  refine Met.ofW (cc := cX10_four) (maxL := 3) (ret := none) (by decide) rfl ?_
  intro p e s m args below meth c s₁ B hml hv
  obtain ⟨hargs, hk, hW0, hB, hpre⟩ := hv
  have he0 := hpre
  have hx := B.exec
  have hb := B.bytes
  have hr := B.returns
  have hts : ∀ w ∈ wsL_law, w.before args s = true := fun w h => atoms_spec (ws := cd_X10_four :: wsL_law) B.pre w (List.mem_cons_of_mem _ h)
  have hown : s.vm.findClass RX10 = some m.cls := findClass_of_methodNamed B.named
  have hlocks := B.notSynchronized
  have hK := hk.1
  have hW := tf_n.start (M := M_X10_four) hW0 hB
  obtain ⟨Q, hQ⟩ : ∃ q, q = MQ below (tf_Qv g M_X10_four T (fun _ H => tf_s H a0 (g.1.2 10 8) = some (.int (Int32.ofInt (t0 + 4))))) args s 0 0 (fun q => tf_B g ≤ q) := ⟨_, rfl⟩
  rw [← hQ]
  obtain ⟨R, hR⟩ : ∃ q, q = (headSpec (cd_X10_four :: wsL_law) ({ frames := 1, cells := 0, slots := 0, locals := 24 })).room := ⟨_, rfl⟩
  rw [← hR]
  have hR1 : 1 ≤ R.frames := by rw [hR]; exact Nat.le_refl _
  have hR2 : 24 ≤ R.locals := by rw [hR]; exact Nat.le_refl _
  have hR3 : 0 ≤ R.cells := by rw [hR]; exact Nat.le_refl _
  have hR4 : 0 ≤ R.slots := by rw [hR]; exact Nat.le_refl _
  have hin := (name_of_methodNamed B.named B.method).1
  clear hR B
  refine tf_enter (As := [.ref a0, .int (Int32.ofInt x1)]) hargs (Nat.le_of_ble_eq_true rfl) (fun ls hl => ?_)
  have hl : lv_has ls 3 [(0, .ref a0), (1, .int (Int32.ofInt x1))] := hl
  refine tf_bipush hx hb dX10_four_0 (by decide) ?_
  refine lv_istore_n (lv' := [(2, .int (Int32.ofInt 24)), (0, .ref a0), (1, .int (Int32.ofInt x1))]) hx hb dX10_four_2 rfl hl (by decide) rfl (fun ls hl => ?_)
  refine lv_iload_n hx hb dX10_four_3 rfl (lv_at hl 0 rfl) ?_
  refine tf_if_lt (tgt := 39) hx hb ⟨by decide, by decide⟩ dX10_four_4 (by decide) (fun h1 => ?_) (fun h1 => ?_)
  · exfalso; omega
  · refine lv_aload_n hx hb dX10_four_7 rfl (lv_at hl 1 rfl) ?_
    refine tf_get hx hb hts inlX10 hown hK (ci := 10) rfl hW ha0 rfl 7 rfl (by decide) (hts _ fl_X10_23) dX10_four_8 (fun v2 hv2 hsv2 => ?_)
    obtain ⟨ad3, rfl, had3⟩ := tf_v1 hv2
    refine lv_aload_n hx hb dX10_four_11 rfl (lv_at hl 1 rfl) ?_
    refine tf_get hx hb hts inlX10 hown hK (ci := 10) rfl hW ha0 rfl 8 rfl (by decide) (hts _ fl_X10_183) dX10_four_12 (fun v4 hv4 hsv4 => ?_)
    obtain rfl : v4 = .int (Int32.ofInt t0) := Option.some.inj (hsv4.symm.trans he0)
    refine lv_iload_n hx hb dX10_four_15 rfl (lv_at hl 2 rfl) ?_
    refine lv_iload_n hx hb dX10_four_16 rfl (lv_at hl 0 rfl) ?_
    refine tf_ishr_k hx hb 24 128 (by decide) (by decide +kernel) (by decide) dX10_four_17 (fun z5 hz5 => ?_)
    refine tf_sipush hx hb dX10_four_18 (by decide) ?_
    refine tf_iand_mask hx hb 8 (by decide) (by decide +kernel) dX10_four_21 (fun z6 hz6 kz6 => ?_)
    refine tf_iast (t0 := 0) hx hb hK hW had3 rfl rfl (by omega) (by omega) (by decide) (tf_u0 (by omega) (by omega)) dX10_four_22 (fun H7 locs7 hW hs7 ht7 hq7 => ?_)
    have hs8 := tf_keepQ he0 (hq7 _ (tf_ne ha0 had3 (by decide)))
    have hs9 := tf_keepQ hsv2 (hq7 _ (tf_ne ha0 had3 (by decide)))
    refine lv_aload_n hx hb dX10_four_23 rfl (lv_at hl 1 rfl) ?_
    refine lv_dup hx hb dX10_four_24 rfl ?_
    refine tf_get hx hb hts inlX10 hown hK (ci := 10) rfl hW ha0 rfl 8 rfl (by decide) (hts _ fl_X10_183) dX10_four_25 (fun v10 hv10 hsv10 => ?_)
    obtain rfl : v10 = .int (Int32.ofInt t0) := Option.some.inj (hsv10.symm.trans hs8)
    refine tf_iconst hx hb dX10_four_28 ?_
    refine tf_iadd hx hb dX10_four_29 ?_
    refine tf_put hx hb hts inlX10 tyX10 tyX10_ok nmX10 hown hK (ci := 10) rfl hW ha0 rfl rfl 8 rfl (by decide) (by decide) (hts _ fl_X10_183) rfl (tf_u0 (by omega) (by omega)) rfl rfl dX10_four_30 (fun H11 locs11 hW hs11 ht11 hq11 => ?_)
    have hs12 := (ht11 7 (by decide) (by decide)).trans hs9
    refine lv_iinc (v := Int32.ofInt ((24 + (-8)))) (lv' := [(2, .int (Int32.ofInt ((24 + (-8))))), (0, .ref a0), (1, .int (Int32.ofInt x1))]) hx hb dX10_four_33 hl (k := 0) rfl (Int32.ofInt_add _ _).symm (by decide) rfl (fun ls hl => ?_)
    refine lv_goto (tgt := 3) hx hb dX10_four_36 (by decide) ?_
    refine lv_iload_n hx hb dX10_four_3 rfl (lv_at hl 0 rfl) ?_
    refine tf_if_lt (tgt := 39) hx hb ⟨by decide, by decide⟩ dX10_four_4 (by decide) (fun h13 => ?_) (fun h13 => ?_)
    · exfalso; omega
    · refine lv_aload_n hx hb dX10_four_7 rfl (lv_at hl 1 rfl) ?_
      refine tf_get hx hb hts inlX10 hown hK (ci := 10) rfl hW ha0 rfl 7 rfl (by decide) (hts _ fl_X10_23) dX10_four_8 (fun v14 hv14 hsv14 => ?_)
      obtain rfl : v14 = .ref ad3 := Option.some.inj (hsv14.symm.trans hs12)
      refine lv_aload_n hx hb dX10_four_11 rfl (lv_at hl 1 rfl) ?_
      refine tf_get hx hb hts inlX10 hown hK (ci := 10) rfl hW ha0 rfl 8 rfl (by decide) (hts _ fl_X10_183) dX10_four_12 (fun v15 hv15 hsv15 => ?_)
      obtain rfl : v15 = .int (Int32.ofInt ((t0 + 1))) := Option.some.inj (hsv15.symm.trans hs11)
      refine lv_iload_n hx hb dX10_four_15 rfl (lv_at hl 2 rfl) ?_
      refine lv_iload_n hx hb dX10_four_16 rfl (lv_at hl 0 rfl) ?_
      refine tf_ishr_k hx hb 16 32768 (by decide) (by decide +kernel) (by decide) dX10_four_17 (fun z16 hz16 => ?_)
      refine tf_sipush hx hb dX10_four_18 (by decide) ?_
      refine tf_iand_mask hx hb 8 (by decide) (by decide +kernel) dX10_four_21 (fun z17 hz17 kz17 => ?_)
      refine tf_iast (t0 := 0) hx hb hK hW had3 rfl rfl (by omega) (by omega) (by decide) (tf_u0 (by omega) (by omega)) dX10_four_22 (fun H18 locs18 hW hs18 ht18 hq18 => ?_)
      have hs19 := tf_keepQ hs12 (hq18 _ (tf_ne ha0 had3 (by decide)))
      have hs20 := tf_keepQ hs11 (hq18 _ (tf_ne ha0 had3 (by decide)))
      refine lv_aload_n hx hb dX10_four_23 rfl (lv_at hl 1 rfl) ?_
      refine lv_dup hx hb dX10_four_24 rfl ?_
      refine tf_get hx hb hts inlX10 hown hK (ci := 10) rfl hW ha0 rfl 8 rfl (by decide) (hts _ fl_X10_183) dX10_four_25 (fun v21 hv21 hsv21 => ?_)
      obtain rfl : v21 = .int (Int32.ofInt ((t0 + 1))) := Option.some.inj (hsv21.symm.trans hs20)
      refine tf_iconst hx hb dX10_four_28 ?_
      refine tf_iadd hx hb dX10_four_29 ?_
      refine tf_put hx hb hts inlX10 tyX10 tyX10_ok nmX10 hown hK (ci := 10) rfl hW ha0 rfl rfl 8 rfl (by decide) (by decide) (hts _ fl_X10_183) rfl (tf_u0 (by omega) (by omega)) rfl rfl dX10_four_30 (fun H22 locs22 hW hs22 ht22 hq22 => ?_)
      have hs23 := (ht22 7 (by decide) (by decide)).trans hs19
      refine lv_iinc (v := Int32.ofInt (((24 + (-8)) + (-8)))) (lv' := [(2, .int (Int32.ofInt (((24 + (-8)) + (-8))))), (0, .ref a0), (1, .int (Int32.ofInt x1))]) hx hb dX10_four_33 hl (k := 0) rfl (Int32.ofInt_add _ _).symm (by decide) rfl (fun ls hl => ?_)
      refine lv_goto (tgt := 3) hx hb dX10_four_36 (by decide) ?_
      refine lv_iload_n hx hb dX10_four_3 rfl (lv_at hl 0 rfl) ?_
      refine tf_if_lt (tgt := 39) hx hb ⟨by decide, by decide⟩ dX10_four_4 (by decide) (fun h24 => ?_) (fun h24 => ?_)
      · exfalso; omega
      · refine lv_aload_n hx hb dX10_four_7 rfl (lv_at hl 1 rfl) ?_
        refine tf_get hx hb hts inlX10 hown hK (ci := 10) rfl hW ha0 rfl 7 rfl (by decide) (hts _ fl_X10_23) dX10_four_8 (fun v25 hv25 hsv25 => ?_)
        obtain rfl : v25 = .ref ad3 := Option.some.inj (hsv25.symm.trans hs23)
        refine lv_aload_n hx hb dX10_four_11 rfl (lv_at hl 1 rfl) ?_
        refine tf_get hx hb hts inlX10 hown hK (ci := 10) rfl hW ha0 rfl 8 rfl (by decide) (hts _ fl_X10_183) dX10_four_12 (fun v26 hv26 hsv26 => ?_)
        obtain rfl : v26 = .int (Int32.ofInt (((t0 + 1) + 1))) := Option.some.inj (hsv26.symm.trans hs22)
        refine lv_iload_n hx hb dX10_four_15 rfl (lv_at hl 2 rfl) ?_
        refine lv_iload_n hx hb dX10_four_16 rfl (lv_at hl 0 rfl) ?_
        refine tf_ishr_k hx hb 8 8388608 (by decide) (by decide +kernel) (by decide) dX10_four_17 (fun z27 hz27 => ?_)
        refine tf_sipush hx hb dX10_four_18 (by decide) ?_
        refine tf_iand_mask hx hb 8 (by decide) (by decide +kernel) dX10_four_21 (fun z28 hz28 kz28 => ?_)
        refine tf_iast (t0 := 0) hx hb hK hW had3 rfl rfl (by omega) (by omega) (by decide) (tf_u0 (by omega) (by omega)) dX10_four_22 (fun H29 locs29 hW hs29 ht29 hq29 => ?_)
        have hs30 := tf_keepQ hs23 (hq29 _ (tf_ne ha0 had3 (by decide)))
        have hs31 := tf_keepQ hs22 (hq29 _ (tf_ne ha0 had3 (by decide)))
        refine lv_aload_n hx hb dX10_four_23 rfl (lv_at hl 1 rfl) ?_
        refine lv_dup hx hb dX10_four_24 rfl ?_
        refine tf_get hx hb hts inlX10 hown hK (ci := 10) rfl hW ha0 rfl 8 rfl (by decide) (hts _ fl_X10_183) dX10_four_25 (fun v32 hv32 hsv32 => ?_)
        obtain rfl : v32 = .int (Int32.ofInt (((t0 + 1) + 1))) := Option.some.inj (hsv32.symm.trans hs31)
        refine tf_iconst hx hb dX10_four_28 ?_
        refine tf_iadd hx hb dX10_four_29 ?_
        refine tf_put hx hb hts inlX10 tyX10 tyX10_ok nmX10 hown hK (ci := 10) rfl hW ha0 rfl rfl 8 rfl (by decide) (by decide) (hts _ fl_X10_183) rfl (tf_u0 (by omega) (by omega)) rfl rfl dX10_four_30 (fun H33 locs33 hW hs33 ht33 hq33 => ?_)
        have hs34 := (ht33 7 (by decide) (by decide)).trans hs30
        refine lv_iinc (v := Int32.ofInt ((((24 + (-8)) + (-8)) + (-8)))) (lv' := [(2, .int (Int32.ofInt ((((24 + (-8)) + (-8)) + (-8))))), (0, .ref a0), (1, .int (Int32.ofInt x1))]) hx hb dX10_four_33 hl (k := 0) rfl (Int32.ofInt_add _ _).symm (by decide) rfl (fun ls hl => ?_)
        refine lv_goto (tgt := 3) hx hb dX10_four_36 (by decide) ?_
        refine lv_iload_n hx hb dX10_four_3 rfl (lv_at hl 0 rfl) ?_
        refine tf_if_lt (tgt := 39) hx hb ⟨by decide, by decide⟩ dX10_four_4 (by decide) (fun h35 => ?_) (fun h35 => ?_)
        · exfalso; omega
        · refine lv_aload_n hx hb dX10_four_7 rfl (lv_at hl 1 rfl) ?_
          refine tf_get hx hb hts inlX10 hown hK (ci := 10) rfl hW ha0 rfl 7 rfl (by decide) (hts _ fl_X10_23) dX10_four_8 (fun v36 hv36 hsv36 => ?_)
          obtain rfl : v36 = .ref ad3 := Option.some.inj (hsv36.symm.trans hs34)
          refine lv_aload_n hx hb dX10_four_11 rfl (lv_at hl 1 rfl) ?_
          refine tf_get hx hb hts inlX10 hown hK (ci := 10) rfl hW ha0 rfl 8 rfl (by decide) (hts _ fl_X10_183) dX10_four_12 (fun v37 hv37 hsv37 => ?_)
          obtain rfl : v37 = .int (Int32.ofInt ((((t0 + 1) + 1) + 1))) := Option.some.inj (hsv37.symm.trans hs33)
          refine lv_iload_n hx hb dX10_four_15 rfl (lv_at hl 2 rfl) ?_
          refine lv_iload_n hx hb dX10_four_16 rfl (lv_at hl 0 rfl) ?_
          refine tf_ishr_0 hx hb ⟨by omega, by omega⟩ dX10_four_17 ?_
          refine tf_sipush hx hb dX10_four_18 (by decide) ?_
          refine tf_iand_mask hx hb 8 (by decide) (by decide +kernel) dX10_four_21 (fun z38 hz38 kz38 => ?_)
          refine tf_iast (t0 := 0) hx hb hK hW had3 rfl rfl (by omega) (by omega) (by decide) (tf_u0 (by omega) (by omega)) dX10_four_22 (fun H39 locs39 hW hs39 ht39 hq39 => ?_)
          have hs40 := tf_keepQ hs34 (hq39 _ (tf_ne ha0 had3 (by decide)))
          have hs41 := tf_keepQ hs33 (hq39 _ (tf_ne ha0 had3 (by decide)))
          refine lv_aload_n hx hb dX10_four_23 rfl (lv_at hl 1 rfl) ?_
          refine lv_dup hx hb dX10_four_24 rfl ?_
          refine tf_get hx hb hts inlX10 hown hK (ci := 10) rfl hW ha0 rfl 8 rfl (by decide) (hts _ fl_X10_183) dX10_four_25 (fun v42 hv42 hsv42 => ?_)
          obtain rfl : v42 = .int (Int32.ofInt ((((t0 + 1) + 1) + 1))) := Option.some.inj (hsv42.symm.trans hs41)
          refine tf_iconst hx hb dX10_four_28 ?_
          refine tf_iadd hx hb dX10_four_29 ?_
          refine tf_put hx hb hts inlX10 tyX10 tyX10_ok nmX10 hown hK (ci := 10) rfl hW ha0 rfl rfl 8 rfl (by decide) (by decide) (hts _ fl_X10_183) rfl (tf_u0 (by omega) (by omega)) rfl rfl dX10_four_30 (fun H43 locs43 hW hs43 ht43 hq43 => ?_)
          have hs44 := (ht43 7 (by decide) (by decide)).trans hs40
          refine lv_iinc (v := Int32.ofInt (((((24 + (-8)) + (-8)) + (-8)) + (-8)))) (lv' := [(2, .int (Int32.ofInt (((((24 + (-8)) + (-8)) + (-8)) + (-8))))), (0, .ref a0), (1, .int (Int32.ofInt x1))]) hx hb dX10_four_33 hl (k := 0) rfl (Int32.ofInt_add _ _).symm (by decide) rfl (fun ls hl => ?_)
          refine lv_goto (tgt := 3) hx hb dX10_four_36 (by decide) ?_
          refine lv_iload_n hx hb dX10_four_3 rfl (lv_at hl 0 rfl) ?_
          refine tf_if_lt (tgt := 39) hx hb ⟨by decide, by decide⟩ dX10_four_4 (by decide) (fun h45 => ?_) (fun h45 => ?_)
          · exact tf_retv hx hb hr hlocks hQ hW (tf_eqv hs43 (by omega)) dX10_four_39
          · exfalso; omega

abbrev M_X10_feed : List (Nat × Nat) := [(31, 0), (50, 0), (50, 8)]
set_option maxHeartbeats 4000000 in
set_option maxRecDepth 100000 in
theorem c_X10_feed (l : Launch) (g : tf_G) (T : tf_T) (a0 : Nat) (ha0 : T a0 = some (50, 0)) (x1 : Int) (hp1 : (-2147483648) ≤ x1 ∧ x1 ≤ 2147483647) (x2 : Int) (hp2 : (-2147483648) ≤ x2 ∧ x2 ≤ 2147483647) (x3 : Int) (hp3 : (-2147483648) ≤ x3 ∧ x3 ≤ 2147483647) (x4 : Int) (hp4 : (-2147483648) ≤ x4 ∧ x4 ≤ 2147483647) (x5 : Int) (hp5 : (-2147483648) ≤ x5 ∧ x5 ≤ 2147483647) : Met l yX10_feed (cd_X10_feed :: wsL_law) ({ frames := 2, cells := 0, slots := 0, locals := 46 }) (tf_P g T [.ref a0, .int (Int32.ofInt x1), .int (Int32.ofInt x2), .int (Int32.ofInt x3), .int (Int32.ofInt x4), .int (Int32.ofInt x5)] (fun H => True)) (tf_Qi g M_X10_feed T (fun z _ _ => (-2147483648) ≤ z ∧ z ≤ 2147483647)) 0 0 (fun q => tf_B g ≤ q) := by
  refine Met.ofW (cc := cX10_feed) (maxL := 6) (ret := (some .int)) (by decide) rfl ?_
  intro p e s m args below meth c s₁ B hml hv
  obtain ⟨hargs, hk, hW0, hB, hpre⟩ := hv
  have hx := B.exec
  have hb := B.bytes
  have hr := B.returns
  have hts : ∀ w ∈ wsL_law, w.before args s = true := fun w h => atoms_spec (ws := cd_X10_feed :: wsL_law) B.pre w (List.mem_cons_of_mem _ h)
  have hown : s.vm.findClass RX10 = some m.cls := findClass_of_methodNamed B.named
  have hlocks := B.notSynchronized
  have hK := hk.1
  have hW := tf_n.start (M := M_X10_feed) hW0 hB
  obtain ⟨Q, hQ⟩ : ∃ q, q = MQ below (tf_Qi g M_X10_feed T (fun z _ _ => (-2147483648) ≤ z ∧ z ≤ 2147483647)) args s 0 0 (fun q => tf_B g ≤ q) := ⟨_, rfl⟩
  rw [← hQ]
  obtain ⟨R, hR⟩ : ∃ q, q = (headSpec (cd_X10_feed :: wsL_law) ({ frames := 2, cells := 0, slots := 0, locals := 46 })).room := ⟨_, rfl⟩
  rw [← hR]
  have hR1 : 2 ≤ R.frames := by rw [hR]; exact Nat.le_refl _
  have hR2 : 46 ≤ R.locals := by rw [hR]; exact Nat.le_refl _
  have hR3 : 0 ≤ R.cells := by rw [hR]; exact Nat.le_refl _
  have hR4 : 0 ≤ R.slots := by rw [hR]; exact Nat.le_refl _
  have hin := (name_of_methodNamed B.named B.method).1
  clear hR B
  refine tf_enter (As := [.ref a0, .int (Int32.ofInt x1), .int (Int32.ofInt x2), .int (Int32.ofInt x3), .int (Int32.ofInt x4), .int (Int32.ofInt x5)]) hargs (Nat.le_of_ble_eq_true rfl) (fun ls hl => ?_)
  have hl : lv_has ls 6 [(0, .ref a0), (1, .int (Int32.ofInt x1)), (2, .int (Int32.ofInt x2)), (3, .int (Int32.ofInt x3)), (4, .int (Int32.ofInt x4)), (5, .int (Int32.ofInt x5))] := hl
  refine lv_aload_n hx hb dX10_feed_0 rfl (lv_at hl 0 rfl) ?_
  refine tf_iconst hx hb dX10_feed_1 ?_
  refine tf_put hx hb hts inlX10 tyX10 tyX10_ok nmX10 hown hK (ci := 10) rfl hW ha0 rfl rfl 0 rfl (by decide) (by decide) (hts _ fl_X10_103) rfl (tf_u0 (by omega) (by omega)) rfl rfl dX10_feed_2 (fun H1 locs1 hW hs1 ht1 hq1 => ?_)
  refine lv_aload_n hx hb dX10_feed_5 rfl (lv_at hl 0 rfl) ?_
  refine tf_get hx hb hts inlX10 hown hK (ci := 10) rfl hW ha0 rfl 8 rfl (by decide) (hts _ fl_X10_183) dX10_feed_6 (fun v2 hv2 hsv2 => ?_)
  obtain ⟨z3, rfl, hz3⟩ := tf_v0 hv2
  refine tf_bipush hx hb dX10_feed_9 (by decide) ?_
  refine tf_iadd hx hb dX10_feed_11 ?_
  refine tf_sipush hx hb dX10_feed_12 (by decide) ?_
  refine tf_icmp_le (tgt := 20) hx hb ⟨by omega, by omega⟩ ⟨by decide, by decide⟩ dX10_feed_15 (by decide) (fun h4 => ?_) (fun h4 => ?_)
  · refine lv_aload_n hx hb dX10_feed_20 rfl (lv_at hl 0 rfl) ?_
    refine lv_iload_n hx hb dX10_feed_21 rfl (lv_at hl 1 rfl) ?_
    refine tf_callv (va_runV (As := [.int (Int32.ofInt x1)]) (rest := []) ⟨hx, hb, hml, hown, hts⟩ (c_X10_four l g T a0 ha0 (x1) ⟨by omega, by omega⟩ (z3) ⟨by omega, by omega⟩) (cwV 1 hts gv_X10_193 rfl rfl rfl hd_X10_four ⟨Nat.le_trans (by decide) hR1, Nat.le_trans (by decide) hR2⟩) (tf_preV hk hW ha0 (ci := 10) rfl rfl hsv2) rfl rfl hl.1 rfl (lv_room (Nat.le_of_ble_eq_true rfl)) dX10_feed_22 ⟨Nat.zero_le _, Nat.zero_le _⟩) hW (by decide) (fun H5 locs5 hW hF5 hp5 => ?_)
    have ho5_0 := hp5
    refine lv_aload_n hx hb dX10_feed_25 rfl (lv_at hl 0 rfl) ?_
    refine lv_iload_n hx hb dX10_feed_26 rfl (lv_at hl 2 rfl) ?_
    refine tf_callv (va_runV (As := [.int (Int32.ofInt x2)]) (rest := []) ⟨hx, hb, hml, hown, hts⟩ (c_X10_four l g T a0 ha0 (x2) ⟨by omega, by omega⟩ ((z3 + 4)) ⟨by omega, by omega⟩) (cwV 1 hts gv_X10_193 rfl rfl rfl hd_X10_four ⟨Nat.le_trans (by decide) hR1, Nat.le_trans (by decide) hR2⟩) (tf_preV hk hW ha0 (ci := 10) rfl rfl ho5_0) rfl rfl hl.1 rfl (lv_room (Nat.le_of_ble_eq_true rfl)) dX10_feed_27 ⟨Nat.zero_le _, Nat.zero_le _⟩) hW (by decide) (fun H6 locs6 hW hF6 hp6 => ?_)
    have ho6_0 := hp6
    refine lv_aload_n hx hb dX10_feed_30 rfl (lv_at hl 0 rfl) ?_
    refine lv_iload_n hx hb dX10_feed_31 rfl (lv_at hl 3 rfl) ?_
    refine tf_callv (va_runV (As := [.int (Int32.ofInt x3)]) (rest := []) ⟨hx, hb, hml, hown, hts⟩ (c_X10_four l g T a0 ha0 (x3) ⟨by omega, by omega⟩ (((z3 + 4) + 4)) ⟨by omega, by omega⟩) (cwV 1 hts gv_X10_193 rfl rfl rfl hd_X10_four ⟨Nat.le_trans (by decide) hR1, Nat.le_trans (by decide) hR2⟩) (tf_preV hk hW ha0 (ci := 10) rfl rfl ho6_0) rfl rfl hl.1 rfl (lv_room (Nat.le_of_ble_eq_true rfl)) dX10_feed_32 ⟨Nat.zero_le _, Nat.zero_le _⟩) hW (by decide) (fun H7 locs7 hW hF7 hp7 => ?_)
    have ho7_0 := hp7
    refine lv_aload_n hx hb dX10_feed_35 rfl (lv_at hl 0 rfl) ?_
    refine lv_iload hx hb dX10_feed_36 (lv_at hl 4 rfl) ?_
    refine tf_callv (va_runV (As := [.int (Int32.ofInt x4)]) (rest := []) ⟨hx, hb, hml, hown, hts⟩ (c_X10_four l g T a0 ha0 (x4) ⟨by omega, by omega⟩ ((((z3 + 4) + 4) + 4)) ⟨by omega, by omega⟩) (cwV 1 hts gv_X10_193 rfl rfl rfl hd_X10_four ⟨Nat.le_trans (by decide) hR1, Nat.le_trans (by decide) hR2⟩) (tf_preV hk hW ha0 (ci := 10) rfl rfl ho7_0) rfl rfl hl.1 rfl (lv_room (Nat.le_of_ble_eq_true rfl)) dX10_feed_38 ⟨Nat.zero_le _, Nat.zero_le _⟩) hW (by decide) (fun H8 locs8 hW hF8 hp8 => ?_)
    have ho8_0 := hp8
    refine lv_aload_n hx hb dX10_feed_41 rfl (lv_at hl 0 rfl) ?_
    refine lv_iload hx hb dX10_feed_42 (lv_at hl 5 rfl) ?_
    refine tf_callv (va_runV (As := [.int (Int32.ofInt x5)]) (rest := []) ⟨hx, hb, hml, hown, hts⟩ (c_X10_four l g T a0 ha0 (x5) ⟨by omega, by omega⟩ (((((z3 + 4) + 4) + 4) + 4)) ⟨by omega, by omega⟩) (cwV 1 hts gv_X10_193 rfl rfl rfl hd_X10_four ⟨Nat.le_trans (by decide) hR1, Nat.le_trans (by decide) hR2⟩) (tf_preV hk hW ha0 (ci := 10) rfl rfl ho8_0) rfl rfl hl.1 rfl (lv_room (Nat.le_of_ble_eq_true rfl)) dX10_feed_44 ⟨Nat.zero_le _, Nat.zero_le _⟩) hW (by decide) (fun H9 locs9 hW hF9 hp9 => ?_)
    have ho9_0 := hp9
    refine lv_aload_n hx hb dX10_feed_47 rfl (lv_at hl 0 rfl) ?_
    refine tf_get hx hb hts inlX10 hown hK (ci := 10) rfl hW ha0 rfl 8 rfl (by decide) (hts _ fl_X10_183) dX10_feed_48 (fun v10 hv10 hsv10 => ?_)
    obtain rfl : v10 = .int (Int32.ofInt ((((((z3 + 4) + 4) + 4) + 4) + 4))) := Option.some.inj (hsv10.symm.trans ho9_0)
    exact tf_reti (z := (((((z3 + 4) + 4) + 4) + 4) + 4)) hx hb hr hlocks hQ hW (show (-2147483648) ≤ ((((((z3 + 4) + 4) + 4) + 4) + 4)) ∧ ((((((z3 + 4) + 4) + 4) + 4) + 4)) ≤ 2147483647 by omega) dX10_feed_51
  · refine tf_iconst hx hb dX10_feed_18 ?_
    exact tf_reti (z := (-1)) hx hb hr hlocks hQ hW (show (-2147483648) ≤ ((-1)) ∧ ((-1)) ≤ 2147483647 by omega) dX10_feed_19

abbrev M_X10_bits : List (Nat × Nat) := []
set_option maxHeartbeats 4000000 in
set_option maxRecDepth 100000 in
theorem c_X10_bits (l : Launch) (g : tf_G) (T : tf_T) (x0 : Int) (hp0 : (-2147483648) ≤ x0 ∧ x0 ≤ 2147483647) : Met l yX10_bits (cd_X10_bits :: wsL_law) ({ frames := 1, cells := 0, slots := 0, locals := 24 }) (tf_P g T [.int (Int32.ofInt x0)] (fun H => True)) (tf_Qi g M_X10_bits T (fun z _ _ => 0 ≤ z ∧ z ≤ 12)) 0 0 (fun q => tf_B g ≤ q) := by
  refine Met.ofW (cc := cX10_bits) (maxL := 3) (ret := (some .int)) (by decide) rfl ?_
  intro p e s m args below meth c s₁ B hml hv
  obtain ⟨hargs, hk, hW0, hB, hpre⟩ := hv
  have hx := B.exec
  have hb := B.bytes
  have hr := B.returns
  have hts : ∀ w ∈ wsL_law, w.before args s = true := fun w h => atoms_spec (ws := cd_X10_bits :: wsL_law) B.pre w (List.mem_cons_of_mem _ h)
  have hown : s.vm.findClass RX10 = some m.cls := findClass_of_methodNamed B.named
  have hlocks := B.notSynchronized
  have hK := hk.1
  have hW := tf_n.start (M := M_X10_bits) hW0 hB
  obtain ⟨Q, hQ⟩ : ∃ q, q = MQ below (tf_Qi g M_X10_bits T (fun z _ _ => 0 ≤ z ∧ z ≤ 12)) args s 0 0 (fun q => tf_B g ≤ q) := ⟨_, rfl⟩
  rw [← hQ]
  obtain ⟨R, hR⟩ : ∃ q, q = (headSpec (cd_X10_bits :: wsL_law) ({ frames := 1, cells := 0, slots := 0, locals := 24 })).room := ⟨_, rfl⟩
  rw [← hR]
  have hR1 : 1 ≤ R.frames := by rw [hR]; exact Nat.le_refl _
  have hR2 : 24 ≤ R.locals := by rw [hR]; exact Nat.le_refl _
  have hR3 : 0 ≤ R.cells := by rw [hR]; exact Nat.le_refl _
  have hR4 : 0 ≤ R.slots := by rw [hR]; exact Nat.le_refl _
  have hin := (name_of_methodNamed B.named B.method).1
  clear hR B
  have j_4 : ∀ (n_4 : Nat), (-2147483648) ≤ x0 ∧ x0 ≤ 2147483647 → ∀ (x1_4 : Int), 0 ≤ x1_4 ∧ x1_4 ≤ 12 → ∀ (x2_4 : Int), 0 ≤ x2_4 ∧ x2_4 ≤ 12 → (x1_4 ≤ x2_4) → (12 - x2_4 + 1 ≤ (n_4 : Int)) → ∀ (H : Heap) (locs : List Loc), tf_n tf_kt g M_X10_bits T s.heap T H locs → ∀ (ls : Array Slot), lv_has ls 3 [(0, .int (Int32.ofInt x0)), (1, .int (Int32.ofInt x1_4)), (2, .int (Int32.ofInt x2_4))] → W p l e R s m args below meth c H locs 0 0 Q (F0 m 4 ls []) := by
    intro n_4
    induction n_4 with
    | zero =>
      intro hx0_4 x1_4 hx1_4 x2_4 hx2_4 hi0_4 hm_4
      exfalso; omega
    | succ n_4 ih_4 =>
      intro hx0_4 x1_4 hx1_4 x2_4 hx2_4 hi0_4 hm_4 H locs hW  ls hl
      refine lv_iload_n hx hb dX10_bits_4 rfl (lv_at hl 2 rfl) ?_
      refine tf_bipush hx hb dX10_bits_5 (by decide) ?_
      refine tf_icmp_ge (tgt := 24) hx hb ⟨by omega, by omega⟩ ⟨by decide, by decide⟩ dX10_bits_7 (by decide) (fun h1 => ?_) (fun h1 => ?_)
      · refine lv_iload_n hx hb dX10_bits_24 rfl (lv_at hl 1 rfl) ?_
        exact tf_reti (z := x1_4) hx hb hr hlocks hQ hW (show 0 ≤ (x1_4) ∧ (x1_4) ≤ 12 by omega) dX10_bits_25
      · refine lv_iload_n hx hb dX10_bits_10 rfl (lv_at hl 1 rfl) ?_
        refine lv_iload_n hx hb dX10_bits_11 rfl (lv_at hl 0 rfl) ?_
        refine lv_iload_n hx hb dX10_bits_12 rfl (lv_at hl 2 rfl) ?_
        refine tf_ishr_any hx hb dX10_bits_13 (fun z2 hz2 => ?_)
        refine tf_iconst hx hb dX10_bits_14 ?_
        refine tf_iand_mask hx hb 1 (by decide) (by decide +kernel) dX10_bits_15 (fun z3 hz3 kz3 => ?_)
        refine tf_iadd hx hb dX10_bits_16 ?_
        refine lv_istore_n (lv' := [(1, .int (Int32.ofInt ((x1_4 + z3)))), (0, .int (Int32.ofInt x0)), (2, .int (Int32.ofInt x2_4))]) hx hb dX10_bits_17 rfl hl (by decide) rfl (fun ls hl => ?_)
        refine lv_iinc (v := Int32.ofInt ((x2_4 + 1))) (lv' := [(2, .int (Int32.ofInt ((x2_4 + 1)))), (1, .int (Int32.ofInt ((x1_4 + z3)))), (0, .int (Int32.ofInt x0))]) hx hb dX10_bits_18 hl (k := 2) rfl (Int32.ofInt_add _ _).symm (by decide) rfl (fun ls hl => ?_)
        refine lv_goto (tgt := 4) hx hb dX10_bits_21 (by decide) ?_
        exact ih_4 ⟨by omega, by omega⟩ ((x1_4 + z3)) ⟨by omega, by omega⟩ ((x2_4 + 1)) ⟨by omega, by omega⟩ (by omega) (by omega) _ _ hW  _ (lv_sub hl [2, 1, 0] rfl)
  refine tf_enter (As := [.int (Int32.ofInt x0)]) hargs (Nat.le_of_ble_eq_true rfl) (fun ls hl => ?_)
  have hl : lv_has ls 3 [(0, .int (Int32.ofInt x0))] := hl
  refine tf_iconst hx hb dX10_bits_0 ?_
  refine lv_istore_n (lv' := [(1, .int (Int32.ofInt 0)), (0, .int (Int32.ofInt x0))]) hx hb dX10_bits_1 rfl hl (by decide) rfl (fun ls hl => ?_)
  refine tf_iconst hx hb dX10_bits_2 ?_
  refine lv_istore_n (lv' := [(2, .int (Int32.ofInt 0)), (1, .int (Int32.ofInt 0)), (0, .int (Int32.ofInt x0))]) hx hb dX10_bits_3 rfl hl (by decide) rfl (fun ls hl => ?_)
  exact j_4 ((12 - 0 + 1 : Int)).toNat ⟨by omega, by omega⟩ (0) ⟨by omega, by omega⟩ (0) ⟨by omega, by omega⟩ (by omega) (by omega) _ _ hW  _ (lv_sub hl [2, 1, 0] rfl)

abbrev M_X10_orders : List (Nat × Nat) := []
set_option maxHeartbeats 4000000 in
set_option maxRecDepth 100000 in
theorem c_X10_orders (l : Launch) (g : tf_G) (T : tf_T) (x0 : Int) (hp0 : (-13) ≤ x0 ∧ x0 ≤ 12) : Met l yX10_orders (cd_X10_orders :: wsL_law) ({ frames := 1, cells := 0, slots := 0, locals := 24 }) (tf_P g T [.int (Int32.ofInt x0)] (fun H => True)) (tf_Qi g M_X10_orders T (fun z _ _ => 1 ≤ z ∧ z ≤ 479001600)) 0 0 (fun q => tf_B g ≤ q) := by
  refine Met.ofW (cc := cX10_orders) (maxL := 3) (ret := (some .int)) (by decide) rfl ?_
  intro p e s m args below meth c s₁ B hml hv
  obtain ⟨hargs, hk, hW0, hB, hpre⟩ := hv
  have hx := B.exec
  have hb := B.bytes
  have hr := B.returns
  have hts : ∀ w ∈ wsL_law, w.before args s = true := fun w h => atoms_spec (ws := cd_X10_orders :: wsL_law) B.pre w (List.mem_cons_of_mem _ h)
  have hown : s.vm.findClass RX10 = some m.cls := findClass_of_methodNamed B.named
  have hlocks := B.notSynchronized
  have hK := hk.1
  have hW := tf_n.start (M := M_X10_orders) hW0 hB
  obtain ⟨Q, hQ⟩ : ∃ q, q = MQ below (tf_Qi g M_X10_orders T (fun z _ _ => 1 ≤ z ∧ z ≤ 479001600)) args s 0 0 (fun q => tf_B g ≤ q) := ⟨_, rfl⟩
  rw [← hQ]
  obtain ⟨R, hR⟩ : ∃ q, q = (headSpec (cd_X10_orders :: wsL_law) ({ frames := 1, cells := 0, slots := 0, locals := 24 })).room := ⟨_, rfl⟩
  rw [← hR]
  have hR1 : 1 ≤ R.frames := by rw [hR]; exact Nat.le_refl _
  have hR2 : 24 ≤ R.locals := by rw [hR]; exact Nat.le_refl _
  have hR3 : 0 ≤ R.cells := by rw [hR]; exact Nat.le_refl _
  have hR4 : 0 ≤ R.slots := by rw [hR]; exact Nat.le_refl _
  have hin := (name_of_methodNamed B.named B.method).1
  clear hR B
  refine tf_enter (As := [.int (Int32.ofInt x0)]) hargs (Nat.le_of_ble_eq_true rfl) (fun ls hl => ?_)
  have hl : lv_has ls 3 [(0, .int (Int32.ofInt x0))] := hl
  refine tf_iconst hx hb dX10_orders_0 ?_
  refine lv_istore_n (lv' := [(1, .int (Int32.ofInt 1)), (0, .int (Int32.ofInt x0))]) hx hb dX10_orders_1 rfl hl (by decide) rfl (fun ls hl => ?_)
  refine tf_iconst hx hb dX10_orders_2 ?_
  refine lv_istore_n (lv' := [(2, .int (Int32.ofInt 2)), (1, .int (Int32.ofInt 1)), (0, .int (Int32.ofInt x0))]) hx hb dX10_orders_3 rfl hl (by decide) rfl (fun ls hl => ?_)
  refine lv_iload_n hx hb dX10_orders_4 rfl (lv_at hl 0 rfl) ?_
  refine lv_iload_n hx hb dX10_orders_5 rfl (lv_at hl 2 rfl) ?_
  refine tf_icmp_gt (tgt := 19) hx hb ⟨by decide, by decide⟩ ⟨by omega, by omega⟩ dX10_orders_6 (by decide) (fun h1 => ?_) (fun h1 => ?_)
  · refine lv_iload_n hx hb dX10_orders_19 rfl (lv_at hl 1 rfl) ?_
    exact tf_reti (z := 1) hx hb hr hlocks hQ hW (show 1 ≤ (1) ∧ (1) ≤ 479001600 by omega) dX10_orders_20
  · refine lv_iload_n hx hb dX10_orders_9 rfl (lv_at hl 1 rfl) ?_
    refine lv_iload_n hx hb dX10_orders_10 rfl (lv_at hl 0 rfl) ?_
    refine tf_imul hx hb dX10_orders_11 ?_
    refine lv_istore_n (lv' := [(1, .int (Int32.ofInt ((1 * 2)))), (2, .int (Int32.ofInt 2)), (0, .int (Int32.ofInt x0))]) hx hb dX10_orders_12 rfl hl (by decide) rfl (fun ls hl => ?_)
    refine lv_iinc (v := Int32.ofInt ((2 + 1))) (lv' := [(2, .int (Int32.ofInt ((2 + 1)))), (1, .int (Int32.ofInt ((1 * 2)))), (0, .int (Int32.ofInt x0))]) hx hb dX10_orders_13 hl (k := 1) rfl (Int32.ofInt_add _ _).symm (by decide) rfl (fun ls hl => ?_)
    refine lv_goto (tgt := 4) hx hb dX10_orders_16 (by decide) ?_
    refine lv_iload_n hx hb dX10_orders_4 rfl (lv_at hl 0 rfl) ?_
    refine lv_iload_n hx hb dX10_orders_5 rfl (lv_at hl 2 rfl) ?_
    refine tf_icmp_gt (tgt := 19) hx hb ⟨by decide, by decide⟩ ⟨by omega, by omega⟩ dX10_orders_6 (by decide) (fun h2 => ?_) (fun h2 => ?_)
    · refine lv_iload_n hx hb dX10_orders_19 rfl (lv_at hl 1 rfl) ?_
      exact tf_reti (z := (1 * 2)) hx hb hr hlocks hQ hW (show 1 ≤ ((1 * 2)) ∧ ((1 * 2)) ≤ 479001600 by omega) dX10_orders_20
    · refine lv_iload_n hx hb dX10_orders_9 rfl (lv_at hl 1 rfl) ?_
      refine lv_iload_n hx hb dX10_orders_10 rfl (lv_at hl 0 rfl) ?_
      refine tf_imul hx hb dX10_orders_11 ?_
      refine lv_istore_n (lv' := [(1, .int (Int32.ofInt (((1 * 2) * (2 + 1))))), (2, .int (Int32.ofInt ((2 + 1)))), (0, .int (Int32.ofInt x0))]) hx hb dX10_orders_12 rfl hl (by decide) rfl (fun ls hl => ?_)
      refine lv_iinc (v := Int32.ofInt (((2 + 1) + 1))) (lv' := [(2, .int (Int32.ofInt (((2 + 1) + 1)))), (1, .int (Int32.ofInt (((1 * 2) * (2 + 1))))), (0, .int (Int32.ofInt x0))]) hx hb dX10_orders_13 hl (k := 1) rfl (Int32.ofInt_add _ _).symm (by decide) rfl (fun ls hl => ?_)
      refine lv_goto (tgt := 4) hx hb dX10_orders_16 (by decide) ?_
      refine lv_iload_n hx hb dX10_orders_4 rfl (lv_at hl 0 rfl) ?_
      refine lv_iload_n hx hb dX10_orders_5 rfl (lv_at hl 2 rfl) ?_
      refine tf_icmp_gt (tgt := 19) hx hb ⟨by decide, by decide⟩ ⟨by omega, by omega⟩ dX10_orders_6 (by decide) (fun h3 => ?_) (fun h3 => ?_)
      · refine lv_iload_n hx hb dX10_orders_19 rfl (lv_at hl 1 rfl) ?_
        exact tf_reti (z := ((1 * 2) * (2 + 1))) hx hb hr hlocks hQ hW (show 1 ≤ (((1 * 2) * (2 + 1))) ∧ (((1 * 2) * (2 + 1))) ≤ 479001600 by omega) dX10_orders_20
      · refine lv_iload_n hx hb dX10_orders_9 rfl (lv_at hl 1 rfl) ?_
        refine lv_iload_n hx hb dX10_orders_10 rfl (lv_at hl 0 rfl) ?_
        refine tf_imul hx hb dX10_orders_11 ?_
        refine lv_istore_n (lv' := [(1, .int (Int32.ofInt ((((1 * 2) * (2 + 1)) * ((2 + 1) + 1))))), (2, .int (Int32.ofInt (((2 + 1) + 1)))), (0, .int (Int32.ofInt x0))]) hx hb dX10_orders_12 rfl hl (by decide) rfl (fun ls hl => ?_)
        refine lv_iinc (v := Int32.ofInt ((((2 + 1) + 1) + 1))) (lv' := [(2, .int (Int32.ofInt ((((2 + 1) + 1) + 1)))), (1, .int (Int32.ofInt ((((1 * 2) * (2 + 1)) * ((2 + 1) + 1))))), (0, .int (Int32.ofInt x0))]) hx hb dX10_orders_13 hl (k := 1) rfl (Int32.ofInt_add _ _).symm (by decide) rfl (fun ls hl => ?_)
        refine lv_goto (tgt := 4) hx hb dX10_orders_16 (by decide) ?_
        refine lv_iload_n hx hb dX10_orders_4 rfl (lv_at hl 0 rfl) ?_
        refine lv_iload_n hx hb dX10_orders_5 rfl (lv_at hl 2 rfl) ?_
        refine tf_icmp_gt (tgt := 19) hx hb ⟨by decide, by decide⟩ ⟨by omega, by omega⟩ dX10_orders_6 (by decide) (fun h4 => ?_) (fun h4 => ?_)
        · refine lv_iload_n hx hb dX10_orders_19 rfl (lv_at hl 1 rfl) ?_
          exact tf_reti (z := (((1 * 2) * (2 + 1)) * ((2 + 1) + 1))) hx hb hr hlocks hQ hW (show 1 ≤ ((((1 * 2) * (2 + 1)) * ((2 + 1) + 1))) ∧ ((((1 * 2) * (2 + 1)) * ((2 + 1) + 1))) ≤ 479001600 by omega) dX10_orders_20
        · refine lv_iload_n hx hb dX10_orders_9 rfl (lv_at hl 1 rfl) ?_
          refine lv_iload_n hx hb dX10_orders_10 rfl (lv_at hl 0 rfl) ?_
          refine tf_imul hx hb dX10_orders_11 ?_
          refine lv_istore_n (lv' := [(1, .int (Int32.ofInt (((((1 * 2) * (2 + 1)) * ((2 + 1) + 1)) * (((2 + 1) + 1) + 1))))), (2, .int (Int32.ofInt ((((2 + 1) + 1) + 1)))), (0, .int (Int32.ofInt x0))]) hx hb dX10_orders_12 rfl hl (by decide) rfl (fun ls hl => ?_)
          refine lv_iinc (v := Int32.ofInt (((((2 + 1) + 1) + 1) + 1))) (lv' := [(2, .int (Int32.ofInt (((((2 + 1) + 1) + 1) + 1)))), (1, .int (Int32.ofInt (((((1 * 2) * (2 + 1)) * ((2 + 1) + 1)) * (((2 + 1) + 1) + 1))))), (0, .int (Int32.ofInt x0))]) hx hb dX10_orders_13 hl (k := 1) rfl (Int32.ofInt_add _ _).symm (by decide) rfl (fun ls hl => ?_)
          refine lv_goto (tgt := 4) hx hb dX10_orders_16 (by decide) ?_
          refine lv_iload_n hx hb dX10_orders_4 rfl (lv_at hl 0 rfl) ?_
          refine lv_iload_n hx hb dX10_orders_5 rfl (lv_at hl 2 rfl) ?_
          refine tf_icmp_gt (tgt := 19) hx hb ⟨by decide, by decide⟩ ⟨by omega, by omega⟩ dX10_orders_6 (by decide) (fun h5 => ?_) (fun h5 => ?_)
          · refine lv_iload_n hx hb dX10_orders_19 rfl (lv_at hl 1 rfl) ?_
            exact tf_reti (z := ((((1 * 2) * (2 + 1)) * ((2 + 1) + 1)) * (((2 + 1) + 1) + 1))) hx hb hr hlocks hQ hW (show 1 ≤ (((((1 * 2) * (2 + 1)) * ((2 + 1) + 1)) * (((2 + 1) + 1) + 1))) ∧ (((((1 * 2) * (2 + 1)) * ((2 + 1) + 1)) * (((2 + 1) + 1) + 1))) ≤ 479001600 by omega) dX10_orders_20
          · refine lv_iload_n hx hb dX10_orders_9 rfl (lv_at hl 1 rfl) ?_
            refine lv_iload_n hx hb dX10_orders_10 rfl (lv_at hl 0 rfl) ?_
            refine tf_imul hx hb dX10_orders_11 ?_
            refine lv_istore_n (lv' := [(1, .int (Int32.ofInt ((((((1 * 2) * (2 + 1)) * ((2 + 1) + 1)) * (((2 + 1) + 1) + 1)) * ((((2 + 1) + 1) + 1) + 1))))), (2, .int (Int32.ofInt (((((2 + 1) + 1) + 1) + 1)))), (0, .int (Int32.ofInt x0))]) hx hb dX10_orders_12 rfl hl (by decide) rfl (fun ls hl => ?_)
            refine lv_iinc (v := Int32.ofInt ((((((2 + 1) + 1) + 1) + 1) + 1))) (lv' := [(2, .int (Int32.ofInt ((((((2 + 1) + 1) + 1) + 1) + 1)))), (1, .int (Int32.ofInt ((((((1 * 2) * (2 + 1)) * ((2 + 1) + 1)) * (((2 + 1) + 1) + 1)) * ((((2 + 1) + 1) + 1) + 1))))), (0, .int (Int32.ofInt x0))]) hx hb dX10_orders_13 hl (k := 1) rfl (Int32.ofInt_add _ _).symm (by decide) rfl (fun ls hl => ?_)
            refine lv_goto (tgt := 4) hx hb dX10_orders_16 (by decide) ?_
            refine lv_iload_n hx hb dX10_orders_4 rfl (lv_at hl 0 rfl) ?_
            refine lv_iload_n hx hb dX10_orders_5 rfl (lv_at hl 2 rfl) ?_
            refine tf_icmp_gt (tgt := 19) hx hb ⟨by decide, by decide⟩ ⟨by omega, by omega⟩ dX10_orders_6 (by decide) (fun h6 => ?_) (fun h6 => ?_)
            · refine lv_iload_n hx hb dX10_orders_19 rfl (lv_at hl 1 rfl) ?_
              exact tf_reti (z := (((((1 * 2) * (2 + 1)) * ((2 + 1) + 1)) * (((2 + 1) + 1) + 1)) * ((((2 + 1) + 1) + 1) + 1))) hx hb hr hlocks hQ hW (show 1 ≤ ((((((1 * 2) * (2 + 1)) * ((2 + 1) + 1)) * (((2 + 1) + 1) + 1)) * ((((2 + 1) + 1) + 1) + 1))) ∧ ((((((1 * 2) * (2 + 1)) * ((2 + 1) + 1)) * (((2 + 1) + 1) + 1)) * ((((2 + 1) + 1) + 1) + 1))) ≤ 479001600 by omega) dX10_orders_20
            · refine lv_iload_n hx hb dX10_orders_9 rfl (lv_at hl 1 rfl) ?_
              refine lv_iload_n hx hb dX10_orders_10 rfl (lv_at hl 0 rfl) ?_
              refine tf_imul hx hb dX10_orders_11 ?_
              refine lv_istore_n (lv' := [(1, .int (Int32.ofInt (((((((1 * 2) * (2 + 1)) * ((2 + 1) + 1)) * (((2 + 1) + 1) + 1)) * ((((2 + 1) + 1) + 1) + 1)) * (((((2 + 1) + 1) + 1) + 1) + 1))))), (2, .int (Int32.ofInt ((((((2 + 1) + 1) + 1) + 1) + 1)))), (0, .int (Int32.ofInt x0))]) hx hb dX10_orders_12 rfl hl (by decide) rfl (fun ls hl => ?_)
              refine lv_iinc (v := Int32.ofInt (((((((2 + 1) + 1) + 1) + 1) + 1) + 1))) (lv' := [(2, .int (Int32.ofInt (((((((2 + 1) + 1) + 1) + 1) + 1) + 1)))), (1, .int (Int32.ofInt (((((((1 * 2) * (2 + 1)) * ((2 + 1) + 1)) * (((2 + 1) + 1) + 1)) * ((((2 + 1) + 1) + 1) + 1)) * (((((2 + 1) + 1) + 1) + 1) + 1))))), (0, .int (Int32.ofInt x0))]) hx hb dX10_orders_13 hl (k := 1) rfl (Int32.ofInt_add _ _).symm (by decide) rfl (fun ls hl => ?_)
              refine lv_goto (tgt := 4) hx hb dX10_orders_16 (by decide) ?_
              refine lv_iload_n hx hb dX10_orders_4 rfl (lv_at hl 0 rfl) ?_
              refine lv_iload_n hx hb dX10_orders_5 rfl (lv_at hl 2 rfl) ?_
              refine tf_icmp_gt (tgt := 19) hx hb ⟨by decide, by decide⟩ ⟨by omega, by omega⟩ dX10_orders_6 (by decide) (fun h7 => ?_) (fun h7 => ?_)
              · refine lv_iload_n hx hb dX10_orders_19 rfl (lv_at hl 1 rfl) ?_
                exact tf_reti (z := ((((((1 * 2) * (2 + 1)) * ((2 + 1) + 1)) * (((2 + 1) + 1) + 1)) * ((((2 + 1) + 1) + 1) + 1)) * (((((2 + 1) + 1) + 1) + 1) + 1))) hx hb hr hlocks hQ hW (show 1 ≤ (((((((1 * 2) * (2 + 1)) * ((2 + 1) + 1)) * (((2 + 1) + 1) + 1)) * ((((2 + 1) + 1) + 1) + 1)) * (((((2 + 1) + 1) + 1) + 1) + 1))) ∧ (((((((1 * 2) * (2 + 1)) * ((2 + 1) + 1)) * (((2 + 1) + 1) + 1)) * ((((2 + 1) + 1) + 1) + 1)) * (((((2 + 1) + 1) + 1) + 1) + 1))) ≤ 479001600 by omega) dX10_orders_20
              · refine lv_iload_n hx hb dX10_orders_9 rfl (lv_at hl 1 rfl) ?_
                refine lv_iload_n hx hb dX10_orders_10 rfl (lv_at hl 0 rfl) ?_
                refine tf_imul hx hb dX10_orders_11 ?_
                refine lv_istore_n (lv' := [(1, .int (Int32.ofInt ((((((((1 * 2) * (2 + 1)) * ((2 + 1) + 1)) * (((2 + 1) + 1) + 1)) * ((((2 + 1) + 1) + 1) + 1)) * (((((2 + 1) + 1) + 1) + 1) + 1)) * ((((((2 + 1) + 1) + 1) + 1) + 1) + 1))))), (2, .int (Int32.ofInt (((((((2 + 1) + 1) + 1) + 1) + 1) + 1)))), (0, .int (Int32.ofInt x0))]) hx hb dX10_orders_12 rfl hl (by decide) rfl (fun ls hl => ?_)
                refine lv_iinc (v := Int32.ofInt ((((((((2 + 1) + 1) + 1) + 1) + 1) + 1) + 1))) (lv' := [(2, .int (Int32.ofInt ((((((((2 + 1) + 1) + 1) + 1) + 1) + 1) + 1)))), (1, .int (Int32.ofInt ((((((((1 * 2) * (2 + 1)) * ((2 + 1) + 1)) * (((2 + 1) + 1) + 1)) * ((((2 + 1) + 1) + 1) + 1)) * (((((2 + 1) + 1) + 1) + 1) + 1)) * ((((((2 + 1) + 1) + 1) + 1) + 1) + 1))))), (0, .int (Int32.ofInt x0))]) hx hb dX10_orders_13 hl (k := 1) rfl (Int32.ofInt_add _ _).symm (by decide) rfl (fun ls hl => ?_)
                refine lv_goto (tgt := 4) hx hb dX10_orders_16 (by decide) ?_
                refine lv_iload_n hx hb dX10_orders_4 rfl (lv_at hl 0 rfl) ?_
                refine lv_iload_n hx hb dX10_orders_5 rfl (lv_at hl 2 rfl) ?_
                refine tf_icmp_gt (tgt := 19) hx hb ⟨by decide, by decide⟩ ⟨by omega, by omega⟩ dX10_orders_6 (by decide) (fun h8 => ?_) (fun h8 => ?_)
                · refine lv_iload_n hx hb dX10_orders_19 rfl (lv_at hl 1 rfl) ?_
                  exact tf_reti (z := (((((((1 * 2) * (2 + 1)) * ((2 + 1) + 1)) * (((2 + 1) + 1) + 1)) * ((((2 + 1) + 1) + 1) + 1)) * (((((2 + 1) + 1) + 1) + 1) + 1)) * ((((((2 + 1) + 1) + 1) + 1) + 1) + 1))) hx hb hr hlocks hQ hW (show 1 ≤ ((((((((1 * 2) * (2 + 1)) * ((2 + 1) + 1)) * (((2 + 1) + 1) + 1)) * ((((2 + 1) + 1) + 1) + 1)) * (((((2 + 1) + 1) + 1) + 1) + 1)) * ((((((2 + 1) + 1) + 1) + 1) + 1) + 1))) ∧ ((((((((1 * 2) * (2 + 1)) * ((2 + 1) + 1)) * (((2 + 1) + 1) + 1)) * ((((2 + 1) + 1) + 1) + 1)) * (((((2 + 1) + 1) + 1) + 1) + 1)) * ((((((2 + 1) + 1) + 1) + 1) + 1) + 1))) ≤ 479001600 by omega) dX10_orders_20
                · refine lv_iload_n hx hb dX10_orders_9 rfl (lv_at hl 1 rfl) ?_
                  refine lv_iload_n hx hb dX10_orders_10 rfl (lv_at hl 0 rfl) ?_
                  refine tf_imul hx hb dX10_orders_11 ?_
                  refine lv_istore_n (lv' := [(1, .int (Int32.ofInt (((((((((1 * 2) * (2 + 1)) * ((2 + 1) + 1)) * (((2 + 1) + 1) + 1)) * ((((2 + 1) + 1) + 1) + 1)) * (((((2 + 1) + 1) + 1) + 1) + 1)) * ((((((2 + 1) + 1) + 1) + 1) + 1) + 1)) * (((((((2 + 1) + 1) + 1) + 1) + 1) + 1) + 1))))), (2, .int (Int32.ofInt ((((((((2 + 1) + 1) + 1) + 1) + 1) + 1) + 1)))), (0, .int (Int32.ofInt x0))]) hx hb dX10_orders_12 rfl hl (by decide) rfl (fun ls hl => ?_)
                  refine lv_iinc (v := Int32.ofInt (((((((((2 + 1) + 1) + 1) + 1) + 1) + 1) + 1) + 1))) (lv' := [(2, .int (Int32.ofInt (((((((((2 + 1) + 1) + 1) + 1) + 1) + 1) + 1) + 1)))), (1, .int (Int32.ofInt (((((((((1 * 2) * (2 + 1)) * ((2 + 1) + 1)) * (((2 + 1) + 1) + 1)) * ((((2 + 1) + 1) + 1) + 1)) * (((((2 + 1) + 1) + 1) + 1) + 1)) * ((((((2 + 1) + 1) + 1) + 1) + 1) + 1)) * (((((((2 + 1) + 1) + 1) + 1) + 1) + 1) + 1))))), (0, .int (Int32.ofInt x0))]) hx hb dX10_orders_13 hl (k := 1) rfl (Int32.ofInt_add _ _).symm (by decide) rfl (fun ls hl => ?_)
                  refine lv_goto (tgt := 4) hx hb dX10_orders_16 (by decide) ?_
                  refine lv_iload_n hx hb dX10_orders_4 rfl (lv_at hl 0 rfl) ?_
                  refine lv_iload_n hx hb dX10_orders_5 rfl (lv_at hl 2 rfl) ?_
                  refine tf_icmp_gt (tgt := 19) hx hb ⟨by decide, by decide⟩ ⟨by omega, by omega⟩ dX10_orders_6 (by decide) (fun h9 => ?_) (fun h9 => ?_)
                  · refine lv_iload_n hx hb dX10_orders_19 rfl (lv_at hl 1 rfl) ?_
                    exact tf_reti (z := ((((((((1 * 2) * (2 + 1)) * ((2 + 1) + 1)) * (((2 + 1) + 1) + 1)) * ((((2 + 1) + 1) + 1) + 1)) * (((((2 + 1) + 1) + 1) + 1) + 1)) * ((((((2 + 1) + 1) + 1) + 1) + 1) + 1)) * (((((((2 + 1) + 1) + 1) + 1) + 1) + 1) + 1))) hx hb hr hlocks hQ hW (show 1 ≤ (((((((((1 * 2) * (2 + 1)) * ((2 + 1) + 1)) * (((2 + 1) + 1) + 1)) * ((((2 + 1) + 1) + 1) + 1)) * (((((2 + 1) + 1) + 1) + 1) + 1)) * ((((((2 + 1) + 1) + 1) + 1) + 1) + 1)) * (((((((2 + 1) + 1) + 1) + 1) + 1) + 1) + 1))) ∧ (((((((((1 * 2) * (2 + 1)) * ((2 + 1) + 1)) * (((2 + 1) + 1) + 1)) * ((((2 + 1) + 1) + 1) + 1)) * (((((2 + 1) + 1) + 1) + 1) + 1)) * ((((((2 + 1) + 1) + 1) + 1) + 1) + 1)) * (((((((2 + 1) + 1) + 1) + 1) + 1) + 1) + 1))) ≤ 479001600 by omega) dX10_orders_20
                  · refine lv_iload_n hx hb dX10_orders_9 rfl (lv_at hl 1 rfl) ?_
                    refine lv_iload_n hx hb dX10_orders_10 rfl (lv_at hl 0 rfl) ?_
                    refine tf_imul hx hb dX10_orders_11 ?_
                    refine lv_istore_n (lv' := [(1, .int (Int32.ofInt ((((((((((1 * 2) * (2 + 1)) * ((2 + 1) + 1)) * (((2 + 1) + 1) + 1)) * ((((2 + 1) + 1) + 1) + 1)) * (((((2 + 1) + 1) + 1) + 1) + 1)) * ((((((2 + 1) + 1) + 1) + 1) + 1) + 1)) * (((((((2 + 1) + 1) + 1) + 1) + 1) + 1) + 1)) * ((((((((2 + 1) + 1) + 1) + 1) + 1) + 1) + 1) + 1))))), (2, .int (Int32.ofInt (((((((((2 + 1) + 1) + 1) + 1) + 1) + 1) + 1) + 1)))), (0, .int (Int32.ofInt x0))]) hx hb dX10_orders_12 rfl hl (by decide) rfl (fun ls hl => ?_)
                    refine lv_iinc (v := Int32.ofInt ((((((((((2 + 1) + 1) + 1) + 1) + 1) + 1) + 1) + 1) + 1))) (lv' := [(2, .int (Int32.ofInt ((((((((((2 + 1) + 1) + 1) + 1) + 1) + 1) + 1) + 1) + 1)))), (1, .int (Int32.ofInt ((((((((((1 * 2) * (2 + 1)) * ((2 + 1) + 1)) * (((2 + 1) + 1) + 1)) * ((((2 + 1) + 1) + 1) + 1)) * (((((2 + 1) + 1) + 1) + 1) + 1)) * ((((((2 + 1) + 1) + 1) + 1) + 1) + 1)) * (((((((2 + 1) + 1) + 1) + 1) + 1) + 1) + 1)) * ((((((((2 + 1) + 1) + 1) + 1) + 1) + 1) + 1) + 1))))), (0, .int (Int32.ofInt x0))]) hx hb dX10_orders_13 hl (k := 1) rfl (Int32.ofInt_add _ _).symm (by decide) rfl (fun ls hl => ?_)
                    refine lv_goto (tgt := 4) hx hb dX10_orders_16 (by decide) ?_
                    refine lv_iload_n hx hb dX10_orders_4 rfl (lv_at hl 0 rfl) ?_
                    refine lv_iload_n hx hb dX10_orders_5 rfl (lv_at hl 2 rfl) ?_
                    refine tf_icmp_gt (tgt := 19) hx hb ⟨by decide, by decide⟩ ⟨by omega, by omega⟩ dX10_orders_6 (by decide) (fun h10 => ?_) (fun h10 => ?_)
                    · refine lv_iload_n hx hb dX10_orders_19 rfl (lv_at hl 1 rfl) ?_
                      exact tf_reti (z := (((((((((1 * 2) * (2 + 1)) * ((2 + 1) + 1)) * (((2 + 1) + 1) + 1)) * ((((2 + 1) + 1) + 1) + 1)) * (((((2 + 1) + 1) + 1) + 1) + 1)) * ((((((2 + 1) + 1) + 1) + 1) + 1) + 1)) * (((((((2 + 1) + 1) + 1) + 1) + 1) + 1) + 1)) * ((((((((2 + 1) + 1) + 1) + 1) + 1) + 1) + 1) + 1))) hx hb hr hlocks hQ hW (show 1 ≤ ((((((((((1 * 2) * (2 + 1)) * ((2 + 1) + 1)) * (((2 + 1) + 1) + 1)) * ((((2 + 1) + 1) + 1) + 1)) * (((((2 + 1) + 1) + 1) + 1) + 1)) * ((((((2 + 1) + 1) + 1) + 1) + 1) + 1)) * (((((((2 + 1) + 1) + 1) + 1) + 1) + 1) + 1)) * ((((((((2 + 1) + 1) + 1) + 1) + 1) + 1) + 1) + 1))) ∧ ((((((((((1 * 2) * (2 + 1)) * ((2 + 1) + 1)) * (((2 + 1) + 1) + 1)) * ((((2 + 1) + 1) + 1) + 1)) * (((((2 + 1) + 1) + 1) + 1) + 1)) * ((((((2 + 1) + 1) + 1) + 1) + 1) + 1)) * (((((((2 + 1) + 1) + 1) + 1) + 1) + 1) + 1)) * ((((((((2 + 1) + 1) + 1) + 1) + 1) + 1) + 1) + 1))) ≤ 479001600 by omega) dX10_orders_20
                    · refine lv_iload_n hx hb dX10_orders_9 rfl (lv_at hl 1 rfl) ?_
                      refine lv_iload_n hx hb dX10_orders_10 rfl (lv_at hl 0 rfl) ?_
                      refine tf_imul hx hb dX10_orders_11 ?_
                      refine lv_istore_n (lv' := [(1, .int (Int32.ofInt (((((((((((1 * 2) * (2 + 1)) * ((2 + 1) + 1)) * (((2 + 1) + 1) + 1)) * ((((2 + 1) + 1) + 1) + 1)) * (((((2 + 1) + 1) + 1) + 1) + 1)) * ((((((2 + 1) + 1) + 1) + 1) + 1) + 1)) * (((((((2 + 1) + 1) + 1) + 1) + 1) + 1) + 1)) * ((((((((2 + 1) + 1) + 1) + 1) + 1) + 1) + 1) + 1)) * (((((((((2 + 1) + 1) + 1) + 1) + 1) + 1) + 1) + 1) + 1))))), (2, .int (Int32.ofInt ((((((((((2 + 1) + 1) + 1) + 1) + 1) + 1) + 1) + 1) + 1)))), (0, .int (Int32.ofInt x0))]) hx hb dX10_orders_12 rfl hl (by decide) rfl (fun ls hl => ?_)
                      refine lv_iinc (v := Int32.ofInt (((((((((((2 + 1) + 1) + 1) + 1) + 1) + 1) + 1) + 1) + 1) + 1))) (lv' := [(2, .int (Int32.ofInt (((((((((((2 + 1) + 1) + 1) + 1) + 1) + 1) + 1) + 1) + 1) + 1)))), (1, .int (Int32.ofInt (((((((((((1 * 2) * (2 + 1)) * ((2 + 1) + 1)) * (((2 + 1) + 1) + 1)) * ((((2 + 1) + 1) + 1) + 1)) * (((((2 + 1) + 1) + 1) + 1) + 1)) * ((((((2 + 1) + 1) + 1) + 1) + 1) + 1)) * (((((((2 + 1) + 1) + 1) + 1) + 1) + 1) + 1)) * ((((((((2 + 1) + 1) + 1) + 1) + 1) + 1) + 1) + 1)) * (((((((((2 + 1) + 1) + 1) + 1) + 1) + 1) + 1) + 1) + 1))))), (0, .int (Int32.ofInt x0))]) hx hb dX10_orders_13 hl (k := 1) rfl (Int32.ofInt_add _ _).symm (by decide) rfl (fun ls hl => ?_)
                      refine lv_goto (tgt := 4) hx hb dX10_orders_16 (by decide) ?_
                      refine lv_iload_n hx hb dX10_orders_4 rfl (lv_at hl 0 rfl) ?_
                      refine lv_iload_n hx hb dX10_orders_5 rfl (lv_at hl 2 rfl) ?_
                      refine tf_icmp_gt (tgt := 19) hx hb ⟨by decide, by decide⟩ ⟨by omega, by omega⟩ dX10_orders_6 (by decide) (fun h11 => ?_) (fun h11 => ?_)
                      · refine lv_iload_n hx hb dX10_orders_19 rfl (lv_at hl 1 rfl) ?_
                        exact tf_reti (z := ((((((((((1 * 2) * (2 + 1)) * ((2 + 1) + 1)) * (((2 + 1) + 1) + 1)) * ((((2 + 1) + 1) + 1) + 1)) * (((((2 + 1) + 1) + 1) + 1) + 1)) * ((((((2 + 1) + 1) + 1) + 1) + 1) + 1)) * (((((((2 + 1) + 1) + 1) + 1) + 1) + 1) + 1)) * ((((((((2 + 1) + 1) + 1) + 1) + 1) + 1) + 1) + 1)) * (((((((((2 + 1) + 1) + 1) + 1) + 1) + 1) + 1) + 1) + 1))) hx hb hr hlocks hQ hW (show 1 ≤ (((((((((((1 * 2) * (2 + 1)) * ((2 + 1) + 1)) * (((2 + 1) + 1) + 1)) * ((((2 + 1) + 1) + 1) + 1)) * (((((2 + 1) + 1) + 1) + 1) + 1)) * ((((((2 + 1) + 1) + 1) + 1) + 1) + 1)) * (((((((2 + 1) + 1) + 1) + 1) + 1) + 1) + 1)) * ((((((((2 + 1) + 1) + 1) + 1) + 1) + 1) + 1) + 1)) * (((((((((2 + 1) + 1) + 1) + 1) + 1) + 1) + 1) + 1) + 1))) ∧ (((((((((((1 * 2) * (2 + 1)) * ((2 + 1) + 1)) * (((2 + 1) + 1) + 1)) * ((((2 + 1) + 1) + 1) + 1)) * (((((2 + 1) + 1) + 1) + 1) + 1)) * ((((((2 + 1) + 1) + 1) + 1) + 1) + 1)) * (((((((2 + 1) + 1) + 1) + 1) + 1) + 1) + 1)) * ((((((((2 + 1) + 1) + 1) + 1) + 1) + 1) + 1) + 1)) * (((((((((2 + 1) + 1) + 1) + 1) + 1) + 1) + 1) + 1) + 1))) ≤ 479001600 by omega) dX10_orders_20
                      · refine lv_iload_n hx hb dX10_orders_9 rfl (lv_at hl 1 rfl) ?_
                        refine lv_iload_n hx hb dX10_orders_10 rfl (lv_at hl 0 rfl) ?_
                        refine tf_imul hx hb dX10_orders_11 ?_
                        refine lv_istore_n (lv' := [(1, .int (Int32.ofInt ((((((((((((1 * 2) * (2 + 1)) * ((2 + 1) + 1)) * (((2 + 1) + 1) + 1)) * ((((2 + 1) + 1) + 1) + 1)) * (((((2 + 1) + 1) + 1) + 1) + 1)) * ((((((2 + 1) + 1) + 1) + 1) + 1) + 1)) * (((((((2 + 1) + 1) + 1) + 1) + 1) + 1) + 1)) * ((((((((2 + 1) + 1) + 1) + 1) + 1) + 1) + 1) + 1)) * (((((((((2 + 1) + 1) + 1) + 1) + 1) + 1) + 1) + 1) + 1)) * ((((((((((2 + 1) + 1) + 1) + 1) + 1) + 1) + 1) + 1) + 1) + 1))))), (2, .int (Int32.ofInt (((((((((((2 + 1) + 1) + 1) + 1) + 1) + 1) + 1) + 1) + 1) + 1)))), (0, .int (Int32.ofInt x0))]) hx hb dX10_orders_12 rfl hl (by decide) rfl (fun ls hl => ?_)
                        refine lv_iinc (v := Int32.ofInt ((((((((((((2 + 1) + 1) + 1) + 1) + 1) + 1) + 1) + 1) + 1) + 1) + 1))) (lv' := [(2, .int (Int32.ofInt ((((((((((((2 + 1) + 1) + 1) + 1) + 1) + 1) + 1) + 1) + 1) + 1) + 1)))), (1, .int (Int32.ofInt ((((((((((((1 * 2) * (2 + 1)) * ((2 + 1) + 1)) * (((2 + 1) + 1) + 1)) * ((((2 + 1) + 1) + 1) + 1)) * (((((2 + 1) + 1) + 1) + 1) + 1)) * ((((((2 + 1) + 1) + 1) + 1) + 1) + 1)) * (((((((2 + 1) + 1) + 1) + 1) + 1) + 1) + 1)) * ((((((((2 + 1) + 1) + 1) + 1) + 1) + 1) + 1) + 1)) * (((((((((2 + 1) + 1) + 1) + 1) + 1) + 1) + 1) + 1) + 1)) * ((((((((((2 + 1) + 1) + 1) + 1) + 1) + 1) + 1) + 1) + 1) + 1))))), (0, .int (Int32.ofInt x0))]) hx hb dX10_orders_13 hl (k := 1) rfl (Int32.ofInt_add _ _).symm (by decide) rfl (fun ls hl => ?_)
                        refine lv_goto (tgt := 4) hx hb dX10_orders_16 (by decide) ?_
                        refine lv_iload_n hx hb dX10_orders_4 rfl (lv_at hl 0 rfl) ?_
                        refine lv_iload_n hx hb dX10_orders_5 rfl (lv_at hl 2 rfl) ?_
                        refine tf_icmp_gt (tgt := 19) hx hb ⟨by decide, by decide⟩ ⟨by omega, by omega⟩ dX10_orders_6 (by decide) (fun h12 => ?_) (fun h12 => ?_)
                        · refine lv_iload_n hx hb dX10_orders_19 rfl (lv_at hl 1 rfl) ?_
                          exact tf_reti (z := (((((((((((1 * 2) * (2 + 1)) * ((2 + 1) + 1)) * (((2 + 1) + 1) + 1)) * ((((2 + 1) + 1) + 1) + 1)) * (((((2 + 1) + 1) + 1) + 1) + 1)) * ((((((2 + 1) + 1) + 1) + 1) + 1) + 1)) * (((((((2 + 1) + 1) + 1) + 1) + 1) + 1) + 1)) * ((((((((2 + 1) + 1) + 1) + 1) + 1) + 1) + 1) + 1)) * (((((((((2 + 1) + 1) + 1) + 1) + 1) + 1) + 1) + 1) + 1)) * ((((((((((2 + 1) + 1) + 1) + 1) + 1) + 1) + 1) + 1) + 1) + 1))) hx hb hr hlocks hQ hW (show 1 ≤ ((((((((((((1 * 2) * (2 + 1)) * ((2 + 1) + 1)) * (((2 + 1) + 1) + 1)) * ((((2 + 1) + 1) + 1) + 1)) * (((((2 + 1) + 1) + 1) + 1) + 1)) * ((((((2 + 1) + 1) + 1) + 1) + 1) + 1)) * (((((((2 + 1) + 1) + 1) + 1) + 1) + 1) + 1)) * ((((((((2 + 1) + 1) + 1) + 1) + 1) + 1) + 1) + 1)) * (((((((((2 + 1) + 1) + 1) + 1) + 1) + 1) + 1) + 1) + 1)) * ((((((((((2 + 1) + 1) + 1) + 1) + 1) + 1) + 1) + 1) + 1) + 1))) ∧ ((((((((((((1 * 2) * (2 + 1)) * ((2 + 1) + 1)) * (((2 + 1) + 1) + 1)) * ((((2 + 1) + 1) + 1) + 1)) * (((((2 + 1) + 1) + 1) + 1) + 1)) * ((((((2 + 1) + 1) + 1) + 1) + 1) + 1)) * (((((((2 + 1) + 1) + 1) + 1) + 1) + 1) + 1)) * ((((((((2 + 1) + 1) + 1) + 1) + 1) + 1) + 1) + 1)) * (((((((((2 + 1) + 1) + 1) + 1) + 1) + 1) + 1) + 1) + 1)) * ((((((((((2 + 1) + 1) + 1) + 1) + 1) + 1) + 1) + 1) + 1) + 1))) ≤ 479001600 by omega) dX10_orders_20
                        · exfalso; omega

abbrev M_X10_common : List (Nat × Nat) := []
set_option maxHeartbeats 4000000 in
set_option maxRecDepth 100000 in
theorem c_X10_common (l : Launch) (g : tf_G) (T : tf_T) (x0 : Int) (hp0 : 1 ≤ x0 ∧ x0 ≤ 2147483647) (x1 : Int) (hp1 : 0 ≤ x1 ∧ x1 ≤ 2147483647) : Met l yX10_common (cd_X10_common :: wsL_law) ({ frames := 1, cells := 0, slots := 0, locals := 24 }) (tf_P g T [.int (Int32.ofInt x0), .int (Int32.ofInt x1)] (fun H => True)) (tf_Qi g M_X10_common T (fun z _ _ => 1 ≤ z ∧ z ≤ 2147483647)) 0 0 (fun q => tf_B g ≤ q) := by
  refine Met.ofW (cc := cX10_common) (maxL := 5) (ret := (some .int)) (by decide) rfl ?_
  intro p e s m args below meth c s₁ B hml hv
  obtain ⟨hargs, hk, hW0, hB, hpre⟩ := hv
  have hx := B.exec
  have hb := B.bytes
  have hr := B.returns
  have hts : ∀ w ∈ wsL_law, w.before args s = true := fun w h => atoms_spec (ws := cd_X10_common :: wsL_law) B.pre w (List.mem_cons_of_mem _ h)
  have hown : s.vm.findClass RX10 = some m.cls := findClass_of_methodNamed B.named
  have hlocks := B.notSynchronized
  have hK := hk.1
  have hW := tf_n.start (M := M_X10_common) hW0 hB
  obtain ⟨Q, hQ⟩ : ∃ q, q = MQ below (tf_Qi g M_X10_common T (fun z _ _ => 1 ≤ z ∧ z ≤ 2147483647)) args s 0 0 (fun q => tf_B g ≤ q) := ⟨_, rfl⟩
  rw [← hQ]
  obtain ⟨R, hR⟩ : ∃ q, q = (headSpec (cd_X10_common :: wsL_law) ({ frames := 1, cells := 0, slots := 0, locals := 24 })).room := ⟨_, rfl⟩
  rw [← hR]
  have hR1 : 1 ≤ R.frames := by rw [hR]; exact Nat.le_refl _
  have hR2 : 24 ≤ R.locals := by rw [hR]; exact Nat.le_refl _
  have hR3 : 0 ≤ R.cells := by rw [hR]; exact Nat.le_refl _
  have hR4 : 0 ≤ R.slots := by rw [hR]; exact Nat.le_refl _
  have hin := (name_of_methodNamed B.named B.method).1
  clear hR B
  have j_4 : ∀ (n_4 : Nat), ∀ (x2_4 : Int), 1 ≤ x2_4 ∧ x2_4 ≤ 2147483647 → ∀ (x3_4 : Int), 0 ≤ x3_4 ∧ x3_4 ≤ 2147483647 → (x3_4 + 1 ≤ (n_4 : Int)) → ∀ (H : Heap) (locs : List Loc), tf_n tf_kt g M_X10_common T s.heap T H locs → ∀ (ls : Array Slot), lv_has ls 5 [(2, .int (Int32.ofInt x2_4)), (3, .int (Int32.ofInt x3_4))] → W p l e R s m args below meth c H locs 0 0 Q (F0 m 4 ls []) := by
    intro n_4
    induction n_4 with
    | zero =>
      intro x2_4 hx2_4 x3_4 hx3_4 hm_4
      exfalso; omega
    | succ n_4 ih_4 =>
      intro x2_4 hx2_4 x3_4 hx3_4 hm_4 H locs hW  ls hl
      refine lv_iload_n hx hb dX10_common_4 rfl (lv_at hl 1 rfl) ?_
      refine tf_if_eq (tgt := 21) hx hb ⟨by omega, by omega⟩ dX10_common_5 (by decide) (fun h1 => ?_) (fun h1 => ?_)
      · refine lv_iload_n hx hb dX10_common_21 rfl (lv_at hl 0 rfl) ?_
        exact tf_reti (z := x2_4) hx hb hr hlocks hQ hW (show 1 ≤ (x2_4) ∧ (x2_4) ≤ 2147483647 by omega) dX10_common_22
      · refine lv_iload_n hx hb dX10_common_8 rfl (lv_at hl 0 rfl) ?_
        refine lv_iload_n hx hb dX10_common_9 rfl (lv_at hl 1 rfl) ?_
        refine tf_irem_pos hx hb ⟨by omega, by omega⟩ (by omega) ⟨by omega, by omega⟩ (by omega) dX10_common_10 (fun z2 hz2 => ?_)
        refine lv_istore (lv' := [(4, .int (Int32.ofInt z2)), (2, .int (Int32.ofInt x2_4)), (3, .int (Int32.ofInt x3_4))]) hx hb dX10_common_11 hl (by decide) rfl (fun ls hl => ?_)
        refine lv_iload_n hx hb dX10_common_13 rfl (lv_at hl 2 rfl) ?_
        refine lv_istore_n (lv' := [(2, .int (Int32.ofInt x3_4)), (4, .int (Int32.ofInt z2)), (3, .int (Int32.ofInt x3_4))]) hx hb dX10_common_14 rfl hl (by decide) rfl (fun ls hl => ?_)
        refine lv_iload hx hb dX10_common_15 (lv_at hl 1 rfl) ?_
        refine lv_istore_n (lv' := [(3, .int (Int32.ofInt z2)), (2, .int (Int32.ofInt x3_4)), (4, .int (Int32.ofInt z2))]) hx hb dX10_common_17 rfl hl (by decide) rfl (fun ls hl => ?_)
        refine lv_goto (tgt := 4) hx hb dX10_common_18 (by decide) ?_
        exact ih_4 (x3_4) ⟨by omega, by omega⟩ (z2) ⟨by omega, by omega⟩ (by omega) _ _ hW  _ (lv_sub hl [1, 0] rfl)
  refine tf_enter (As := [.int (Int32.ofInt x0), .int (Int32.ofInt x1)]) hargs (Nat.le_of_ble_eq_true rfl) (fun ls hl => ?_)
  have hl : lv_has ls 5 [(0, .int (Int32.ofInt x0)), (1, .int (Int32.ofInt x1))] := hl
  refine lv_iload_n hx hb dX10_common_0 rfl (lv_at hl 0 rfl) ?_
  refine lv_istore_n (lv' := [(2, .int (Int32.ofInt x0)), (0, .int (Int32.ofInt x0)), (1, .int (Int32.ofInt x1))]) hx hb dX10_common_1 rfl hl (by decide) rfl (fun ls hl => ?_)
  refine lv_iload_n hx hb dX10_common_2 rfl (lv_at hl 2 rfl) ?_
  refine lv_istore_n (lv' := [(3, .int (Int32.ofInt x1)), (2, .int (Int32.ofInt x0)), (0, .int (Int32.ofInt x0)), (1, .int (Int32.ofInt x1))]) hx hb dX10_common_3 rfl hl (by decide) rfl (fun ls hl => ?_)
  exact j_4 ((x1 + 1 : Int)).toNat (x0) ⟨by omega, by omega⟩ (x1) ⟨by omega, by omega⟩ (by omega) _ _ hW  _ (lv_sub hl [1, 0] rfl)

abbrev M_X10_buildPaper : List (Nat × Nat) := [(40, 0), (41, 0), (42, 0), (43, 0), (44, 0)]
set_option maxHeartbeats 4000000 in
set_option maxRecDepth 100000 in
theorem c_X10_buildPaper (l : Launch) (g : tf_G) (T : tf_T) (a0 : Nat) (ha0 : T a0 = some (50, 0)) (x1 : Int) (hp1 : 0 ≤ x1 ∧ x1 ≤ 9) (x2 : Int) (hp2 : 0 ≤ x2 ∧ x2 ≤ 9) (x3 : Int) (hp3 : 1 ≤ x3 ∧ x3 ≤ 5) (x4 : Int) (hp4 : 1 ≤ x4 ∧ x4 ≤ 5) (x5 : Int) (hp5 : (-2147483648) ≤ x5 ∧ x5 ≤ 2147483647) (hq0 : x1 + x3 ≤ 10) (hq1 : x2 + x4 ≤ 10) : Met l yX10_buildPaper (cd_X10_buildPaper :: wsL_law) ({ frames := 6, cells := 0, slots := 0, locals := 139 }) (tf_P g T [.ref a0, .int (Int32.ofInt x1), .int (Int32.ofInt x2), .int (Int32.ofInt x3), .int (Int32.ofInt x4), .int (Int32.ofInt x5)] (fun H => True)) (tf_Qv g M_X10_buildPaper T (fun _ H => True)) 0 0 (fun q => tf_B g ≤ q) := by
  refine Met.ofW (cc := cX10_buildPaper) (maxL := 9) (ret := none) (by decide) rfl ?_
  intro p e s m args below meth c s₁ B hml hv
  obtain ⟨hargs, hk, hW0, hB, hpre⟩ := hv
  have hx := B.exec
  have hb := B.bytes
  have hr := B.returns
  have hts : ∀ w ∈ wsL_law, w.before args s = true := fun w h => atoms_spec (ws := cd_X10_buildPaper :: wsL_law) B.pre w (List.mem_cons_of_mem _ h)
  have hown : s.vm.findClass RX10 = some m.cls := findClass_of_methodNamed B.named
  have hlocks := B.notSynchronized
  have hK := hk.1
  have hW := tf_n.start (M := M_X10_buildPaper) hW0 hB
  obtain ⟨Q, hQ⟩ : ∃ q, q = MQ below (tf_Qv g M_X10_buildPaper T (fun _ H => True)) args s 0 0 (fun q => tf_B g ≤ q) := ⟨_, rfl⟩
  rw [← hQ]
  obtain ⟨R, hR⟩ : ∃ q, q = (headSpec (cd_X10_buildPaper :: wsL_law) ({ frames := 6, cells := 0, slots := 0, locals := 139 })).room := ⟨_, rfl⟩
  rw [← hR]
  have hR1 : 6 ≤ R.frames := by rw [hR]; exact Nat.le_refl _
  have hR2 : 139 ≤ R.locals := by rw [hR]; exact Nat.le_refl _
  have hR3 : 0 ≤ R.cells := by rw [hR]; exact Nat.le_refl _
  have hR4 : 0 ≤ R.slots := by rw [hR]; exact Nat.le_refl _
  have hin := (name_of_methodNamed B.named B.method).1
  clear hR B
  have j_16 : ∀ (n_16 : Nat), 0 ≤ x1 ∧ x1 ≤ 9 → 0 ≤ x2 ∧ x2 ≤ 9 → 1 ≤ x3 ∧ x3 ≤ 5 → 1 ≤ x4 ∧ x4 ≤ 5 → ∀ (x6_16 : Int), 0 ≤ x6_16 ∧ x6_16 ≤ 16 → (16 - x6_16 + 1 ≤ (n_16 : Int)) → ∀ (H : Heap) (locs : List Loc), tf_n tf_kt g M_X10_buildPaper T s.heap T H locs → ∀ (ls : Array Slot), lv_has ls 9 [(0, .ref a0), (1, .int (Int32.ofInt x1)), (2, .int (Int32.ofInt x2)), (3, .int (Int32.ofInt x3)), (4, .int (Int32.ofInt x4)), (6, .int (Int32.ofInt x6_16))] → W p l e R s m args below meth c H locs 0 0 Q (F0 m 16 ls []) := by
    intro n_16
    induction n_16 with
    | zero =>
      intro hx1_16 hx2_16 hx3_16 hx4_16 x6_16 hx6_16 hm_16
      exfalso; omega
    | succ n_16 ih_16 =>
      intro hx1_16 hx2_16 hx3_16 hx4_16 x6_16 hx6_16 hm_16 H locs hW  ls hl
      have j_28 : ∀ (n_28 : Nat), 0 ≤ x1 ∧ x1 ≤ 9 → 0 ≤ x2 ∧ x2 ≤ 9 → 1 ≤ x3 ∧ x3 ≤ 5 → 1 ≤ x4 ∧ x4 ≤ 5 → 0 ≤ x6_16 ∧ x6_16 ≤ 13 → ∀ (x7_28 : Int), 0 ≤ x7_28 ∧ x7_28 ≤ 16 → (x6_16 < x2 + x4) → (16 - x7_28 + 1 ≤ (n_28 : Int)) → ∀ (H : Heap) (locs : List Loc), tf_n tf_kt g M_X10_buildPaper T s.heap T H locs → ∀ (ls : Array Slot), lv_has ls 9 [(0, .ref a0), (1, .int (Int32.ofInt x1)), (2, .int (Int32.ofInt x2)), (3, .int (Int32.ofInt x3)), (4, .int (Int32.ofInt x4)), (6, .int (Int32.ofInt x6_16)), (7, .int (Int32.ofInt x7_28))] → W p l e R s m args below meth c H locs 0 0 Q (F0 m 28 ls []) := by
        intro n_28
        induction n_28 with
        | zero =>
          intro hx1_28 hx2_28 hx3_28 hx4_28 hx6_28 x7_28 hx7_28 hi0_28 hm_28
          exfalso; omega
        | succ n_28 ih_28 =>
          intro hx1_28 hx2_28 hx3_28 hx4_28 hx6_28 x7_28 hx7_28 hi0_28 hm_28 H locs hW  ls hl
          refine lv_iload hx hb dX10_buildPaper_28 (lv_at hl 6 rfl) ?_
          refine lv_iload_n hx hb dX10_buildPaper_30 rfl (lv_at hl 1 rfl) ?_
          refine lv_iload_n hx hb dX10_buildPaper_31 rfl (lv_at hl 3 rfl) ?_
          refine tf_iadd hx hb dX10_buildPaper_32 ?_
          refine tf_icmp_ge (tgt := 85) hx hb ⟨by omega, by omega⟩ ⟨by omega, by omega⟩ dX10_buildPaper_33 (by decide) (fun h1 => ?_) (fun h1 => ?_)
          · refine lv_iinc (v := Int32.ofInt ((x6_16 + 1))) (lv' := [(6, .int (Int32.ofInt ((x6_16 + 1)))), (0, .ref a0), (1, .int (Int32.ofInt x1)), (2, .int (Int32.ofInt x2)), (3, .int (Int32.ofInt x3)), (4, .int (Int32.ofInt x4)), (7, .int (Int32.ofInt x7_28))]) hx hb dX10_buildPaper_85 hl (k := 5) rfl (Int32.ofInt_add _ _).symm (by decide) rfl (fun ls hl => ?_)
            refine lv_goto (tgt := 16) hx hb dX10_buildPaper_88 (by decide) ?_
            exact ih_16 ⟨by omega, by omega⟩ ⟨by omega, by omega⟩ ⟨by omega, by omega⟩ ⟨by omega, by omega⟩ ((x6_16 + 1)) ⟨by omega, by omega⟩ (by omega) _ _ hW  _ (lv_sub hl [1, 2, 3, 4, 5, 0] rfl)
          · refine tf_bipush hx hb dX10_buildPaper_36 (by decide) ?_
            refine lv_iload hx hb dX10_buildPaper_38 (lv_at hl 5 rfl) ?_
            refine tf_imul hx hb dX10_buildPaper_40 ?_
            refine lv_iload hx hb dX10_buildPaper_41 (lv_at hl 6 rfl) ?_
            refine tf_iadd hx hb dX10_buildPaper_43 ?_
            refine lv_istore (lv' := [(8, .int (Int32.ofInt (((10 * x6_16) + x7_28)))), (0, .ref a0), (1, .int (Int32.ofInt x1)), (2, .int (Int32.ofInt x2)), (3, .int (Int32.ofInt x3)), (4, .int (Int32.ofInt x4)), (6, .int (Int32.ofInt x6_16)), (7, .int (Int32.ofInt x7_28))]) hx hb dX10_buildPaper_44 hl (by decide) rfl (fun ls hl => ?_)
            refine lv_aload_n hx hb dX10_buildPaper_46 rfl (lv_at hl 1 rfl) ?_
            refine tf_get hx hb hts inlX10 hown hK (ci := 10) rfl hW ha0 rfl 32 rfl (by decide) (hts _ fl_X10_73) dX10_buildPaper_47 (fun v2 hv2 hsv2 => ?_)
            obtain ⟨ad3, rfl, had3⟩ := tf_v1 hv2
            refine lv_iload hx hb dX10_buildPaper_50 (lv_at hl 0 rfl) ?_
            refine tf_bipush hx hb dX10_buildPaper_52 (by decide) ?_
            refine tf_iast (t0 := 0) hx hb hK hW had3 rfl rfl (by omega) (by omega) (by decide) (tf_u0 (by omega) (by omega)) dX10_buildPaper_54 (fun H4 locs4 hW hs4 ht4 hq4 => ?_)
            refine lv_aload_n hx hb dX10_buildPaper_55 rfl (lv_at hl 1 rfl) ?_
            refine tf_get hx hb hts inlX10 hown hK (ci := 10) rfl hW ha0 rfl 33 rfl (by decide) (hts _ fl_X10_76) dX10_buildPaper_56 (fun v5 hv5 hsv5 => ?_)
            obtain ⟨ad6, rfl, had6⟩ := tf_v1 hv5
            refine lv_iload hx hb dX10_buildPaper_59 (lv_at hl 0 rfl) ?_
            refine tf_iconst hx hb dX10_buildPaper_61 ?_
            refine tf_iast (t0 := 0) hx hb hK hW had6 rfl rfl (by omega) (by omega) (by decide) (tf_u0 (by omega) (by omega)) dX10_buildPaper_62 (fun H7 locs7 hW hs7 ht7 hq7 => ?_)
            refine lv_aload_n hx hb dX10_buildPaper_63 rfl (lv_at hl 1 rfl) ?_
            refine tf_get hx hb hts inlX10 hown hK (ci := 10) rfl hW ha0 rfl 34 rfl (by decide) (hts _ fl_X10_79) dX10_buildPaper_64 (fun v8 hv8 hsv8 => ?_)
            obtain ⟨ad9, rfl, had9⟩ := tf_v1 hv8
            refine lv_iload hx hb dX10_buildPaper_67 (lv_at hl 0 rfl) ?_
            refine tf_iconst hx hb dX10_buildPaper_69 ?_
            refine tf_iast (t0 := 0) hx hb hK hW had9 rfl rfl (by omega) (by omega) (by decide) (tf_u0 (by omega) (by omega)) dX10_buildPaper_70 (fun H10 locs10 hW hs10 ht10 hq10 => ?_)
            refine lv_aload_n hx hb dX10_buildPaper_71 rfl (lv_at hl 1 rfl) ?_
            refine tf_get hx hb hts inlX10 hown hK (ci := 10) rfl hW ha0 rfl 35 rfl (by decide) (hts _ fl_X10_82) dX10_buildPaper_72 (fun v11 hv11 hsv11 => ?_)
            obtain ⟨ad12, rfl, had12⟩ := tf_v1 hv11
            refine lv_iload hx hb dX10_buildPaper_75 (lv_at hl 0 rfl) ?_
            refine tf_iconst hx hb dX10_buildPaper_77 ?_
            refine tf_iast (t0 := 0) hx hb hK hW had12 rfl rfl (by omega) (by omega) (by decide) (tf_u0 (by omega) (by omega)) dX10_buildPaper_78 (fun H13 locs13 hW hs13 ht13 hq13 => ?_)
            refine lv_iinc (v := Int32.ofInt ((x7_28 + 1))) (lv' := [(7, .int (Int32.ofInt ((x7_28 + 1)))), (8, .int (Int32.ofInt (((10 * x6_16) + x7_28)))), (0, .ref a0), (1, .int (Int32.ofInt x1)), (2, .int (Int32.ofInt x2)), (3, .int (Int32.ofInt x3)), (4, .int (Int32.ofInt x4)), (6, .int (Int32.ofInt x6_16))]) hx hb dX10_buildPaper_79 hl (k := 7) rfl (Int32.ofInt_add _ _).symm (by decide) rfl (fun ls hl => ?_)
            refine lv_goto (tgt := 28) hx hb dX10_buildPaper_82 (by decide) ?_
            exact ih_28 ⟨by omega, by omega⟩ ⟨by omega, by omega⟩ ⟨by omega, by omega⟩ ⟨by omega, by omega⟩ ⟨by omega, by omega⟩ ((x7_28 + 1)) ⟨by omega, by omega⟩ (by omega) (by omega) _ _ hW  _ (lv_sub hl [2, 3, 4, 5, 6, 7, 0] rfl)
      refine lv_iload hx hb dX10_buildPaper_16 (lv_at hl 5 rfl) ?_
      refine lv_iload_n hx hb dX10_buildPaper_18 rfl (lv_at hl 2 rfl) ?_
      refine lv_iload hx hb dX10_buildPaper_19 (lv_at hl 4 rfl) ?_
      refine tf_iadd hx hb dX10_buildPaper_21 ?_
      refine tf_icmp_ge (tgt := 91) hx hb ⟨by omega, by omega⟩ ⟨by omega, by omega⟩ dX10_buildPaper_22 (by decide) (fun h14 => ?_) (fun h14 => ?_)
      · exact tf_retv hx hb hr hlocks hQ hW trivial dX10_buildPaper_91
      · refine lv_iload_n hx hb dX10_buildPaper_25 rfl (lv_at hl 1 rfl) ?_
        refine lv_istore (lv' := [(7, .int (Int32.ofInt x1)), (0, .ref a0), (1, .int (Int32.ofInt x1)), (2, .int (Int32.ofInt x2)), (3, .int (Int32.ofInt x3)), (4, .int (Int32.ofInt x4)), (6, .int (Int32.ofInt x6_16))]) hx hb dX10_buildPaper_26 hl (by decide) rfl (fun ls hl => ?_)
        exact j_28 ((16 - x1 + 1 : Int)).toNat ⟨by omega, by omega⟩ ⟨by omega, by omega⟩ ⟨by omega, by omega⟩ ⟨by omega, by omega⟩ ⟨by omega, by omega⟩ (x1) ⟨by omega, by omega⟩ (by omega) (by omega) _ _ hW  _ (lv_sub hl [1, 2, 3, 4, 5, 6, 0] rfl)
  refine tf_enter (As := [.ref a0, .int (Int32.ofInt x1), .int (Int32.ofInt x2), .int (Int32.ofInt x3), .int (Int32.ofInt x4), .int (Int32.ofInt x5)]) hargs (Nat.le_of_ble_eq_true rfl) (fun ls hl => ?_)
  have hl : lv_has ls 9 [(0, .ref a0), (1, .int (Int32.ofInt x1)), (2, .int (Int32.ofInt x2)), (3, .int (Int32.ofInt x3)), (4, .int (Int32.ofInt x4)), (5, .int (Int32.ofInt x5))] := hl
  refine lv_aload_n hx hb dX10_buildPaper_0 rfl (lv_at hl 0 rfl) ?_
  refine tf_callv (va_runV (As := []) (rest := []) ⟨hx, hb, hml, hown, hts⟩ (c_X10_layAll l g T a0 ha0) (cwV 0 hts gv_X10_405 rfl rfl rfl hd_X10_layAll ⟨Nat.le_trans (by decide) hR1, Nat.le_trans (by decide) hR2⟩) (tf_preV hk hW ha0 (ci := 10) rfl rfl trivial) rfl rfl hl.1 rfl (lv_room (Nat.le_of_ble_eq_true rfl)) dX10_buildPaper_1 ⟨Nat.zero_le _, Nat.zero_le _⟩) hW (by decide) (fun H15 locs15 hW hF15 hp15 => ?_)
  refine lv_aload_n hx hb dX10_buildPaper_4 rfl (lv_at hl 0 rfl) ?_
  refine tf_get hx hb hts inlX10 hown hK (ci := 10) rfl hW ha0 rfl 36 rfl (by decide) (hts _ fl_X10_85) dX10_buildPaper_5 (fun v16 hv16 hsv16 => ?_)
  obtain ⟨ad17, rfl, had17⟩ := tf_v1 hv16
  refine tf_bipush hx hb dX10_buildPaper_8 (by decide) ?_
  refine lv_iload hx hb dX10_buildPaper_10 (lv_at hl 5 rfl) ?_
  refine tf_iast (t0 := 0) hx hb hK hW had17 rfl rfl (by omega) (by omega) (by decide) (tf_u0 (by omega) (by omega)) dX10_buildPaper_12 (fun H18 locs18 hW hs18 ht18 hq18 => ?_)
  refine lv_iload_n hx hb dX10_buildPaper_13 rfl (lv_at hl 2 rfl) ?_
  refine lv_istore (lv' := [(6, .int (Int32.ofInt x2)), (0, .ref a0), (1, .int (Int32.ofInt x1)), (2, .int (Int32.ofInt x2)), (3, .int (Int32.ofInt x3)), (4, .int (Int32.ofInt x4)), (5, .int (Int32.ofInt x5))]) hx hb dX10_buildPaper_14 hl (by decide) rfl (fun ls hl => ?_)
  exact j_16 ((16 - x2 + 1 : Int)).toNat ⟨by omega, by omega⟩ ⟨by omega, by omega⟩ ⟨by omega, by omega⟩ ⟨by omega, by omega⟩ (x2) ⟨by omega, by omega⟩ (by omega) _ _ hW  _ (lv_sub hl [1, 2, 3, 4, 5, 0] rfl)

abbrev M_X10_canBuild : List (Nat × Nat) := []
set_option maxHeartbeats 4000000 in
set_option maxRecDepth 100000 in
theorem c_X10_canBuild (l : Launch) (g : tf_G) (T : tf_T) (a0 : Nat) (ha0 : T a0 = some (50, 0)) (x1 : Int) (hp1 : (-2147483648) ≤ x1 ∧ x1 ≤ 2147483647) (x2 : Int) (hp2 : (-2147483648) ≤ x2 ∧ x2 ≤ 2147483647) (x3 : Int) (hp3 : (-2147483648) ≤ x3 ∧ x3 ≤ 2147483647) (x4 : Int) (hp4 : (-2147483648) ≤ x4 ∧ x4 ≤ 2147483647) (x5 : Int) (hp5 : (-2147483648) ≤ x5 ∧ x5 ≤ 2147483647) : Met l yX10_canBuild (cd_X10_canBuild :: wsL_law) ({ frames := 6, cells := 0, slots := 0, locals := 145 }) (tf_P g T [.ref a0, .int (Int32.ofInt x1), .int (Int32.ofInt x2), .int (Int32.ofInt x3), .int (Int32.ofInt x4), .int (Int32.ofInt x5)] (fun H => True)) (tf_Qi g M_X10_canBuild T (fun z _ _ => (z = 1 ∧ 0 ≤ x1 ∧ x1 ≤ 9 ∧ 0 ≤ x2 ∧ x2 ≤ 9 ∧ 1 ≤ x3 ∧ x3 ≤ 5 ∧ 1 ≤ x4 ∧ x4 ≤ 5 ∧ 1 ≤ x5 ∧ x5 ≤ 40 ∧ x1 + x3 ≤ 10 ∧ x2 + x4 ≤ 10) ∨ (z = 0))) 0 0 (fun q => tf_B g ≤ q) := by
  refine Met.ofW (cc := cX10_canBuild) (maxL := 6) (ret := (some .boolean)) (by decide) rfl ?_
  intro p e s m args below meth c s₁ B hml hv
  obtain ⟨hargs, hk, hW0, hB, hpre⟩ := hv
  have hx := B.exec
  have hb := B.bytes
  have hr := B.returns
  have hts : ∀ w ∈ wsL_law, w.before args s = true := fun w h => atoms_spec (ws := cd_X10_canBuild :: wsL_law) B.pre w (List.mem_cons_of_mem _ h)
  have hown : s.vm.findClass RX10 = some m.cls := findClass_of_methodNamed B.named
  have hlocks := B.notSynchronized
  have hK := hk.1
  have hW := tf_n.start (M := M_X10_canBuild) hW0 hB
  obtain ⟨Q, hQ⟩ : ∃ q, q = MQ below (tf_Qi g M_X10_canBuild T (fun z _ _ => (z = 1 ∧ 0 ≤ x1 ∧ x1 ≤ 9 ∧ 0 ≤ x2 ∧ x2 ≤ 9 ∧ 1 ≤ x3 ∧ x3 ≤ 5 ∧ 1 ≤ x4 ∧ x4 ≤ 5 ∧ 1 ≤ x5 ∧ x5 ≤ 40 ∧ x1 + x3 ≤ 10 ∧ x2 + x4 ≤ 10) ∨ (z = 0))) args s 0 0 (fun q => tf_B g ≤ q) := ⟨_, rfl⟩
  rw [← hQ]
  obtain ⟨R, hR⟩ : ∃ q, q = (headSpec (cd_X10_canBuild :: wsL_law) ({ frames := 6, cells := 0, slots := 0, locals := 145 })).room := ⟨_, rfl⟩
  rw [← hR]
  have hR1 : 6 ≤ R.frames := by rw [hR]; exact Nat.le_refl _
  have hR2 : 145 ≤ R.locals := by rw [hR]; exact Nat.le_refl _
  have hR3 : 0 ≤ R.cells := by rw [hR]; exact Nat.le_refl _
  have hR4 : 0 ≤ R.slots := by rw [hR]; exact Nat.le_refl _
  have hin := (name_of_methodNamed B.named B.method).1
  clear hR B
  refine tf_enter (As := [.ref a0, .int (Int32.ofInt x1), .int (Int32.ofInt x2), .int (Int32.ofInt x3), .int (Int32.ofInt x4), .int (Int32.ofInt x5)]) hargs (Nat.le_of_ble_eq_true rfl) (fun ls hl => ?_)
  have hl : lv_has ls 6 [(0, .ref a0), (1, .int (Int32.ofInt x1)), (2, .int (Int32.ofInt x2)), (3, .int (Int32.ofInt x3)), (4, .int (Int32.ofInt x4)), (5, .int (Int32.ofInt x5))] := hl
  refine lv_iload_n hx hb dX10_canBuild_0 rfl (lv_at hl 1 rfl) ?_
  refine lv_iload_n hx hb dX10_canBuild_1 rfl (lv_at hl 2 rfl) ?_
  refine lv_iload_n hx hb dX10_canBuild_2 rfl (lv_at hl 3 rfl) ?_
  refine lv_iload hx hb dX10_canBuild_3 (lv_at hl 4 rfl) ?_
  refine lv_iload hx hb dX10_canBuild_5 (lv_at hl 5 rfl) ?_
  refine tf_calli (va_runS (As := [.int (Int32.ofInt x1), .int (Int32.ofInt x2), .int (Int32.ofInt x3), .int (Int32.ofInt x4), .int (Int32.ofInt x5)]) (rest := []) ⟨hx, hb, hml, hown, hts⟩ (c_X10_canBe l g T (x1) ⟨by omega, by omega⟩ (x2) ⟨by omega, by omega⟩ (x3) ⟨by omega, by omega⟩ (x4) ⟨by omega, by omega⟩ (x5) ⟨by omega, by omega⟩) ⟨callB_of 5 hts (gw_ws cm_X10_canBe) rfl rfl rfl (hts _ (tw1 (i := 5) rfl)) (hts _ (tw10 (i := 21) rfl)) hd_X10_canBe.2 ⟨Nat.le_trans (by decide) hR1, Nat.le_trans (by decide) hR2⟩, hts _ (tw10 (i := 22) rfl)⟩ (tf_preS hk hW trivial) rfl rfl hl.1 rfl (lv_room (Nat.le_of_ble_eq_true rfl)) dX10_canBuild_7 ⟨Nat.zero_le _, Nat.zero_le _⟩) hW (by decide) (fun z1 H1 locs1 hW hF1 hp1 => ?_)
  rcases hp1 with ⟨rfl, h2, h3, h4, h5, h6, h7, h8, h9, h10, h11, h12, h13⟩ | ⟨rfl⟩
  · refine tf_if_eq (tgt := 40) hx hb ⟨by decide, by decide⟩ dX10_canBuild_10 (by decide) (fun h14 => ?_) (fun h14 => ?_)
    · exfalso; omega
    · refine lv_aload_n hx hb dX10_canBuild_13 rfl (lv_at hl 0 rfl) ?_
      refine tf_get hx hb hts inlX10 hown hK (ci := 10) rfl hW ha0 rfl 3 rfl (by decide) (hts _ fl_X10_13) dX10_canBuild_14 (fun v15 hv15 hsv15 => ?_)
      obtain ⟨ad16, rfl, had16⟩ := tf_v1 hv15
      refine tf_iconst hx hb dX10_canBuild_17 ?_
      refine tf_iald (t0 := 0) hx hb hK hW had16 rfl rfl (by omega) (by omega) dX10_canBuild_18 (fun v17 hv17 hsv17 => ?_)
      obtain ⟨z18, rfl, hz18⟩ := tf_v0 hv17
      have hg19 := tf_rd0 (tf_ROof hW had16) hsv17 ⟨by omega, by omega⟩ (by omega)
      refine tf_bipush hx hb dX10_canBuild_19 (by decide) ?_
      refine tf_icmp_ge (tgt := 40) hx hb ⟨by omega, by omega⟩ ⟨by decide, by decide⟩ dX10_canBuild_21 (by decide) (fun h20 => ?_) (fun h20 => ?_)
      · refine tf_iconst hx hb dX10_canBuild_40 ?_
        exact tf_retz (z := 0) hx hb hr hlocks hQ hW (by omega) (show ((0) = 1 ∧ 0 ≤ x1 ∧ x1 ≤ 9 ∧ 0 ≤ x2 ∧ x2 ≤ 9 ∧ 1 ≤ x3 ∧ x3 ≤ 5 ∧ 1 ≤ x4 ∧ x4 ≤ 5 ∧ 1 ≤ x5 ∧ x5 ≤ 40 ∧ x1 + x3 ≤ 10 ∧ x2 + x4 ≤ 10) ∨ ((0) = 0) by omega) dX10_canBuild_41
      · refine lv_aload_n hx hb dX10_canBuild_24 rfl (lv_at hl 0 rfl) ?_
        refine lv_iload_n hx hb dX10_canBuild_25 rfl (lv_at hl 1 rfl) ?_
        refine lv_iload_n hx hb dX10_canBuild_26 rfl (lv_at hl 2 rfl) ?_
        refine lv_iload_n hx hb dX10_canBuild_27 rfl (lv_at hl 3 rfl) ?_
        refine lv_iload hx hb dX10_canBuild_28 (lv_at hl 4 rfl) ?_
        refine tf_calli (va_runV (As := [.int (Int32.ofInt x1), .int (Int32.ofInt x2), .int (Int32.ofInt x3), .int (Int32.ofInt x4)]) (rest := []) ⟨hx, hb, hml, hown, hts⟩ (c_X10_isFree l g T a0 ha0 (x1) ⟨by omega, by omega⟩ (x2) ⟨by omega, by omega⟩ (x3) ⟨by omega, by omega⟩ (x4) ⟨by omega, by omega⟩) (cwV 4 hts gv_X10_161 rfl rfl rfl hd_X10_isFree ⟨Nat.le_trans (by decide) hR1, Nat.le_trans (by decide) hR2⟩) (tf_preV hk hW ha0 (ci := 10) rfl rfl trivial) rfl rfl hl.1 rfl (lv_room (Nat.le_of_ble_eq_true rfl)) dX10_canBuild_30 ⟨Nat.zero_le _, Nat.zero_le _⟩) hW (by decide) (fun z21 H21 locs21 hW hF21 hp21 => ?_)
        have hp21 : z21 = 0 ∨ z21 = 1 := hp21
        refine tf_if_eq (tgt := 40) hx hb ⟨by omega, by omega⟩ dX10_canBuild_33 (by decide) (fun h22 => ?_) (fun h22 => ?_)
        · refine tf_iconst hx hb dX10_canBuild_40 ?_
          exact tf_retz (z := 0) hx hb hr hlocks hQ hW (by omega) (show ((0) = 1 ∧ 0 ≤ x1 ∧ x1 ≤ 9 ∧ 0 ≤ x2 ∧ x2 ≤ 9 ∧ 1 ≤ x3 ∧ x3 ≤ 5 ∧ 1 ≤ x4 ∧ x4 ≤ 5 ∧ 1 ≤ x5 ∧ x5 ≤ 40 ∧ x1 + x3 ≤ 10 ∧ x2 + x4 ≤ 10) ∨ ((0) = 0) by omega) dX10_canBuild_41
        · refine tf_iconst hx hb dX10_canBuild_36 ?_
          refine lv_goto (tgt := 41) hx hb dX10_canBuild_37 (by decide) ?_
          exact tf_retz (z := 1) hx hb hr hlocks hQ hW (by omega) (show ((1) = 1 ∧ 0 ≤ x1 ∧ x1 ≤ 9 ∧ 0 ≤ x2 ∧ x2 ≤ 9 ∧ 1 ≤ x3 ∧ x3 ≤ 5 ∧ 1 ≤ x4 ∧ x4 ≤ 5 ∧ 1 ≤ x5 ∧ x5 ≤ 40 ∧ x1 + x3 ≤ 10 ∧ x2 + x4 ≤ 10) ∨ ((1) = 0) by omega) dX10_canBuild_41
  · refine tf_if_eq (tgt := 40) hx hb ⟨by decide, by decide⟩ dX10_canBuild_10 (by decide) (fun h23 => ?_) (fun h23 => ?_)
    · refine tf_iconst hx hb dX10_canBuild_40 ?_
      exact tf_retz (z := 0) hx hb hr hlocks hQ hW (by omega) (show ((0) = 1 ∧ 0 ≤ x1 ∧ x1 ≤ 9 ∧ 0 ≤ x2 ∧ x2 ≤ 9 ∧ 1 ≤ x3 ∧ x3 ≤ 5 ∧ 1 ≤ x4 ∧ x4 ≤ 5 ∧ 1 ≤ x5 ∧ x5 ≤ 40 ∧ x1 + x3 ≤ 10 ∧ x2 + x4 ≤ 10) ∨ ((0) = 0) by omega) dX10_canBuild_41
    · exfalso; omega

abbrev M_X10_count : List (Nat × Nat) := [(50, 0)]
set_option maxHeartbeats 4000000 in
set_option maxRecDepth 100000 in
theorem c_X10_count (l : Launch) (g : tf_G) (T : tf_T) (a0 : Nat) (ha0 : T a0 = some (50, 0)) (x1 : Int) (hp1 : (-2147483648) ≤ x1 ∧ x1 ≤ 2147483647) : Met l yX10_count (cd_X10_count :: wsL_law) ({ frames := 4, cells := 0, slots := 0, locals := 96 }) (tf_P g T [.ref a0, .int (Int32.ofInt x1)] (fun H => True)) (tf_Qi g M_X10_count T (fun z _ _ => (-2147483648) ≤ z ∧ z ≤ 2147483647)) 0 0 (fun q => tf_B g ≤ q) := by
  refine Met.ofW (cc := cX10_count) (maxL := 4) (ret := (some .int)) (by decide) rfl ?_
  intro p e s m args below meth c s₁ B hml hv
  obtain ⟨hargs, hk, hW0, hB, hpre⟩ := hv
  have hx := B.exec
  have hb := B.bytes
  have hr := B.returns
  have hts : ∀ w ∈ wsL_law, w.before args s = true := fun w h => atoms_spec (ws := cd_X10_count :: wsL_law) B.pre w (List.mem_cons_of_mem _ h)
  have hown : s.vm.findClass RX10 = some m.cls := findClass_of_methodNamed B.named
  have hlocks := B.notSynchronized
  have hK := hk.1
  have hW := tf_n.start (M := M_X10_count) hW0 hB
  obtain ⟨Q, hQ⟩ : ∃ q, q = MQ below (tf_Qi g M_X10_count T (fun z _ _ => (-2147483648) ≤ z ∧ z ≤ 2147483647)) args s 0 0 (fun q => tf_B g ≤ q) := ⟨_, rfl⟩
  rw [← hQ]
  obtain ⟨R, hR⟩ : ∃ q, q = (headSpec (cd_X10_count :: wsL_law) ({ frames := 4, cells := 0, slots := 0, locals := 96 })).room := ⟨_, rfl⟩
  rw [← hR]
  have hR1 : 4 ≤ R.frames := by rw [hR]; exact Nat.le_refl _
  have hR2 : 96 ≤ R.locals := by rw [hR]; exact Nat.le_refl _
  have hR3 : 0 ≤ R.cells := by rw [hR]; exact Nat.le_refl _
  have hR4 : 0 ≤ R.slots := by rw [hR]; exact Nat.le_refl _
  have hin := (name_of_methodNamed B.named B.method).1
  clear hR B
  have j_9 : ∀ (n_9 : Nat), (-2147483648) ≤ x1 ∧ x1 ≤ 2147483647 → ∀ (x2_9 : Int), (-2147483648) ≤ x2_9 ∧ x2_9 ≤ 2147483647 → ∀ (x3_9 : Int), 0 ≤ x3_9 ∧ x3_9 ≤ 100 → (100 - x3_9 + 1 ≤ (n_9 : Int)) → ∀ (H : Heap) (locs : List Loc), tf_n tf_kt g M_X10_count T s.heap T H locs → ∀ (ls : Array Slot), lv_has ls 4 [(0, .ref a0), (1, .int (Int32.ofInt x1)), (2, .int (Int32.ofInt x2_9)), (3, .int (Int32.ofInt x3_9))] → W p l e R s m args below meth c H locs 0 0 Q (F0 m 9 ls []) := by
    intro n_9
    induction n_9 with
    | zero =>
      intro hx1_9 x2_9 hx2_9 x3_9 hx3_9 hm_9
      exfalso; omega
    | succ n_9 ih_9 =>
      intro hx1_9 x2_9 hx2_9 x3_9 hx3_9 hm_9 H locs hW  ls hl
      have j_30 : (-2147483648) ≤ x1 ∧ x1 ≤ 2147483647 → 0 ≤ x3_9 ∧ x3_9 ≤ 99 → (-2147483648) ≤ x2_9 ∧ x2_9 ≤ 2147483647 → ∀ (y1_30 : Int), 0 ≤ y1_30 ∧ y1_30 ≤ 1 → ∀ (H : Heap) (locs : List Loc), tf_n tf_kt g M_X10_count T s.heap T H locs → ∀ (ls : Array Slot), lv_has ls 4 [(0, .ref a0), (1, .int (Int32.ofInt x1)), (3, .int (Int32.ofInt x3_9))] → W p l e R s m args below meth c H locs 0 0 Q (F0 m 30 ls [.int (Int32.ofInt y1_30), .int (Int32.ofInt x2_9)]) := by
        intro hx1_30 hx3_30 hy0_30 y1_30 hy1_30 H locs hW  ls hl
        refine tf_iadd_any hx hb dX10_count_30 (fun z1 hz1 => ?_)
        refine lv_istore_n (lv' := [(2, .int (Int32.ofInt z1)), (0, .ref a0), (1, .int (Int32.ofInt x1)), (3, .int (Int32.ofInt x3_9))]) hx hb dX10_count_31 rfl hl (by decide) rfl (fun ls hl => ?_)
        refine lv_iinc (v := Int32.ofInt ((x3_9 + 1))) (lv' := [(3, .int (Int32.ofInt ((x3_9 + 1)))), (2, .int (Int32.ofInt z1)), (0, .ref a0), (1, .int (Int32.ofInt x1))]) hx hb dX10_count_32 hl (k := 3) rfl (Int32.ofInt_add _ _).symm (by decide) rfl (fun ls hl => ?_)
        refine lv_goto (tgt := 9) hx hb dX10_count_35 (by decide) ?_
        exact ih_9 ⟨by omega, by omega⟩ (z1) ⟨by omega, by omega⟩ ((x3_9 + 1)) ⟨by omega, by omega⟩ (by omega) _ _ hW  _ (lv_sub hl [2, 3, 1, 0] rfl)
      refine lv_iload_n hx hb dX10_count_9 rfl (lv_at hl 3 rfl) ?_
      refine tf_bipush hx hb dX10_count_10 (by decide) ?_
      refine tf_icmp_ge (tgt := 38) hx hb ⟨by omega, by omega⟩ ⟨by decide, by decide⟩ dX10_count_12 (by decide) (fun h2 => ?_) (fun h2 => ?_)
      · refine lv_iload_n hx hb dX10_count_38 rfl (lv_at hl 1 rfl) ?_
        rcases (show x1 = 0 ∨ x1 = 1 ∨ x1 = 2 ∨ x1 = 3 ∨ x1 = 4 ∨ x1 = 5 ∨ x1 = 6 ∨ x1 = 7 ∨ x1 = 8 ∨ x1 = 9 ∨ x1 = 10 ∨ x1 = 11 ∨ x1 = 12 ∨ x1 < 0 ∨ 12 < x1 by omega) with h3 | h3 | h3 | h3 | h3 | h3 | h3 | h3 | h3 | h3 | h3 | h3 | h3 | h3 | h3
        · refine tf_tableIn (tgt := 104) hx hb dX10_count_39 h3 (by decide) (by decide) (by decide) rfl (by decide) ?_
          refine lv_aload_n hx hb dX10_count_104 rfl (lv_at hl 0 rfl) ?_
          refine tf_get hx hb hts inlX10 hown hK (ci := 10) rfl hW ha0 rfl 3 rfl (by decide) (hts _ fl_X10_13) dX10_count_105 (fun v4 hv4 hsv4 => ?_)
          obtain ⟨ad5, rfl, had5⟩ := tf_v1 hv4
          refine tf_iconst hx hb dX10_count_108 ?_
          refine tf_iald (t0 := 0) hx hb hK hW had5 rfl rfl (by omega) (by omega) dX10_count_109 (fun v6 hv6 hsv6 => ?_)
          obtain ⟨z7, rfl, hz7⟩ := tf_v0 hv6
          have hg8 := tf_rd0 (tf_ROof hW had5) hsv6 ⟨by omega, by omega⟩ (by omega)
          exact tf_reti (z := z7) hx hb hr hlocks hQ hW (show (-2147483648) ≤ (z7) ∧ (z7) ≤ 2147483647 by omega) dX10_count_110
        · refine tf_tableIn (tgt := 111) hx hb dX10_count_39 h3 (by decide) (by decide) (by decide) rfl (by decide) ?_
          refine lv_iload_n hx hb dX10_count_111 rfl (lv_at hl 2 rfl) ?_
          exact tf_reti (z := x2_9) hx hb hr hlocks hQ hW (show (-2147483648) ≤ (x2_9) ∧ (x2_9) ≤ 2147483647 by omega) dX10_count_112
        · refine tf_tableIn (tgt := 113) hx hb dX10_count_39 h3 (by decide) (by decide) (by decide) rfl (by decide) ?_
          refine lv_aload_n hx hb dX10_count_113 rfl (lv_at hl 0 rfl) ?_
          refine tf_get hx hb hts inlX10 hown hK (ci := 10) rfl hW ha0 rfl 3 rfl (by decide) (hts _ fl_X10_13) dX10_count_114 (fun v9 hv9 hsv9 => ?_)
          obtain ⟨ad10, rfl, had10⟩ := tf_v1 hv9
          refine tf_iconst hx hb dX10_count_117 ?_
          refine tf_iald (t0 := 0) hx hb hK hW had10 rfl rfl (by omega) (by omega) dX10_count_118 (fun v11 hv11 hsv11 => ?_)
          obtain ⟨z12, rfl, hz12⟩ := tf_v0 hv11
          have hg13 := tf_rd1 (tf_ROof hW had10) hsv11 ⟨by omega, by omega⟩ (by omega)
          exact tf_reti (z := z12) hx hb hr hlocks hQ hW (show (-2147483648) ≤ (z12) ∧ (z12) ≤ 2147483647 by omega) dX10_count_119
        · refine tf_tableIn (tgt := 120) hx hb dX10_count_39 h3 (by decide) (by decide) (by decide) rfl (by decide) ?_
          refine lv_aload_n hx hb dX10_count_120 rfl (lv_at hl 0 rfl) ?_
          refine tf_get hx hb hts inlX10 hown hK (ci := 10) rfl hW ha0 rfl 3 rfl (by decide) (hts _ fl_X10_13) dX10_count_121 (fun v14 hv14 hsv14 => ?_)
          obtain ⟨ad15, rfl, had15⟩ := tf_v1 hv14
          refine tf_iconst hx hb dX10_count_124 ?_
          refine tf_iald (t0 := 0) hx hb hK hW had15 rfl rfl (by omega) (by omega) dX10_count_125 (fun v16 hv16 hsv16 => ?_)
          obtain ⟨z17, rfl, hz17⟩ := tf_v0 hv16
          have hg18 := tf_rd3 (tf_ROof hW had15) hsv16 ⟨by omega, by omega⟩ (by omega)
          exact tf_reti (z := z17) hx hb hr hlocks hQ hW (show (-2147483648) ≤ (z17) ∧ (z17) ≤ 2147483647 by omega) dX10_count_126
        · refine tf_tableIn (tgt := 127) hx hb dX10_count_39 h3 (by decide) (by decide) (by decide) rfl (by decide) ?_
          refine lv_aload_n hx hb dX10_count_127 rfl (lv_at hl 0 rfl) ?_
          refine tf_get hx hb hts inlX10 hown hK (ci := 10) rfl hW ha0 rfl 3 rfl (by decide) (hts _ fl_X10_13) dX10_count_128 (fun v19 hv19 hsv19 => ?_)
          obtain ⟨ad20, rfl, had20⟩ := tf_v1 hv19
          refine tf_iconst hx hb dX10_count_131 ?_
          refine tf_iald (t0 := 0) hx hb hK hW had20 rfl rfl (by omega) (by omega) dX10_count_132 (fun v21 hv21 hsv21 => ?_)
          obtain ⟨z22, rfl, hz22⟩ := tf_v0 hv21
          have hg23 := tf_rd4 (tf_ROof hW had20) hsv21 ⟨by omega, by omega⟩ (by omega)
          have hg24 := tf_rdM (tf_ROof hW had20) hsv21 ⟨by omega, by omega⟩ (by omega)
          exact tf_reti (z := z22) hx hb hr hlocks hQ hW (show (-2147483648) ≤ (z22) ∧ (z22) ≤ 2147483647 by omega) dX10_count_133
        · refine tf_tableIn (tgt := 134) hx hb dX10_count_39 h3 (by decide) (by decide) (by decide) rfl (by decide) ?_
          refine lv_aload_n hx hb dX10_count_134 rfl (lv_at hl 0 rfl) ?_
          obtain ⟨pv25, hpv25, hok25⟩ := tf_peek hW ha0 (ci := 10) rfl 3 rfl
          obtain ⟨ad26, rfl, had26⟩ := tf_v1 hok25
          obtain ⟨r27, hr27⟩ := tf_rname hW ad26
          have hro27 : tf_RO r27 := hr27 ▸ tf_ROof hW had26
          refine tf_calli (va_runV (As := []) (rest := []) ⟨hx, hb, hml, hown, hts⟩ (c_X10_allHours l g T a0 ha0 ad26 had26 r27) (cwV 0 hts gv_X10_189 rfl rfl rfl hd_X10_allHours ⟨Nat.le_trans (by decide) hR1, Nat.le_trans (by decide) hR2⟩) (tf_preV hk hW ha0 (ci := 10) rfl rfl ⟨hpv25, hr27⟩) rfl rfl hl.1 rfl (lv_room (Nat.le_of_ble_eq_true rfl)) dX10_count_135 ⟨Nat.zero_le _, Nat.zero_le _⟩) hW (by decide) (fun z28 H28 locs28 hW hF28 hp28 => ?_)
          have hs29 := tf_keepF hF28 ha0 rfl rfl (by decide) hpv25
          have hs30 := tf_keepC hF28 had26 rfl (by decide) hr27
          obtain ⟨hp28_0, hp28_1, hp28_2⟩ := hp28
          exact tf_reti (z := z28) hx hb hr hlocks hQ hW (show (-2147483648) ≤ (z28) ∧ (z28) ≤ 2147483647 by omega) dX10_count_138
        · refine tf_tableIn (tgt := 139) hx hb dX10_count_39 h3 (by decide) (by decide) (by decide) rfl (by decide) ?_
          refine lv_aload_n hx hb dX10_count_139 rfl (lv_at hl 0 rfl) ?_
          refine tf_get hx hb hts inlX10 hown hK (ci := 10) rfl hW ha0 rfl 8 rfl (by decide) (hts _ fl_X10_183) dX10_count_140 (fun v31 hv31 hsv31 => ?_)
          obtain ⟨z32, rfl, hz32⟩ := tf_v0 hv31
          exact tf_reti (z := z32) hx hb hr hlocks hQ hW (show (-2147483648) ≤ (z32) ∧ (z32) ≤ 2147483647 by omega) dX10_count_143
        · refine tf_tableIn (tgt := 144) hx hb dX10_count_39 h3 (by decide) (by decide) (by decide) rfl (by decide) ?_
          refine lv_aload_n hx hb dX10_count_144 rfl (lv_at hl 0 rfl) ?_
          refine tf_get hx hb hts inlX10 hown hK (ci := 10) rfl hW ha0 rfl 2 rfl (by decide) (hts _ fl_X10_7) dX10_count_145 (fun v33 hv33 hsv33 => ?_)
          obtain ⟨ad34, rfl, had34⟩ := tf_v1 hv33
          refine tf_iconst hx hb dX10_count_148 ?_
          refine tf_iald (t0 := 0) hx hb hK hW had34 rfl rfl (by omega) (by omega) dX10_count_149 (fun v35 hv35 hsv35 => ?_)
          obtain ⟨z36, rfl, hz36⟩ := tf_v0 hv35
          exact tf_reti (z := z36) hx hb hr hlocks hQ hW (show (-2147483648) ≤ (z36) ∧ (z36) ≤ 2147483647 by omega) dX10_count_150
        · refine tf_tableIn (tgt := 151) hx hb dX10_count_39 h3 (by decide) (by decide) (by decide) rfl (by decide) ?_
          refine lv_aload_n hx hb dX10_count_151 rfl (lv_at hl 0 rfl) ?_
          refine tf_get hx hb hts inlX10 hown hK (ci := 10) rfl hW ha0 rfl 2 rfl (by decide) (hts _ fl_X10_7) dX10_count_152 (fun v37 hv37 hsv37 => ?_)
          obtain ⟨ad38, rfl, had38⟩ := tf_v1 hv37
          refine tf_iconst hx hb dX10_count_155 ?_
          refine tf_iald (t0 := 0) hx hb hK hW had38 rfl rfl (by omega) (by omega) dX10_count_156 (fun v39 hv39 hsv39 => ?_)
          obtain ⟨z40, rfl, hz40⟩ := tf_v0 hv39
          exact tf_reti (z := z40) hx hb hr hlocks hQ hW (show (-2147483648) ≤ (z40) ∧ (z40) ≤ 2147483647 by omega) dX10_count_157
        · refine tf_tableIn (tgt := 158) hx hb dX10_count_39 h3 (by decide) (by decide) (by decide) rfl (by decide) ?_
          refine lv_aload_n hx hb dX10_count_158 rfl (lv_at hl 0 rfl) ?_
          refine tf_get hx hb hts inlX10 hown hK (ci := 10) rfl hW ha0 rfl 2 rfl (by decide) (hts _ fl_X10_7) dX10_count_159 (fun v41 hv41 hsv41 => ?_)
          obtain ⟨ad42, rfl, had42⟩ := tf_v1 hv41
          refine tf_iconst hx hb dX10_count_162 ?_
          refine tf_iald (t0 := 0) hx hb hK hW had42 rfl rfl (by omega) (by omega) dX10_count_163 (fun v43 hv43 hsv43 => ?_)
          obtain ⟨z44, rfl, hz44⟩ := tf_v0 hv43
          exact tf_reti (z := z44) hx hb hr hlocks hQ hW (show (-2147483648) ≤ (z44) ∧ (z44) ≤ 2147483647 by omega) dX10_count_164
        · refine tf_tableIn (tgt := 165) hx hb dX10_count_39 h3 (by decide) (by decide) (by decide) rfl (by decide) ?_
          refine lv_aload_n hx hb dX10_count_165 rfl (lv_at hl 0 rfl) ?_
          refine tf_get hx hb hts inlX10 hown hK (ci := 10) rfl hW ha0 rfl 2 rfl (by decide) (hts _ fl_X10_7) dX10_count_166 (fun v45 hv45 hsv45 => ?_)
          obtain ⟨ad46, rfl, had46⟩ := tf_v1 hv45
          refine tf_iconst hx hb dX10_count_169 ?_
          refine tf_iald (t0 := 0) hx hb hK hW had46 rfl rfl (by omega) (by omega) dX10_count_170 (fun v47 hv47 hsv47 => ?_)
          obtain ⟨z48, rfl, hz48⟩ := tf_v0 hv47
          exact tf_reti (z := z48) hx hb hr hlocks hQ hW (show (-2147483648) ≤ (z48) ∧ (z48) ≤ 2147483647 by omega) dX10_count_171
        · refine tf_tableIn (tgt := 172) hx hb dX10_count_39 h3 (by decide) (by decide) (by decide) rfl (by decide) ?_
          refine lv_aload_n hx hb dX10_count_172 rfl (lv_at hl 0 rfl) ?_
          refine tf_get hx hb hts inlX10 hown hK (ci := 10) rfl hW ha0 rfl 2 rfl (by decide) (hts _ fl_X10_7) dX10_count_173 (fun v49 hv49 hsv49 => ?_)
          obtain ⟨ad50, rfl, had50⟩ := tf_v1 hv49
          refine tf_bipush hx hb dX10_count_176 (by decide) ?_
          refine tf_iald (t0 := 0) hx hb hK hW had50 rfl rfl (by omega) (by omega) dX10_count_178 (fun v51 hv51 hsv51 => ?_)
          obtain ⟨z52, rfl, hz52⟩ := tf_v0 hv51
          exact tf_reti (z := z52) hx hb hr hlocks hQ hW (show (-2147483648) ≤ (z52) ∧ (z52) ≤ 2147483647 by omega) dX10_count_179
        · refine tf_tableIn (tgt := 180) hx hb dX10_count_39 h3 (by decide) (by decide) (by decide) rfl (by decide) ?_
          refine lv_aload_n hx hb dX10_count_180 rfl (lv_at hl 0 rfl) ?_
          refine tf_get hx hb hts inlX10 hown hK (ci := 10) rfl hW ha0 rfl 3 rfl (by decide) (hts _ fl_X10_13) dX10_count_181 (fun v53 hv53 hsv53 => ?_)
          obtain ⟨ad54, rfl, had54⟩ := tf_v1 hv53
          refine tf_iconst hx hb dX10_count_184 ?_
          refine tf_iald (t0 := 0) hx hb hK hW had54 rfl rfl (by omega) (by omega) dX10_count_185 (fun v55 hv55 hsv55 => ?_)
          obtain ⟨z56, rfl, hz56⟩ := tf_v0 hv55
          have hg57 := tf_rd2 (tf_ROof hW had54) hsv55 ⟨by omega, by omega⟩ (by omega)
          exact tf_reti (z := z56) hx hb hr hlocks hQ hW (show (-2147483648) ≤ (z56) ∧ (z56) ≤ 2147483647 by omega) dX10_count_186
        · refine tf_tableOut (tgt := 187) hx hb dX10_count_39 ⟨by omega, by omega⟩ (by omega) (by decide) ?_
          refine tf_iconst hx hb dX10_count_187 ?_
          exact tf_reti (z := (-1)) hx hb hr hlocks hQ hW (show (-2147483648) ≤ ((-1)) ∧ ((-1)) ≤ 2147483647 by omega) dX10_count_188
        · refine tf_tableOut (tgt := 187) hx hb dX10_count_39 ⟨by omega, by omega⟩ (by omega) (by decide) ?_
          refine tf_iconst hx hb dX10_count_187 ?_
          exact tf_reti (z := (-1)) hx hb hr hlocks hQ hW (show (-2147483648) ≤ ((-1)) ∧ ((-1)) ≤ 2147483647 by omega) dX10_count_188
      · refine lv_iload_n hx hb dX10_count_15 rfl (lv_at hl 2 rfl) ?_
        refine lv_aload_n hx hb dX10_count_16 rfl (lv_at hl 0 rfl) ?_
        refine lv_iload_n hx hb dX10_count_17 rfl (lv_at hl 3 rfl) ?_
        refine tf_calli (va_runV (As := [.int (Int32.ofInt x3_9)]) (rest := [.int (Int32.ofInt x2_9)]) ⟨hx, hb, hml, hown, hts⟩ (c_X10_towerOn l g T a0 ha0 (x3_9) ⟨by omega, by omega⟩) (cwV 1 hts gv_X10_136 rfl rfl rfl hd_X10_towerOn ⟨Nat.le_trans (by decide) hR1, Nat.le_trans (by decide) hR2⟩) (tf_preV hk hW ha0 (ci := 10) rfl rfl trivial) rfl rfl hl.1 rfl (lv_room (Nat.le_of_ble_eq_true rfl)) dX10_count_18 ⟨Nat.zero_le _, Nat.zero_le _⟩) hW (by decide) (fun z58 H58 locs58 hW hF58 hp58 => ?_)
        obtain ⟨hp58_0, hp58_1⟩ := hp58
        refine tf_iconst hx hb dX10_count_21 ?_
        refine tf_icmp_ne (tgt := 29) hx hb ⟨by omega, by omega⟩ ⟨by decide, by decide⟩ dX10_count_22 (by decide) (fun h59 => ?_) (fun h59 => ?_)
        · refine tf_iconst hx hb dX10_count_29 ?_
          exact j_30 ⟨by omega, by omega⟩ ⟨by omega, by omega⟩ ⟨by omega, by omega⟩ (0) ⟨by omega, by omega⟩ _ _ hW  _ (lv_sub hl [0, 1, 3] rfl)
        · refine tf_iconst hx hb dX10_count_25 ?_
          refine lv_goto (tgt := 30) hx hb dX10_count_26 (by decide) ?_
          exact j_30 ⟨by omega, by omega⟩ ⟨by omega, by omega⟩ ⟨by omega, by omega⟩ (1) ⟨by omega, by omega⟩ _ _ hW  _ (lv_sub hl [0, 1, 3] rfl)
  refine tf_enter (As := [.ref a0, .int (Int32.ofInt x1)]) hargs (Nat.le_of_ble_eq_true rfl) (fun ls hl => ?_)
  have hl : lv_has ls 4 [(0, .ref a0), (1, .int (Int32.ofInt x1))] := hl
  refine lv_aload_n hx hb dX10_count_0 rfl (lv_at hl 0 rfl) ?_
  refine tf_iconst hx hb dX10_count_1 ?_
  refine tf_put hx hb hts inlX10 tyX10 tyX10_ok nmX10 hown hK (ci := 10) rfl hW ha0 rfl rfl 0 rfl (by decide) (by decide) (hts _ fl_X10_103) rfl (tf_u0 (by omega) (by omega)) rfl rfl dX10_count_2 (fun H60 locs60 hW hs60 ht60 hq60 => ?_)
  refine tf_iconst hx hb dX10_count_5 ?_
  refine lv_istore_n (lv' := [(2, .int (Int32.ofInt 0)), (0, .ref a0), (1, .int (Int32.ofInt x1))]) hx hb dX10_count_6 rfl hl (by decide) rfl (fun ls hl => ?_)
  refine tf_iconst hx hb dX10_count_7 ?_
  refine lv_istore_n (lv' := [(3, .int (Int32.ofInt 0)), (2, .int (Int32.ofInt 0)), (0, .ref a0), (1, .int (Int32.ofInt x1))]) hx hb dX10_count_8 rfl hl (by decide) rfl (fun ls hl => ?_)
  exact j_9 ((100 - 0 + 1 : Int)).toNat ⟨by omega, by omega⟩ (0) ⟨by omega, by omega⟩ (0) ⟨by omega, by omega⟩ (by omega) _ _ hW  _ (lv_sub hl [2, 3, 1, 0] rfl)

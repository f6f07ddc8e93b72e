
abbrev M_X10_put : List (Nat × Nat) := [(40, 0), (41, 0), (63, 0), (63, 1)]
set_option maxHeartbeats 4000000 in
set_option maxRecDepth 100000 in
theorem c_X10_put (l : Launch) (g : tf_G) (T : tf_T) (a0 : Nat) (ha0 : T a0 = some (63, 0)) (x1 : Int) (hp1 : (-2147483648) ≤ x1 ∧ x1 ≤ 2147483647) (x2 : Int) (hp2 : (-2147483648) ≤ x2 ∧ x2 ≤ 2147483647) (x3 : Int) (hp3 : (-2147483648) ≤ x3 ∧ x3 ≤ 2147483647) (b0 : Nat) (hb0 : T b0 = some (41, 5830)) (r0 : Int → Int) : Met l yX10_put (cd_X10_put :: wsL_law) ({ frames := 4, cells := 0, slots := 0, locals := 96 }) (tf_P g T [.ref a0, .int (Int32.ofInt x1), .int (Int32.ofInt x2), .int (Int32.ofInt x3)] (fun H => tf_s H a0 (g.1.2 10 3) = some (.ref b0) ∧ tf_rw H b0 = r0)) (tf_Qi g M_X10_put T (fun z _ H => (-2147483648) ≤ z ∧ z ≤ 2147483647 ∧ (∃ (r1 : Int → Int), tf_rw H b0 = r1 ∧ (tf_kp r0 r1)))) 0 0 (fun q => tf_B g ≤ q) := by
  refine Met.ofW (cc := cX10_put) (maxL := 4) (ret := (some .int)) (by decide) rfl ?_
  intro p e s m args below meth c s₁ B hml hv
  obtain ⟨hargs, hk, hW0, hB, hpre⟩ := hv
  obtain ⟨he0, he1⟩ := hpre
  have hx := B.exec
  have hb := B.bytes
  have hr := B.returns
  have hts : ∀ w ∈ wsL_law, w.before args s = true := fun w h => atoms_spec (ws := cd_X10_put :: wsL_law) B.pre w (List.mem_cons_of_mem _ h)
  have hown : s.vm.findClass RX10 = some m.cls := findClass_of_methodNamed B.named
  have hlocks := B.notSynchronized
  have hK := hk.1
  have hW := tf_n.start (M := M_X10_put) hW0 hB
  obtain ⟨Q, hQ⟩ : ∃ q, q = MQ below (tf_Qi g M_X10_put T (fun z _ H => (-2147483648) ≤ z ∧ z ≤ 2147483647 ∧ (∃ (r1 : Int → Int), tf_rw H b0 = r1 ∧ (tf_kp r0 r1)))) args s 0 0 (fun q => tf_B g ≤ q) := ⟨_, rfl⟩
  rw [← hQ]
  obtain ⟨R, hR⟩ : ∃ q, q = (headSpec (cd_X10_put :: wsL_law) ({ frames := 4, cells := 0, slots := 0, locals := 96 })).room := ⟨_, rfl⟩
  rw [← hR]
  have hR1 : 4 ≤ R.frames := by rw [hR]; exact Nat.le_refl _
  have hR2 : 96 ≤ R.locals := by rw [hR]; exact Nat.le_refl _
  have hR3 : 0 ≤ R.cells := by rw [hR]; exact Nat.le_refl _
  have hR4 : 0 ≤ R.slots := by rw [hR]; exact Nat.le_refl _
  have hin := (name_of_methodNamed B.named B.method).1
  clear hR B
  have j_47 : ∀ (H : Heap) (locs : List Loc), tf_n tf_kt g M_X10_put T s.heap T H locs → tf_rw H b0 = r0 → ∀ (ls : Array Slot), lv_has ls 4 [(0, .ref a0)] → W p l e R s m args below meth c H locs 0 0 Q (F0 m 47 ls []) := by
    intro  H locs hW hcROW_47 ls hl
    refine lv_aload_n hx hb dX10_put_47 rfl (lv_at hl 0 rfl) ?_
    refine tf_iconst hx hb dX10_put_48 ?_
    refine tf_calli (va_runV (As := [.int (Int32.ofInt ((-1)))]) (rest := []) ⟨hx, hb, hml, hown, hts⟩ (c_X10_tell l g T a0 ha0 ((-1)) ⟨by omega, by omega⟩) (cwV 1 hts gv_X10_117 rfl rfl rfl hd_X10_tell ⟨Nat.le_trans (by decide) hR1, Nat.le_trans (by decide) hR2⟩) (tf_preV hk hW ha0 (ci := 10) rfl rfl trivial) rfl rfl hl.1 rfl (lv_room (Nat.le_of_ble_eq_true rfl)) dX10_put_49 ⟨Nat.zero_le _, Nat.zero_le _⟩) hW (by decide) (fun z1 H1 locs1 hW hF1 hp1 => ?_)
    have hs2 := tf_keepC hF1 hb0 rfl (by decide) hcROW_47
    obtain ⟨hp1_0, hp1_1, hp1_2⟩ := hp1
    exact tf_reti (z := z1) hx hb hr hlocks hQ hW ⟨by omega, by omega, ⟨r0, hs2, (by first | exact tf_kp_rf | (rw [hRC_1]; exact tf_kp_up tf_kp_rf (by omega)))⟩⟩ dX10_put_52
  have j_41 : 0 ≤ x1 ∧ x1 ≤ 99 → 0 ≤ x2 ∧ x2 ≤ 2 → (-2147483648) ≤ x3 ∧ x3 ≤ 2147483647 → (-2147483648) ≤ x3 ∧ x3 ≤ 2147483647 → ∀ (y2_41 : Int), 3 ≤ y2_41 ∧ y2_41 ≤ 9 → ((x2 = 2 ∧ y2_41 = 3) ∨ (x2 ≠ 2 ∧ y2_41 = 9)) → ∀ (H : Heap) (locs : List Loc), tf_n tf_kt g M_X10_put T s.heap T H locs → tf_s H a0 (g.1.2 10 3) = some (.ref b0) → tf_rw H b0 = r0 → ∀ (ls : Array Slot), lv_has ls 4 [(0, .ref a0), (1, .int (Int32.ofInt x1)), (2, .int (Int32.ofInt x2)), (3, .int (Int32.ofInt x3))] → W p l e R s m args below meth c H locs 0 0 Q (F0 m 41 ls [.long (Int64.ofInt y2_41), .long (Int64.ofInt 0), .long (Int64.ofInt x3)]) := by
    intro hx1_41 hx2_41 hx3_41 hy0_41 y2_41 hy2_41 hi0_41 H locs hW hs3_41 hcROW_41 ls hl
    refine tf_calli (va_runS (As := [.long (Int64.ofInt x3), .long (Int64.ofInt 0), .long (Int64.ofInt y2_41)]) (rest := []) ⟨hx, hb, hml, hown, hts⟩ (c_X10_in l g T (x3) ⟨by omega, by omega⟩ (0) ⟨by omega, by omega⟩ (y2_41) ⟨by omega, by omega⟩) ⟨callB_of 3 hts (gw_ws cm_X10_in) rfl rfl rfl (hts _ (tw1 (i := 5) rfl)) (hts _ (tw11 (i := 3) rfl)) hd_X10_in.2 ⟨Nat.le_trans (by decide) hR1, Nat.le_trans (by decide) hR2⟩, hts _ (tw11 (i := 4) rfl)⟩ (tf_preS hk hW trivial) rfl rfl hl.1 rfl (lv_room (Nat.le_of_ble_eq_true rfl)) dX10_put_41 ⟨Nat.zero_le _, Nat.zero_le _⟩) hW (by decide) (fun z3 H3 locs3 hW hF3 hp3 => ?_)
    have hs4 := tf_keepF hF3 ha0 rfl rfl (by decide) hs3_41
    have hs5 := tf_keepC hF3 hb0 rfl (by decide) hcROW_41
    rcases hp3 with ⟨rfl, h6, h7⟩ | ⟨rfl, h8⟩
    · refine tf_if_ne (tgt := 53) hx hb ⟨by decide, by decide⟩ dX10_put_44 (by decide) (fun h9 => ?_) (fun h9 => ?_)
      · refine lv_aload_n hx hb dX10_put_53 rfl (lv_at hl 0 rfl) ?_
        refine lv_iload_n hx hb dX10_put_54 rfl (lv_at hl 1 rfl) ?_
        refine tf_calli (va_runV (As := [.int (Int32.ofInt x1)]) (rest := []) ⟨hx, hb, hml, hown, hts⟩ (c_X10_towerOn l g T a0 ha0 (x1) ⟨by omega, by omega⟩) (cwV 1 hts gv_X10_136 rfl rfl rfl hd_X10_towerOn ⟨Nat.le_trans (by decide) hR1, Nat.le_trans (by decide) hR2⟩) (tf_preV hk hW ha0 (ci := 10) rfl rfl trivial) rfl rfl hl.1 rfl (lv_room (Nat.le_of_ble_eq_true rfl)) dX10_put_55 ⟨Nat.zero_le _, Nat.zero_le _⟩) hW (by decide) (fun z10 H10 locs10 hW hF10 hp10 => ?_)
        have hs11 := tf_keepF hF10 ha0 rfl rfl (by decide) hs4
        have hs12 := tf_keepC hF10 hb0 rfl (by decide) hs5
        obtain ⟨hp10_0, hp10_1⟩ := hp10
        refine tf_iconst hx hb dX10_put_58 ?_
        refine tf_icmp_eq (tgt := 71) hx hb ⟨by omega, by omega⟩ ⟨by decide, by decide⟩ dX10_put_59 (by decide) (fun h13 => ?_) (fun h13 => ?_)
        · refine lv_aload_n hx hb dX10_put_71 rfl (lv_at hl 0 rfl) ?_
          refine tf_bipush hx hb dX10_put_72 (by decide) ?_
          refine tf_bipush hx hb dX10_put_74 (by decide) ?_
          refine lv_iload_n hx hb dX10_put_76 rfl (lv_at hl 2 rfl) ?_
          refine tf_imul hx hb dX10_put_77 ?_
          refine tf_iadd hx hb dX10_put_78 ?_
          refine lv_iload_n hx hb dX10_put_79 rfl (lv_at hl 1 rfl) ?_
          refine tf_iadd hx hb dX10_put_80 ?_
          refine lv_iload_n hx hb dX10_put_81 rfl (lv_at hl 3 rfl) ?_
          refine tf_calli (va_runV (As := [.int (Int32.ofInt (((41 + (100 * x2)) + x1))), .int (Int32.ofInt x3)]) (rest := []) ⟨hx, hb, hml, hown, hts⟩ (c_X10_change l g T a0 ha0 (((41 + (100 * x2)) + x1)) ⟨by omega, by omega⟩ (x3) ⟨by omega, by omega⟩ b0 hb0 r0 (by first | omega | assumption)) (cwV 2 hts gv_X10_168 rfl rfl rfl hd_X10_change ⟨Nat.le_trans (by decide) hR1, Nat.le_trans (by decide) hR2⟩) (tf_preV hk hW ha0 (ci := 10) rfl rfl ⟨hs11, hs12⟩) rfl rfl hl.1 rfl (lv_room (Nat.le_of_ble_eq_true rfl)) dX10_put_82 ⟨Nat.zero_le _, Nat.zero_le _⟩) hW (by decide) (fun zC HC locsC hW hFC hpC => ?_)
          have hs14 := tf_keepF hFC ha0 rfl rfl (by decide) hs11
          obtain ⟨hpC_0, hpC_1, hpC_2⟩ := hpC
          obtain ⟨r1_C, hXC_0, hRC_0, hRC_1⟩ := hpC_2
          exact tf_reti (z := zC) hx hb hr hlocks hQ hW ⟨by omega, by omega, ⟨r1_C, hXC_0, (by first | exact tf_kp_rf | (rw [hRC_1]; exact tf_kp_up tf_kp_rf (by omega)))⟩⟩ dX10_put_85
        · refine lv_aload_n hx hb dX10_put_62 rfl (lv_at hl 0 rfl) ?_
          refine tf_bipush hx hb dX10_put_63 (by decide) ?_
          refine tf_calli (va_runV (As := [.int (Int32.ofInt ((-3)))]) (rest := []) ⟨hx, hb, hml, hown, hts⟩ (c_X10_tell l g T a0 ha0 ((-3)) ⟨by omega, by omega⟩) (cwV 1 hts gv_X10_117 rfl rfl rfl hd_X10_tell ⟨Nat.le_trans (by decide) hR1, Nat.le_trans (by decide) hR2⟩) (tf_preV hk hW ha0 (ci := 10) rfl rfl trivial) rfl rfl hl.1 rfl (lv_room (Nat.le_of_ble_eq_true rfl)) dX10_put_65 ⟨Nat.zero_le _, Nat.zero_le _⟩) hW (by decide) (fun z15 H15 locs15 hW hF15 hp15 => ?_)
          have hs16 := tf_keepF hF15 ha0 rfl rfl (by decide) hs11
          have hs17 := tf_keepC hF15 hb0 rfl (by decide) hs12
          obtain ⟨hp15_0, hp15_1, hp15_2⟩ := hp15
          refine lv_goto (tgt := 85) hx hb dX10_put_68 (by decide) ?_
          exact tf_reti (z := z15) hx hb hr hlocks hQ hW ⟨by omega, by omega, ⟨r0, hs17, (by first | exact tf_kp_rf | (rw [hRC_1]; exact tf_kp_up tf_kp_rf (by omega)))⟩⟩ dX10_put_85
      · exfalso; omega
    · refine tf_if_ne (tgt := 53) hx hb ⟨by decide, by decide⟩ dX10_put_44 (by decide) (fun h18 => ?_) (fun h18 => ?_)
      · exfalso; omega
      · exact j_47  _ _ hW hs5 _ (lv_sub hl [0] rfl)
  refine tf_enter (As := [.ref a0, .int (Int32.ofInt x1), .int (Int32.ofInt x2), .int (Int32.ofInt x3)]) hargs (Nat.le_of_ble_eq_true rfl) (fun ls hl => ?_)
  have hl : lv_has ls 4 [(0, .ref a0), (1, .int (Int32.ofInt x1)), (2, .int (Int32.ofInt x2)), (3, .int (Int32.ofInt x3))] := hl
  refine lv_aload_n hx hb dX10_put_0 rfl (lv_at hl 0 rfl) ?_
  refine tf_iconst hx hb dX10_put_1 ?_
  refine tf_put hx hb hts inlX10 tyX10 tyX10_ok nmX10 hown hK (ci := 10) rfl hW ha0 rfl rfl 0 rfl (by decide) (by decide) (hts _ fl_X10_103) rfl (tf_u0 (by omega) (by omega)) rfl rfl dX10_put_2 (fun H19 locs19 hW hs19 ht19 hq19 => ?_)
  have hs20 := (ht19 3 (by decide) (by decide)).trans he0
  have hs21 := tf_keepCQ he1 (hq19 _ (tf_ne hb0 ha0 (by decide)))
  refine lv_iload_n hx hb dX10_put_5 rfl (lv_at hl 1 rfl) ?_
  refine tf_calli (va_runS (As := [.int (Int32.ofInt x1)]) (rest := []) ⟨hx, hb, hml, hown, hts⟩ (c_X10_isCell l g T (x1) ⟨by omega, by omega⟩) ⟨callB_of 1 hts (gw_ws cm_X10_isCell) rfl rfl rfl (hts _ (tw1 (i := 5) rfl)) (hts _ (tw11 (i := 19) rfl)) hd_X10_isCell.2 ⟨Nat.le_trans (by decide) hR1, Nat.le_trans (by decide) hR2⟩, hts _ (tw11 (i := 20) rfl)⟩ (tf_preS hk hW trivial) rfl rfl hl.1 rfl (lv_room (Nat.le_of_ble_eq_true rfl)) dX10_put_6 ⟨Nat.zero_le _, Nat.zero_le _⟩) hW (by decide) (fun z22 H22 locs22 hW hF22 hp22 => ?_)
  have hs23 := tf_keepF hF22 ha0 rfl rfl (by decide) hs20
  have hs24 := tf_keepC hF22 hb0 rfl (by decide) hs21
  rcases hp22 with ⟨rfl, h25, h26⟩ | ⟨rfl, h27⟩
  · refine tf_if_eq (tgt := 47) hx hb ⟨by decide, by decide⟩ dX10_put_9 (by decide) (fun h28 => ?_) (fun h28 => ?_)
    · exfalso; omega
    · refine lv_iload_n hx hb dX10_put_12 rfl (lv_at hl 2 rfl) ?_
      refine tf_i2l hx hb ⟨by omega, by omega⟩ dX10_put_13 ?_
      refine tf_lconst (z := 0) hx hb dX10_put_14 (by decide) ?_
      refine tf_ldc2 (z := 2) hx hb hown (hts _ kl_X10_171) (by decide) dX10_put_15 ?_
      refine tf_calli (va_runS (As := [.long (Int64.ofInt x2), .long (Int64.ofInt 0), .long (Int64.ofInt 2)]) (rest := []) ⟨hx, hb, hml, hown, hts⟩ (c_X10_in l g T (x2) ⟨by omega, by omega⟩ (0) ⟨by omega, by omega⟩ (2) ⟨by omega, by omega⟩) ⟨callB_of 3 hts (gw_ws cm_X10_in) rfl rfl rfl (hts _ (tw1 (i := 5) rfl)) (hts _ (tw11 (i := 3) rfl)) hd_X10_in.2 ⟨Nat.le_trans (by decide) hR1, Nat.le_trans (by decide) hR2⟩, hts _ (tw11 (i := 4) rfl)⟩ (tf_preS hk hW trivial) rfl rfl hl.1 rfl (lv_room (Nat.le_of_ble_eq_true rfl)) dX10_put_18 ⟨Nat.zero_le _, Nat.zero_le _⟩) hW (by decide) (fun z29 H29 locs29 hW hF29 hp29 => ?_)
      have hs30 := tf_keepF hF29 ha0 rfl rfl (by decide) hs23
      have hs31 := tf_keepC hF29 hb0 rfl (by decide) hs24
      rcases hp29 with ⟨rfl, h32, h33⟩ | ⟨rfl, h34⟩
      · refine tf_if_eq (tgt := 47) hx hb ⟨by decide, by decide⟩ dX10_put_21 (by decide) (fun h35 => ?_) (fun h35 => ?_)
        · exfalso; omega
        · refine lv_iload_n hx hb dX10_put_24 rfl (lv_at hl 3 rfl) ?_
          refine tf_i2l hx hb ⟨by omega, by omega⟩ dX10_put_25 ?_
          refine tf_lconst (z := 0) hx hb dX10_put_26 (by decide) ?_
          refine lv_iload_n hx hb dX10_put_27 rfl (lv_at hl 2 rfl) ?_
          refine tf_iconst hx hb dX10_put_28 ?_
          refine tf_icmp_ne (tgt := 38) hx hb ⟨by omega, by omega⟩ ⟨by decide, by decide⟩ dX10_put_29 (by decide) (fun h36 => ?_) (fun h36 => ?_)
          · refine tf_ldc2 (z := 9) hx hb hown (hts _ kl_X10_142) (by decide) dX10_put_38 ?_
            exact j_41 ⟨by omega, by omega⟩ ⟨by omega, by omega⟩ ⟨by omega, by omega⟩ ⟨by omega, by omega⟩ (9) ⟨by omega, by omega⟩ (by first | omega | assumption) _ _ hW hs30 hs31 _ (lv_sub hl [0, 1, 2, 3] rfl)
          · refine tf_ldc2 (z := 3) hx hb hown (hts _ kl_X10_122) (by decide) dX10_put_32 ?_
            refine lv_goto (tgt := 41) hx hb dX10_put_35 (by decide) ?_
            exact j_41 ⟨by omega, by omega⟩ ⟨by omega, by omega⟩ ⟨by omega, by omega⟩ ⟨by omega, by omega⟩ (3) ⟨by omega, by omega⟩ (by first | omega | assumption) _ _ hW hs30 hs31 _ (lv_sub hl [0, 1, 2, 3] rfl)
      · refine tf_if_eq (tgt := 47) hx hb ⟨by decide, by decide⟩ dX10_put_21 (by decide) (fun h37 => ?_) (fun h37 => ?_)
        · exact j_47  _ _ hW hs31 _ (lv_sub hl [0] rfl)
        · exfalso; omega
  · refine tf_if_eq (tgt := 47) hx hb ⟨by decide, by decide⟩ dX10_put_9 (by decide) (fun h38 => ?_) (fun h38 => ?_)
    · exact j_47  _ _ hW hs24 _ (lv_sub hl [0] rfl)
    · exfalso; omega

abbrev M_X10_line : List (Nat × Nat) := [(40, 0), (41, 0), (63, 0), (63, 1)]
set_option maxHeartbeats 4000000 in
set_option maxRecDepth 100000 in
theorem c_X10_line (l : Launch) (g : tf_G) (T : tf_T) (a0 : Nat) (ha0 : T a0 = some (63, 0)) (x1 : Int) (hp1 : (-2147483648) ≤ x1 ∧ x1 ≤ 2147483647) (x2 : Int) (hp2 : (-2147483648) ≤ x2 ∧ x2 ≤ 2147483647) (x3 : Int) (hp3 : (-2147483648) ≤ x3 ∧ x3 ≤ 2147483647) (b0 : Nat) (hb0 : T b0 = some (41, 5830)) (r0 : Int → Int) : Met l yX10_line (cd_X10_line :: wsL_law) ({ frames := 3, cells := 0, slots := 0, locals := 69 }) (tf_P g T [.ref a0, .int (Int32.ofInt x1), .int (Int32.ofInt x2), .int (Int32.ofInt x3)] (fun H => tf_s H a0 (g.1.2 10 3) = some (.ref b0) ∧ tf_rw H b0 = r0)) (tf_Qi g M_X10_line T (fun z _ H => (-2147483648) ≤ z ∧ z ≤ 2147483647 ∧ (∃ (r1 : Int → Int), tf_rw H b0 = r1 ∧ (tf_LNM x1 x2 x3 z r0 r1)))) 0 0 (fun q => tf_B g ≤ q) := by
  refine Met.ofW (cc := cX10_line) (maxL := 5) (ret := (some .int)) (by decide) rfl ?_
  intro p e s m args below meth c s₁ B hml hv
  obtain ⟨hargs, hk, hW0, hB, hpre⟩ := hv
  obtain ⟨he0, he1⟩ := hpre
  have hx := B.exec
  have hb := B.bytes
  have hr := B.returns
  have hts : ∀ w ∈ wsL_law, w.before args s = true := fun w h => atoms_spec (ws := cd_X10_line :: wsL_law) B.pre w (List.mem_cons_of_mem _ h)
  have hown : s.vm.findClass RX10 = some m.cls := findClass_of_methodNamed B.named
  have hlocks := B.notSynchronized
  have hK := hk.1
  have hW := tf_n.start (M := M_X10_line) hW0 hB
  obtain ⟨Q, hQ⟩ : ∃ q, q = MQ below (tf_Qi g M_X10_line T (fun z _ H => (-2147483648) ≤ z ∧ z ≤ 2147483647 ∧ (∃ (r1 : Int → Int), tf_rw H b0 = r1 ∧ (tf_LNM x1 x2 x3 z r0 r1)))) args s 0 0 (fun q => tf_B g ≤ q) := ⟨_, rfl⟩
  rw [← hQ]
  obtain ⟨R, hR⟩ : ∃ q, q = (headSpec (cd_X10_line :: wsL_law) ({ frames := 3, cells := 0, slots := 0, locals := 69 })).room := ⟨_, rfl⟩
  rw [← hR]
  have hR1 : 3 ≤ R.frames := by rw [hR]; exact Nat.le_refl _
  have hR2 : 69 ≤ R.locals := by rw [hR]; exact Nat.le_refl _
  have hR3 : 0 ≤ R.cells := by rw [hR]; exact Nat.le_refl _
  have hR4 : 0 ≤ R.slots := by rw [hR]; exact Nat.le_refl _
  have hin := (name_of_methodNamed B.named B.method).1
  clear hR B
  have j_49 : (-2147483648) ≤ x1 ∧ x1 ≤ 2147483647 → (-2147483648) ≤ x2 ∧ x2 ≤ 2147483647 → (-2147483648) ≤ x3 ∧ x3 ≤ 2147483647 → ∀ (y0_49 : Int), 0 ≤ y0_49 ∧ y0_49 ≤ 1 → ((y0_49 = 0 ∧ (x1 < 1 ∨ 3 < x1 ∨ x2 < 0 ∨ 1 < x2 ∨ x3 < 0 ∨ 9999 < x3 ∨ (x2 = 0 ∧ 99 < x3))) ∨ (y0_49 = 1 ∧ 1 ≤ x1 ∧ x1 ≤ 3 ∧ 0 ≤ x2 ∧ x2 ≤ 1 ∧ 0 ≤ x3 ∧ x3 ≤ 9999 ∧ (x2 = 0 → x3 ≤ 99))) → ∀ (H : Heap) (locs : List Loc), tf_n tf_kt g M_X10_line T s.heap T H locs → tf_s H a0 (g.1.2 10 3) = some (.ref b0) → tf_rw H b0 = r0 → ∀ (ls : Array Slot), lv_has ls 5 [(0, .ref a0), (1, .int (Int32.ofInt x1)), (2, .int (Int32.ofInt x2)), (3, .int (Int32.ofInt x3))] → W p l e R s m args below meth c H locs 0 0 Q (F0 m 49 ls [.int (Int32.ofInt y0_49)]) := by
    intro hx1_49 hx2_49 hx3_49 y0_49 hy0_49 hi0_49 H locs hW hs3_49 hcROW_49 ls hl
    refine lv_istore (lv' := [(4, .int (Int32.ofInt y0_49)), (0, .ref a0), (1, .int (Int32.ofInt x1)), (2, .int (Int32.ofInt x2)), (3, .int (Int32.ofInt x3))]) hx hb dX10_line_49 hl (by decide) rfl (fun ls hl => ?_)
    refine lv_iload hx hb dX10_line_51 (lv_at hl 0 rfl) ?_
    refine tf_if_eq (tgt := 73) hx hb ⟨by omega, by omega⟩ dX10_line_53 (by decide) (fun h1 => ?_) (fun h1 => ?_)
    · refine lv_aload_n hx hb dX10_line_73 rfl (lv_at hl 1 rfl) ?_
      refine tf_iconst hx hb dX10_line_74 ?_
      refine tf_calli (va_runV (As := [.int (Int32.ofInt ((-1)))]) (rest := []) ⟨hx, hb, hml, hown, hts⟩ (c_X10_tell l g T a0 ha0 ((-1)) ⟨by omega, by omega⟩) (cwV 1 hts gv_X10_117 rfl rfl rfl hd_X10_tell ⟨Nat.le_trans (by decide) hR1, Nat.le_trans (by decide) hR2⟩) (tf_preV hk hW ha0 (ci := 10) rfl rfl trivial) rfl rfl hl.1 rfl (lv_room (Nat.le_of_ble_eq_true rfl)) dX10_line_75 ⟨Nat.zero_le _, Nat.zero_le _⟩) hW (by decide) (fun z2 H2 locs2 hW hF2 hp2 => ?_)
      have hs3 := tf_keepF hF2 ha0 rfl rfl (by decide) hs3_49
      have hs4 := tf_keepC hF2 hb0 rfl (by decide) hcROW_49
      obtain ⟨hp2_0, hp2_1, hp2_2⟩ := hp2
      exact tf_reti (z := z2) hx hb hr hlocks hQ hW ⟨by omega, by omega, ⟨r0, hs4, (by first | exact Or.inl ⟨by omega, hRC_0, hRC_1⟩ | exact Or.inr ⟨by omega, by omega, rfl⟩)⟩⟩ dX10_line_78
    · refine lv_aload_n hx hb dX10_line_56 rfl (lv_at hl 1 rfl) ?_
      refine tf_iconst hx hb dX10_line_57 ?_
      refine tf_iconst hx hb dX10_line_58 ?_
      refine lv_iload_n hx hb dX10_line_59 rfl (lv_at hl 2 rfl) ?_
      refine tf_iconst hx hb dX10_line_60 ?_
      refine tf_isub hx hb dX10_line_61 ?_
      refine tf_imul hx hb dX10_line_62 ?_
      refine tf_iadd hx hb dX10_line_63 ?_
      refine lv_iload_n hx hb dX10_line_64 rfl (lv_at hl 3 rfl) ?_
      refine tf_iadd hx hb dX10_line_65 ?_
      refine lv_iload_n hx hb dX10_line_66 rfl (lv_at hl 4 rfl) ?_
      refine tf_calli (va_runV (As := [.int (Int32.ofInt (((5 + (2 * (x1 - 1))) + x2))), .int (Int32.ofInt x3)]) (rest := []) ⟨hx, hb, hml, hown, hts⟩ (c_X10_change l g T a0 ha0 (((5 + (2 * (x1 - 1))) + x2)) ⟨by omega, by omega⟩ (x3) ⟨by omega, by omega⟩ b0 hb0 r0 (by first | omega | assumption)) (cwV 2 hts gv_X10_168 rfl rfl rfl hd_X10_change ⟨Nat.le_trans (by decide) hR1, Nat.le_trans (by decide) hR2⟩) (tf_preV hk hW ha0 (ci := 10) rfl rfl ⟨hs3_49, hcROW_49⟩) rfl rfl hl.1 rfl (lv_room (Nat.le_of_ble_eq_true rfl)) dX10_line_67 ⟨Nat.zero_le _, Nat.zero_le _⟩) hW (by decide) (fun zC HC locsC hW hFC hpC => ?_)
      have hs5 := tf_keepF hFC ha0 rfl rfl (by decide) hs3_49
      obtain ⟨hpC_0, hpC_1, hpC_2⟩ := hpC
      obtain ⟨r1_C, hXC_0, hRC_0, hRC_1⟩ := hpC_2
      refine lv_goto (tgt := 78) hx hb dX10_line_70 (by decide) ?_
      exact tf_reti (z := zC) hx hb hr hlocks hQ hW ⟨by omega, by omega, ⟨r1_C, hXC_0, (by first | exact Or.inl ⟨by omega, hRC_0, hRC_1⟩ | exact Or.inr ⟨by omega, by omega, rfl⟩)⟩⟩ dX10_line_78
  have j_48 : (-2147483648) ≤ x1 ∧ x1 ≤ 2147483647 → (-2147483648) ≤ x2 ∧ x2 ≤ 2147483647 → (-2147483648) ≤ x3 ∧ x3 ≤ 2147483647 → (x1 < 1 ∨ 3 < x1 ∨ x2 < 0 ∨ 1 < x2 ∨ x3 < 0 ∨ 9999 < x3 ∨ (x2 = 0 ∧ 99 < x3)) → ∀ (H : Heap) (locs : List Loc), tf_n tf_kt g M_X10_line T s.heap T H locs → tf_s H a0 (g.1.2 10 3) = some (.ref b0) → tf_rw H b0 = r0 → ∀ (ls : Array Slot), lv_has ls 5 [(0, .ref a0), (1, .int (Int32.ofInt x1)), (2, .int (Int32.ofInt x2)), (3, .int (Int32.ofInt x3))] → W p l e R s m args below meth c H locs 0 0 Q (F0 m 48 ls []) := by
    intro hx1_48 hx2_48 hx3_48 hi0_48 H locs hW hs3_48 hcROW_48 ls hl
    refine tf_iconst hx hb dX10_line_48 ?_
    exact j_49 ⟨by omega, by omega⟩ ⟨by omega, by omega⟩ ⟨by omega, by omega⟩ (0) ⟨by omega, by omega⟩ (by first | omega | assumption) _ _ hW hs3_48 hcROW_48 _ (lv_sub hl [0, 1, 2, 3] rfl)
  have j_38 : 1 ≤ x1 ∧ x1 ≤ 3 → 0 ≤ x2 ∧ x2 ≤ 1 → (-2147483648) ≤ x3 ∧ x3 ≤ 2147483647 → (-2147483648) ≤ x3 ∧ x3 ≤ 2147483647 → ∀ (y2_38 : Int), 99 ≤ y2_38 ∧ y2_38 ≤ 9999 → ((x2 = 0 ∧ y2_38 = 99) ∨ (x2 ≠ 0 ∧ y2_38 = 9999)) → (1 ≤ x1 ∧ x1 ≤ 3 ∧ 0 ≤ x2 ∧ x2 ≤ 1) → ∀ (H : Heap) (locs : List Loc), tf_n tf_kt g M_X10_line T s.heap T H locs → tf_s H a0 (g.1.2 10 3) = some (.ref b0) → tf_rw H b0 = r0 → ∀ (ls : Array Slot), lv_has ls 5 [(0, .ref a0), (1, .int (Int32.ofInt x1)), (2, .int (Int32.ofInt x2)), (3, .int (Int32.ofInt x3))] → W p l e R s m args below meth c H locs 0 0 Q (F0 m 38 ls [.long (Int64.ofInt y2_38), .long (Int64.ofInt 0), .long (Int64.ofInt x3)]) := by
    intro hx1_38 hx2_38 hx3_38 hy0_38 y2_38 hy2_38 hi0_38 hi1_38 H locs hW hs3_38 hcROW_38 ls hl
    refine tf_calli (va_runS (As := [.long (Int64.ofInt x3), .long (Int64.ofInt 0), .long (Int64.ofInt y2_38)]) (rest := []) ⟨hx, hb, hml, hown, hts⟩ (c_X10_in l g T (x3) ⟨by omega, by omega⟩ (0) ⟨by omega, by omega⟩ (y2_38) ⟨by omega, by omega⟩) ⟨callB_of 3 hts (gw_ws cm_X10_in) rfl rfl rfl (hts _ (tw1 (i := 5) rfl)) (hts _ (tw11 (i := 3) rfl)) hd_X10_in.2 ⟨Nat.le_trans (by decide) hR1, Nat.le_trans (by decide) hR2⟩, hts _ (tw11 (i := 4) rfl)⟩ (tf_preS hk hW trivial) rfl rfl hl.1 rfl (lv_room (Nat.le_of_ble_eq_true rfl)) dX10_line_38 ⟨Nat.zero_le _, Nat.zero_le _⟩) hW (by decide) (fun z6 H6 locs6 hW hF6 hp6 => ?_)
    have hs7 := tf_keepF hF6 ha0 rfl rfl (by decide) hs3_38
    have hs8 := tf_keepC hF6 hb0 rfl (by decide) hcROW_38
    rcases hp6 with ⟨rfl, h9, h10⟩ | ⟨rfl, h11⟩
    · refine tf_if_eq (tgt := 48) hx hb ⟨by decide, by decide⟩ dX10_line_41 (by decide) (fun h12 => ?_) (fun h12 => ?_)
      · exfalso; omega
      · refine tf_iconst hx hb dX10_line_44 ?_
        refine lv_goto (tgt := 49) hx hb dX10_line_45 (by decide) ?_
        exact j_49 ⟨by omega, by omega⟩ ⟨by omega, by omega⟩ ⟨by omega, by omega⟩ (1) ⟨by omega, by omega⟩ (by first | omega | assumption) _ _ hW hs7 hs8 _ (lv_sub hl [0, 1, 2, 3] rfl)
    · refine tf_if_eq (tgt := 48) hx hb ⟨by decide, by decide⟩ dX10_line_41 (by decide) (fun h13 => ?_) (fun h13 => ?_)
      · exact j_48 ⟨by omega, by omega⟩ ⟨by omega, by omega⟩ ⟨by omega, by omega⟩ (by first | omega | assumption) _ _ hW hs7 hs8 _ (lv_sub hl [0, 1, 2, 3] rfl)
      · exfalso; omega
  refine tf_enter (As := [.ref a0, .int (Int32.ofInt x1), .int (Int32.ofInt x2), .int (Int32.ofInt x3)]) hargs (Nat.le_of_ble_eq_true rfl) (fun ls hl => ?_)
  have hl : lv_has ls 5 [(0, .ref a0), (1, .int (Int32.ofInt x1)), (2, .int (Int32.ofInt x2)), (3, .int (Int32.ofInt x3))] := hl
  refine lv_aload_n hx hb dX10_line_0 rfl (lv_at hl 0 rfl) ?_
  refine tf_iconst hx hb dX10_line_1 ?_
  refine tf_put hx hb hts inlX10 tyX10 tyX10_ok nmX10 hown hK (ci := 10) rfl hW ha0 rfl rfl 0 rfl (by decide) (by decide) (hts _ fl_X10_103) rfl (tf_u0 (by omega) (by omega)) rfl rfl dX10_line_2 (fun H14 locs14 hW hs14 ht14 hq14 => ?_)
  have hs15 := (ht14 3 (by decide) (by decide)).trans he0
  have hs16 := tf_keepCQ he1 (hq14 _ (tf_ne hb0 ha0 (by decide)))
  refine lv_iload_n hx hb dX10_line_5 rfl (lv_at hl 1 rfl) ?_
  refine tf_calli (va_runS (As := [.int (Int32.ofInt x1)]) (rest := []) ⟨hx, hb, hml, hown, hts⟩ (c_X10_isUse l g T (x1) ⟨by omega, by omega⟩) ⟨callB_of 1 hts (gw_ws cm_X10_isUse) rfl rfl rfl (hts _ (tw1 (i := 5) rfl)) (hts _ (tw16 (i := 10) rfl)) hd_X10_isUse.2 ⟨Nat.le_trans (by decide) hR1, Nat.le_trans (by decide) hR2⟩, hts _ (tw16 (i := 11) rfl)⟩ (tf_preS hk hW trivial) rfl rfl hl.1 rfl (lv_room (Nat.le_of_ble_eq_true rfl)) dX10_line_6 ⟨Nat.zero_le _, Nat.zero_le _⟩) hW (by decide) (fun z17 H17 locs17 hW hF17 hp17 => ?_)
  have hs18 := tf_keepF hF17 ha0 rfl rfl (by decide) hs15
  have hs19 := tf_keepC hF17 hb0 rfl (by decide) hs16
  rcases hp17 with ⟨rfl, h20, h21⟩ | ⟨rfl, h22⟩
  · refine tf_if_eq (tgt := 48) hx hb ⟨by decide, by decide⟩ dX10_line_9 (by decide) (fun h23 => ?_) (fun h23 => ?_)
    · exfalso; omega
    · refine lv_iload_n hx hb dX10_line_12 rfl (lv_at hl 2 rfl) ?_
      refine tf_i2l hx hb ⟨by omega, by omega⟩ dX10_line_13 ?_
      refine tf_lconst (z := 0) hx hb dX10_line_14 (by decide) ?_
      refine tf_lconst (z := 1) hx hb dX10_line_15 (by decide) ?_
      refine tf_calli (va_runS (As := [.long (Int64.ofInt x2), .long (Int64.ofInt 0), .long (Int64.ofInt 1)]) (rest := []) ⟨hx, hb, hml, hown, hts⟩ (c_X10_in l g T (x2) ⟨by omega, by omega⟩ (0) ⟨by omega, by omega⟩ (1) ⟨by omega, by omega⟩) ⟨callB_of 3 hts (gw_ws cm_X10_in) rfl rfl rfl (hts _ (tw1 (i := 5) rfl)) (hts _ (tw11 (i := 3) rfl)) hd_X10_in.2 ⟨Nat.le_trans (by decide) hR1, Nat.le_trans (by decide) hR2⟩, hts _ (tw11 (i := 4) rfl)⟩ (tf_preS hk hW trivial) rfl rfl hl.1 rfl (lv_room (Nat.le_of_ble_eq_true rfl)) dX10_line_16 ⟨Nat.zero_le _, Nat.zero_le _⟩) hW (by decide) (fun z24 H24 locs24 hW hF24 hp24 => ?_)
      have hs25 := tf_keepF hF24 ha0 rfl rfl (by decide) hs18
      have hs26 := tf_keepC hF24 hb0 rfl (by decide) hs19
      rcases hp24 with ⟨rfl, h27, h28⟩ | ⟨rfl, h29⟩
      · refine tf_if_eq (tgt := 48) hx hb ⟨by decide, by decide⟩ dX10_line_19 (by decide) (fun h30 => ?_) (fun h30 => ?_)
        · exfalso; omega
        · refine lv_iload_n hx hb dX10_line_22 rfl (lv_at hl 3 rfl) ?_
          refine tf_i2l hx hb ⟨by omega, by omega⟩ dX10_line_23 ?_
          refine tf_lconst (z := 0) hx hb dX10_line_24 (by decide) ?_
          refine lv_iload_n hx hb dX10_line_25 rfl (lv_at hl 2 rfl) ?_
          refine tf_if_ne (tgt := 35) hx hb ⟨by omega, by omega⟩ dX10_line_26 (by decide) (fun h31 => ?_) (fun h31 => ?_)
          · refine tf_ldc2 (z := 9999) hx hb hown (hts _ kl_X10_176) (by decide) dX10_line_35 ?_
            exact j_38 ⟨by omega, by omega⟩ ⟨by omega, by omega⟩ ⟨by omega, by omega⟩ ⟨by omega, by omega⟩ (9999) ⟨by omega, by omega⟩ (by first | omega | assumption) (by first | omega | assumption) _ _ hW hs25 hs26 _ (lv_sub hl [0, 1, 2, 3] rfl)
          · refine tf_ldc2 (z := 99) hx hb hown (hts _ kl_X10_120) (by decide) dX10_line_29 ?_
            refine lv_goto (tgt := 38) hx hb dX10_line_32 (by decide) ?_
            exact j_38 ⟨by omega, by omega⟩ ⟨by omega, by omega⟩ ⟨by omega, by omega⟩ ⟨by omega, by omega⟩ (99) ⟨by omega, by omega⟩ (by first | omega | assumption) (by first | omega | assumption) _ _ hW hs25 hs26 _ (lv_sub hl [0, 1, 2, 3] rfl)
      · refine tf_if_eq (tgt := 48) hx hb ⟨by decide, by decide⟩ dX10_line_19 (by decide) (fun h32 => ?_) (fun h32 => ?_)
        · exact j_48 ⟨by omega, by omega⟩ ⟨by omega, by omega⟩ ⟨by omega, by omega⟩ (by first | omega | assumption) _ _ hW hs25 hs26 _ (lv_sub hl [0, 1, 2, 3] rfl)
        · exfalso; omega
  · refine tf_if_eq (tgt := 48) hx hb ⟨by decide, by decide⟩ dX10_line_9 (by decide) (fun h33 => ?_) (fun h33 => ?_)
    · exact j_48 ⟨by omega, by omega⟩ ⟨by omega, by omega⟩ ⟨by omega, by omega⟩ (by first | omega | assumption) _ _ hW hs18 hs19 _ (lv_sub hl [0, 1, 2, 3] rfl)
    · exfalso; omega

abbrev M_X10_hours : List (Nat × Nat) := [(40, 0), (41, 0), (63, 0), (63, 1)]
set_option maxHeartbeats 4000000 in
set_option maxRecDepth 100000 in
theorem c_X10_hours (l : Launch) (g : tf_G) (T : tf_T) (a0 : Nat) (ha0 : T a0 = some (63, 0)) (x1 : Int) (hp1 : (-2147483648) ≤ x1 ∧ x1 ≤ 2147483647) (x2 : Int) (hp2 : (-2147483648) ≤ x2 ∧ x2 ≤ 2147483647) (x3 : Int) (hp3 : (-2147483648) ≤ x3 ∧ x3 ≤ 2147483647) (b0 : Nat) (hb0 : T b0 = some (41, 5830)) (r0 : Int → Int) : Met l yX10_hours (cd_X10_hours :: wsL_law) ({ frames := 3, cells := 0, slots := 0, locals := 69 }) (tf_P g T [.ref a0, .int (Int32.ofInt x1), .int (Int32.ofInt x2), .int (Int32.ofInt x3)] (fun H => tf_s H a0 (g.1.2 10 3) = some (.ref b0) ∧ tf_rw H b0 = r0)) (tf_Qi g M_X10_hours T (fun z _ H => (-2147483648) ≤ z ∧ z ≤ 2147483647 ∧ (∃ (r1 : Int → Int), tf_rw H b0 = r1 ∧ (tf_HM x1 x2 x3 z r0 r1)))) 0 0 (fun q => tf_B g ≤ q) := by
  refine Met.ofW (cc := cX10_hours) (maxL := 4) (ret := (some .int)) (by decide) rfl ?_
  intro p e s m args below meth c s₁ B hml hv
  obtain ⟨hargs, hk, hW0, hB, hpre⟩ := hv
  obtain ⟨he0, he1⟩ := hpre
  have hx := B.exec
  have hb := B.bytes
  have hr := B.returns
  have hts : ∀ w ∈ wsL_law, w.before args s = true := fun w h => atoms_spec (ws := cd_X10_hours :: wsL_law) B.pre w (List.mem_cons_of_mem _ h)
  have hown : s.vm.findClass RX10 = some m.cls := findClass_of_methodNamed B.named
  have hlocks := B.notSynchronized
  have hK := hk.1
  have hW := tf_n.start (M := M_X10_hours) hW0 hB
  obtain ⟨Q, hQ⟩ : ∃ q, q = MQ below (tf_Qi g M_X10_hours T (fun z _ H => (-2147483648) ≤ z ∧ z ≤ 2147483647 ∧ (∃ (r1 : Int → Int), tf_rw H b0 = r1 ∧ (tf_HM x1 x2 x3 z r0 r1)))) args s 0 0 (fun q => tf_B g ≤ q) := ⟨_, rfl⟩
  rw [← hQ]
  obtain ⟨R, hR⟩ : ∃ q, q = (headSpec (cd_X10_hours :: wsL_law) ({ frames := 3, cells := 0, slots := 0, locals := 69 })).room := ⟨_, rfl⟩
  rw [← hR]
  have hR1 : 3 ≤ R.frames := by rw [hR]; exact Nat.le_refl _
  have hR2 : 69 ≤ R.locals := by rw [hR]; exact Nat.le_refl _
  have hR3 : 0 ≤ R.cells := by rw [hR]; exact Nat.le_refl _
  have hR4 : 0 ≤ R.slots := by rw [hR]; exact Nat.le_refl _
  have hin := (name_of_methodNamed B.named B.method).1
  clear hR B
  have j_54 : (x1 < 0 ∨ 3 < x1 ∨ x2 < 0 ∨ 9 < x2 ∨ x3 < 0 ∨ 999 < x3) → ∀ (H : Heap) (locs : List Loc), tf_n tf_kt g M_X10_hours T s.heap T H locs → tf_rw H b0 = r0 → ∀ (ls : Array Slot), lv_has ls 4 [(0, .ref a0)] → W p l e R s m args below meth c H locs 0 0 Q (F0 m 54 ls []) := by
    intro hi0_54 H locs hW hcROW_54 ls hl
    refine lv_aload_n hx hb dX10_hours_54 rfl (lv_at hl 0 rfl) ?_
    refine tf_iconst hx hb dX10_hours_55 ?_
    refine tf_calli (va_runV (As := [.int (Int32.ofInt ((-1)))]) (rest := []) ⟨hx, hb, hml, hown, hts⟩ (c_X10_tell l g T a0 ha0 ((-1)) ⟨by omega, by omega⟩) (cwV 1 hts gv_X10_117 rfl rfl rfl hd_X10_tell ⟨Nat.le_trans (by decide) hR1, Nat.le_trans (by decide) hR2⟩) (tf_preV hk hW ha0 (ci := 10) rfl rfl trivial) rfl rfl hl.1 rfl (lv_room (Nat.le_of_ble_eq_true rfl)) dX10_hours_56 ⟨Nat.zero_le _, Nat.zero_le _⟩) hW (by decide) (fun z1 H1 locs1 hW hF1 hp1 => ?_)
    have hs2 := tf_keepC hF1 hb0 rfl (by decide) hcROW_54
    obtain ⟨hp1_0, hp1_1, hp1_2⟩ := hp1
    exact tf_reti (z := z1) hx hb hr hlocks hQ hW ⟨by omega, by omega, ⟨r0, hs2, (by first | exact Or.inl ⟨by omega, hRC_0, hRC_1⟩ | exact Or.inr ⟨by omega, by omega, rfl⟩)⟩⟩ dX10_hours_59
  refine tf_enter (As := [.ref a0, .int (Int32.ofInt x1), .int (Int32.ofInt x2), .int (Int32.ofInt x3)]) hargs (Nat.le_of_ble_eq_true rfl) (fun ls hl => ?_)
  have hl : lv_has ls 4 [(0, .ref a0), (1, .int (Int32.ofInt x1)), (2, .int (Int32.ofInt x2)), (3, .int (Int32.ofInt x3))] := hl
  refine lv_aload_n hx hb dX10_hours_0 rfl (lv_at hl 0 rfl) ?_
  refine tf_iconst hx hb dX10_hours_1 ?_
  refine tf_put hx hb hts inlX10 tyX10 tyX10_ok nmX10 hown hK (ci := 10) rfl hW ha0 rfl rfl 0 rfl (by decide) (by decide) (hts _ fl_X10_103) rfl (tf_u0 (by omega) (by omega)) rfl rfl dX10_hours_2 (fun H3 locs3 hW hs3 ht3 hq3 => ?_)
  have hs4 := (ht3 3 (by decide) (by decide)).trans he0
  have hs5 := tf_keepCQ he1 (hq3 _ (tf_ne hb0 ha0 (by decide)))
  refine lv_iload_n hx hb dX10_hours_5 rfl (lv_at hl 1 rfl) ?_
  refine tf_calli (va_runS (As := [.int (Int32.ofInt x1)]) (rest := []) ⟨hx, hb, hml, hown, hts⟩ (c_X10_isWay l g T (x1) ⟨by omega, by omega⟩) ⟨callB_of 1 hts (gw_ws cm_X10_isWay) rfl rfl rfl (hts _ (tw1 (i := 5) rfl)) (hts _ (tw17 (i := 8) rfl)) hd_X10_isWay.2 ⟨Nat.le_trans (by decide) hR1, Nat.le_trans (by decide) hR2⟩, hts _ (tw17 (i := 9) rfl)⟩ (tf_preS hk hW trivial) rfl rfl hl.1 rfl (lv_room (Nat.le_of_ble_eq_true rfl)) dX10_hours_6 ⟨Nat.zero_le _, Nat.zero_le _⟩) hW (by decide) (fun z6 H6 locs6 hW hF6 hp6 => ?_)
  have hs7 := tf_keepF hF6 ha0 rfl rfl (by decide) hs4
  have hs8 := tf_keepC hF6 hb0 rfl (by decide) hs5
  rcases hp6 with ⟨rfl, h9, h10⟩ | ⟨rfl, h11⟩
  · refine tf_if_eq (tgt := 54) hx hb ⟨by decide, by decide⟩ dX10_hours_9 (by decide) (fun h12 => ?_) (fun h12 => ?_)
    · exfalso; omega
    · refine lv_iload_n hx hb dX10_hours_12 rfl (lv_at hl 2 rfl) ?_
      refine tf_i2l hx hb ⟨by omega, by omega⟩ dX10_hours_13 ?_
      refine tf_lconst (z := 0) hx hb dX10_hours_14 (by decide) ?_
      refine tf_ldc2 (z := 9) hx hb hown (hts _ kl_X10_142) (by decide) dX10_hours_15 ?_
      refine tf_calli (va_runS (As := [.long (Int64.ofInt x2), .long (Int64.ofInt 0), .long (Int64.ofInt 9)]) (rest := []) ⟨hx, hb, hml, hown, hts⟩ (c_X10_in l g T (x2) ⟨by omega, by omega⟩ (0) ⟨by omega, by omega⟩ (9) ⟨by omega, by omega⟩) ⟨callB_of 3 hts (gw_ws cm_X10_in) rfl rfl rfl (hts _ (tw1 (i := 5) rfl)) (hts _ (tw11 (i := 3) rfl)) hd_X10_in.2 ⟨Nat.le_trans (by decide) hR1, Nat.le_trans (by decide) hR2⟩, hts _ (tw11 (i := 4) rfl)⟩ (tf_preS hk hW trivial) rfl rfl hl.1 rfl (lv_room (Nat.le_of_ble_eq_true rfl)) dX10_hours_18 ⟨Nat.zero_le _, Nat.zero_le _⟩) hW (by decide) (fun z13 H13 locs13 hW hF13 hp13 => ?_)
      have hs14 := tf_keepF hF13 ha0 rfl rfl (by decide) hs7
      have hs15 := tf_keepC hF13 hb0 rfl (by decide) hs8
      rcases hp13 with ⟨rfl, h16, h17⟩ | ⟨rfl, h18⟩
      · refine tf_if_eq (tgt := 54) hx hb ⟨by decide, by decide⟩ dX10_hours_21 (by decide) (fun h19 => ?_) (fun h19 => ?_)
        · exfalso; omega
        · refine lv_iload_n hx hb dX10_hours_24 rfl (lv_at hl 3 rfl) ?_
          refine tf_i2l hx hb ⟨by omega, by omega⟩ dX10_hours_25 ?_
          refine tf_lconst (z := 0) hx hb dX10_hours_26 (by decide) ?_
          refine tf_ldc2 (z := 999) hx hb hown (hts _ kl_X10_181) (by decide) dX10_hours_27 ?_
          refine tf_calli (va_runS (As := [.long (Int64.ofInt x3), .long (Int64.ofInt 0), .long (Int64.ofInt 999)]) (rest := []) ⟨hx, hb, hml, hown, hts⟩ (c_X10_in l g T (x3) ⟨by omega, by omega⟩ (0) ⟨by omega, by omega⟩ (999) ⟨by omega, by omega⟩) ⟨callB_of 3 hts (gw_ws cm_X10_in) rfl rfl rfl (hts _ (tw1 (i := 5) rfl)) (hts _ (tw11 (i := 3) rfl)) hd_X10_in.2 ⟨Nat.le_trans (by decide) hR1, Nat.le_trans (by decide) hR2⟩, hts _ (tw11 (i := 4) rfl)⟩ (tf_preS hk hW trivial) rfl rfl hl.1 rfl (lv_room (Nat.le_of_ble_eq_true rfl)) dX10_hours_30 ⟨Nat.zero_le _, Nat.zero_le _⟩) hW (by decide) (fun z20 H20 locs20 hW hF20 hp20 => ?_)
          have hs21 := tf_keepF hF20 ha0 rfl rfl (by decide) hs14
          have hs22 := tf_keepC hF20 hb0 rfl (by decide) hs15
          rcases hp20 with ⟨rfl, h23, h24⟩ | ⟨rfl, h25⟩
          · refine tf_if_eq (tgt := 54) hx hb ⟨by decide, by decide⟩ dX10_hours_33 (by decide) (fun h26 => ?_) (fun h26 => ?_)
            · exfalso; omega
            · refine lv_aload_n hx hb dX10_hours_36 rfl (lv_at hl 0 rfl) ?_
              refine tf_sipush hx hb dX10_hours_37 (by decide) ?_
              refine tf_bipush hx hb dX10_hours_40 (by decide) ?_
              refine lv_iload_n hx hb dX10_hours_42 rfl (lv_at hl 1 rfl) ?_
              refine tf_imul hx hb dX10_hours_43 ?_
              refine tf_iadd hx hb dX10_hours_44 ?_
              refine lv_iload_n hx hb dX10_hours_45 rfl (lv_at hl 2 rfl) ?_
              refine tf_iadd hx hb dX10_hours_46 ?_
              refine lv_iload_n hx hb dX10_hours_47 rfl (lv_at hl 3 rfl) ?_
              refine tf_calli (va_runV (As := [.int (Int32.ofInt (((341 + (10 * x1)) + x2))), .int (Int32.ofInt x3)]) (rest := []) ⟨hx, hb, hml, hown, hts⟩ (c_X10_change l g T a0 ha0 (((341 + (10 * x1)) + x2)) ⟨by omega, by omega⟩ (x3) ⟨by omega, by omega⟩ b0 hb0 r0 (by first | omega | assumption)) (cwV 2 hts gv_X10_168 rfl rfl rfl hd_X10_change ⟨Nat.le_trans (by decide) hR1, Nat.le_trans (by decide) hR2⟩) (tf_preV hk hW ha0 (ci := 10) rfl rfl ⟨hs21, hs22⟩) rfl rfl hl.1 rfl (lv_room (Nat.le_of_ble_eq_true rfl)) dX10_hours_48 ⟨Nat.zero_le _, Nat.zero_le _⟩) hW (by decide) (fun zC HC locsC hW hFC hpC => ?_)
              have hs27 := tf_keepF hFC ha0 rfl rfl (by decide) hs21
              obtain ⟨hpC_0, hpC_1, hpC_2⟩ := hpC
              obtain ⟨r1_C, hXC_0, hRC_0, hRC_1⟩ := hpC_2
              refine lv_goto (tgt := 59) hx hb dX10_hours_51 (by decide) ?_
              exact tf_reti (z := zC) hx hb hr hlocks hQ hW ⟨by omega, by omega, ⟨r1_C, hXC_0, (by first | exact Or.inl ⟨by omega, hRC_0, hRC_1⟩ | exact Or.inr ⟨by omega, by omega, rfl⟩)⟩⟩ dX10_hours_59
          · refine tf_if_eq (tgt := 54) hx hb ⟨by decide, by decide⟩ dX10_hours_33 (by decide) (fun h28 => ?_) (fun h28 => ?_)
            · exact j_54 (by first | omega | assumption) _ _ hW hs22 _ (lv_sub hl [0] rfl)
            · exfalso; omega
      · refine tf_if_eq (tgt := 54) hx hb ⟨by decide, by decide⟩ dX10_hours_21 (by decide) (fun h29 => ?_) (fun h29 => ?_)
        · exact j_54 (by first | omega | assumption) _ _ hW hs15 _ (lv_sub hl [0] rfl)
        · exfalso; omega
  · refine tf_if_eq (tgt := 54) hx hb ⟨by decide, by decide⟩ dX10_hours_9 (by decide) (fun h30 => ?_) (fun h30 => ?_)
    · exact j_54 (by first | omega | assumption) _ _ hW hs8 _ (lv_sub hl [0] rfl)
    · exfalso; omega

abbrev M_X10_allHours : List (Nat × Nat) := []
set_option maxHeartbeats 4000000 in
set_option maxRecDepth 100000 in
theorem c_X10_allHours (l : Launch) (g : tf_G) (T : tf_T) (a0 : Nat) (ha0 : T a0 = some (63, 0)) (b0 : Nat) (hb0 : T b0 = some (41, 5830)) (r0 : Int → Int) : Met l yX10_allHours (cd_X10_allHours :: wsL_law) ({ frames := 1, cells := 0, slots := 0, locals := 24 }) (tf_P g T [.ref a0] (fun H => tf_s H a0 (g.1.2 10 3) = some (.ref b0) ∧ tf_rw H b0 = r0)) (tf_Qi g M_X10_allHours T (fun z _ _ => 0 ≤ z ∧ z ≤ 39960 ∧ z = tf_Su r0 0 ∧ z = tf_Y (fun i => r0 (341 + i)))) 0 0 (fun q => tf_B g ≤ q) := by
  refine Met.ofW (cc := cX10_allHours) (maxL := 3) (ret := (some .int)) (by decide) rfl ?_
  intro p e s m args below meth c s₁ B hml hv
  obtain ⟨hargs, hk, hW0, hB, hpre⟩ := hv
  obtain ⟨he0, he1⟩ := hpre
  have hx := B.exec
  have hb := B.bytes
  have hr := B.returns
  have hts : ∀ w ∈ wsL_law, w.before args s = true := fun w h => atoms_spec (ws := cd_X10_allHours :: wsL_law) B.pre w (List.mem_cons_of_mem _ h)
  have hown : s.vm.findClass RX10 = some m.cls := findClass_of_methodNamed B.named
  have hlocks := B.notSynchronized
  have hK := hk.1
  have hW := tf_n.start (M := M_X10_allHours) hW0 hB
  obtain ⟨Q, hQ⟩ : ∃ q, q = MQ below (tf_Qi g M_X10_allHours T (fun z _ _ => 0 ≤ z ∧ z ≤ 39960 ∧ z = tf_Su r0 0 ∧ z = tf_Y (fun i => r0 (341 + i)))) args s 0 0 (fun q => tf_B g ≤ q) := ⟨_, rfl⟩
  rw [← hQ]
  obtain ⟨R, hR⟩ : ∃ q, q = (headSpec (cd_X10_allHours :: wsL_law) ({ frames := 1, cells := 0, slots := 0, locals := 24 })).room := ⟨_, rfl⟩
  rw [← hR]
  have hR1 : 1 ≤ R.frames := by rw [hR]; exact Nat.le_refl _
  have hR2 : 24 ≤ R.locals := by rw [hR]; exact Nat.le_refl _
  have hR3 : 0 ≤ R.cells := by rw [hR]; exact Nat.le_refl _
  have hR4 : 0 ≤ R.slots := by rw [hR]; exact Nat.le_refl _
  have hin := (name_of_methodNamed B.named B.method).1
  clear hR B
  have j_4 : ∀ (n_4 : Nat), ∀ (x1_4 : Int), 0 ≤ x1_4 ∧ x1_4 ≤ 39960 → ∀ (x2_4 : Int), 0 ≤ x2_4 ∧ x2_4 ≤ 40 → (x1_4 ≤ 999 * x2_4) → (x1_4 + tf_Su r0 x2_4 = tf_Su r0 0) → (40 - x2_4 + 1 ≤ (n_4 : Int)) → ∀ (H : Heap) (locs : List Loc), tf_n tf_kt g M_X10_allHours T s.heap T H locs → tf_s H a0 (g.1.2 10 3) = some (.ref b0) → tf_rw H b0 = r0 → ∀ (ls : Array Slot), lv_has ls 3 [(0, .ref a0), (1, .int (Int32.ofInt x1_4)), (2, .int (Int32.ofInt x2_4))] → W p l e R s m args below meth c H locs 0 0 Q (F0 m 4 ls []) := by
    intro n_4
    induction n_4 with
    | zero =>
      intro x1_4 hx1_4 x2_4 hx2_4 hi0_4 hi1_4 hm_4
      exfalso; omega
    | succ n_4 ih_4 =>
      intro x1_4 hx1_4 x2_4 hx2_4 hi0_4 hi1_4 hm_4 H locs hW hs3_4 hcROW_4 ls hl
      refine lv_iload_n hx hb dX10_allHours_4 rfl (lv_at hl 2 rfl) ?_
      refine tf_bipush hx hb dX10_allHours_5 (by decide) ?_
      refine tf_icmp_ge (tgt := 29) hx hb ⟨by omega, by omega⟩ ⟨by decide, by decide⟩ dX10_allHours_7 (by decide) (fun h1 => ?_) (fun h1 => ?_)
      · have h40 : tf_Su r0 x2_4 = 0 := tf_Su_end r0 (by omega)
        have hSY := tf_Su_Y r0
        refine lv_iload_n hx hb dX10_allHours_29 rfl (lv_at hl 1 rfl) ?_
        exact tf_reti (z := x1_4) hx hb hr hlocks hQ hW (show 0 ≤ (x1_4) ∧ (x1_4) ≤ 39960 ∧ (x1_4) = tf_Su r0 0 ∧ (x1_4) = tf_Y (fun i => r0 (341 + i)) by omega) dX10_allHours_30
      · have hS := tf_Su_step r0 (k := x2_4) (by omega) (by omega)
        refine lv_iload_n hx hb dX10_allHours_10 rfl (lv_at hl 1 rfl) ?_
        refine lv_aload_n hx hb dX10_allHours_11 rfl (lv_at hl 0 rfl) ?_
        refine tf_get hx hb hts inlX10 hown hK (ci := 10) rfl hW ha0 rfl 3 rfl (by decide) (hts _ fl_X10_13) dX10_allHours_12 (fun v2 hv2 hsv2 => ?_)
        obtain rfl : v2 = .ref b0 := Option.some.inj (hsv2.symm.trans hs3_4)
        refine tf_sipush hx hb dX10_allHours_15 (by decide) ?_
        refine lv_iload_n hx hb dX10_allHours_18 rfl (lv_at hl 2 rfl) ?_
        refine tf_iadd hx hb dX10_allHours_19 ?_
        refine tf_iald (t0 := 0) hx hb hK hW hb0 rfl rfl (by omega) (by omega) dX10_allHours_20 (fun v3 hv3 hsv3 => ?_)
        obtain ⟨z4, rfl, hz4⟩ := tf_v0 hv3
        have er5 : r0 (341 + x2_4) = z4 := hcROW_4 ▸ tf_rw_of (by omega) hsv3 ⟨by omega, by omega⟩
        have hg6 := tf_rdH (tf_ROof hW hb0) hsv3 ⟨by omega, by omega⟩ (by omega)
        refine tf_iadd hx hb dX10_allHours_21 ?_
        refine lv_istore_n (lv' := [(1, .int (Int32.ofInt ((x1_4 + z4)))), (0, .ref a0), (2, .int (Int32.ofInt x2_4))]) hx hb dX10_allHours_22 rfl hl (by decide) rfl (fun ls hl => ?_)
        refine lv_iinc (v := Int32.ofInt ((x2_4 + 1))) (lv' := [(2, .int (Int32.ofInt ((x2_4 + 1)))), (1, .int (Int32.ofInt ((x1_4 + z4)))), (0, .ref a0)]) hx hb dX10_allHours_23 hl (k := 2) rfl (Int32.ofInt_add _ _).symm (by decide) rfl (fun ls hl => ?_)
        refine lv_goto (tgt := 4) hx hb dX10_allHours_26 (by decide) ?_
        exact ih_4 ((x1_4 + z4)) ⟨by omega, by omega⟩ ((x2_4 + 1)) ⟨by omega, by omega⟩ (by omega) (by omega) (by omega) _ _ hW hs3_4 hcROW_4 _ (lv_sub hl [2, 1, 0] rfl)
  refine tf_enter (As := [.ref a0]) hargs (Nat.le_of_ble_eq_true rfl) (fun ls hl => ?_)
  have hl : lv_has ls 3 [(0, .ref a0)] := hl
  refine tf_iconst hx hb dX10_allHours_0 ?_
  refine lv_istore_n (lv' := [(1, .int (Int32.ofInt 0)), (0, .ref a0)]) hx hb dX10_allHours_1 rfl hl (by decide) rfl (fun ls hl => ?_)
  refine tf_iconst hx hb dX10_allHours_2 ?_
  refine lv_istore_n (lv' := [(2, .int (Int32.ofInt 0)), (1, .int (Int32.ofInt 0)), (0, .ref a0)]) hx hb dX10_allHours_3 rfl hl (by decide) rfl (fun ls hl => ?_)
  exact j_4 ((40 - 0 + 1 : Int)).toNat (0) ⟨by omega, by omega⟩ (0) ⟨by omega, by omega⟩ (by omega) (by omega) (by omega) _ _ hW he0 he1 _ (lv_sub hl [2, 1, 0] rfl)

abbrev M_X10_row : List (Nat × Nat) := [(40, 0), (41, 0), (63, 0), (63, 1), (63, 6), (63, 8)]
set_option maxHeartbeats 4000000 in
set_option maxRecDepth 100000 in
theorem c_X10_row (l : Launch) (g : tf_G) (T : tf_T) (a0 : Nat) (ha0 : T a0 = some (63, 0)) (b0 : Nat) (hb0 : T b0 = some (41, 5830)) (tm : Nat) (htm : T tm = some (44, 400)) (r0 : Int → Int) (t0 : Int) (ht0 : 0 ≤ t0 ∧ t0 ≤ 400) (u0 : Int) (hu0 : (-2147483648) ≤ u0 ∧ u0 ≤ 2147483647) (tp : Int → Int) : Met l yX10_row (cd_X10_row :: wsL_law) ({ frames := 2, cells := 0, slots := 0, locals := 46 }) (tf_P g T [.ref a0] (fun H => tf_s H a0 (g.1.2 10 3) = some (.ref b0) ∧ tf_rw H b0 = r0 ∧ tf_s H a0 (g.1.2 10 7) = some (.ref tm) ∧ tf_s H a0 (g.1.2 10 8) = some (.int (Int32.ofInt t0)) ∧ tf_s H a0 (g.1.2 10 6) = some (.int (Int32.ofInt u0)) ∧ tf_rw H tm = tp)) (tf_Qi g M_X10_row T (fun z _ H => (-2147483648) ≤ z ∧ z ≤ 2147483647 ∧ (∃ (t1 u1 : Int) (r1 : Int → Int), tf_s H a0 (g.1.2 10 8) = some (.int (Int32.ofInt t1)) ∧ tf_s H a0 (g.1.2 10 6) = some (.int (Int32.ofInt u1)) ∧ tf_rw H b0 = r1 ∧ (0 ≤ t1 ∧ t1 ≤ 400) ∧ ((-2147483648) ≤ u1 ∧ u1 ≤ 2147483647) ∧ ((t0 = 0 ∧ t1 = 0 ∧ u1 = u0) ∨ (t0 ≠ 0 ∧ t1 = 0 ∧ ((80 ≤ t0 ∧ u1 = t0 - 80) ∨ (t0 < 80 ∧ u1 = t0 % 2)))) ∧ (tf_RM t0 z tp r0 r1)))) 0 0 (fun q => tf_B g ≤ q) := by
  refine Met.ofW (cc := cX10_row) (maxL := 5) (ret := (some .int)) (by decide) rfl ?_
  intro p e s m args below meth c s₁ B hml hv
  obtain ⟨hargs, hk, hW0, hB, hpre⟩ := hv
  obtain ⟨he0, he1, he2, he3, he4, he5⟩ := hpre
  have hx := B.exec
  have hb := B.bytes
  have hr := B.returns
  have hts : ∀ w ∈ wsL_law, w.before args s = true := fun w h => atoms_spec (ws := cd_X10_row :: wsL_law) B.pre w (List.mem_cons_of_mem _ h)
  have hown : s.vm.findClass RX10 = some m.cls := findClass_of_methodNamed B.named
  have hlocks := B.notSynchronized
  have hK := hk.1
  have hW := tf_n.start (M := M_X10_row) hW0 hB
  obtain ⟨Q, hQ⟩ : ∃ q, q = MQ below (tf_Qi g M_X10_row T (fun z _ H => (-2147483648) ≤ z ∧ z ≤ 2147483647 ∧ (∃ (t1 u1 : Int) (r1 : Int → Int), tf_s H a0 (g.1.2 10 8) = some (.int (Int32.ofInt t1)) ∧ tf_s H a0 (g.1.2 10 6) = some (.int (Int32.ofInt u1)) ∧ tf_rw H b0 = r1 ∧ (0 ≤ t1 ∧ t1 ≤ 400) ∧ ((-2147483648) ≤ u1 ∧ u1 ≤ 2147483647) ∧ ((t0 = 0 ∧ t1 = 0 ∧ u1 = u0) ∨ (t0 ≠ 0 ∧ t1 = 0 ∧ ((80 ≤ t0 ∧ u1 = t0 - 80) ∨ (t0 < 80 ∧ u1 = t0 % 2)))) ∧ (tf_RM t0 z tp r0 r1)))) args s 0 0 (fun q => tf_B g ≤ q) := ⟨_, rfl⟩
  rw [← hQ]
  obtain ⟨R, hR⟩ : ∃ q, q = (headSpec (cd_X10_row :: wsL_law) ({ frames := 2, cells := 0, slots := 0, locals := 46 })).room := ⟨_, rfl⟩
  rw [← hR]
  have hR1 : 2 ≤ R.frames := by rw [hR]; exact Nat.le_refl _
  have hR2 : 46 ≤ R.locals := by rw [hR]; exact Nat.le_refl _
  have hR3 : 0 ≤ R.cells := by rw [hR]; exact Nat.le_refl _
  have hR4 : 0 ≤ R.slots := by rw [hR]; exact Nat.le_refl _
  have hin := (name_of_methodNamed B.named B.method).1
  clear hR B
  have hror0 : tf_RO r0 := he1 ▸ tf_ROof hW hb0
  have j_52 : ∀ (n_52 : Nat), ∀ (x2_52 : Int), 0 ≤ x2_52 ∧ x2_52 ≤ 80 → ∀ (x3_52 : Int), 0 ≤ x3_52 ∧ x3_52 ≤ 80 → ∀ (rROW_52 : Int → Int), (tf_RWm r0 tp (x3_52 / 2) rROW_52) → ∀ (f8_52 : Int), 0 ≤ f8_52 ∧ f8_52 ≤ 0 → ∀ (f6_52 : Int), (-79) ≤ f6_52 ∧ f6_52 ≤ 400 → ((f6_52 = t0 - 80 ∧ 80 < t0) ∨ (f6_52 = t0 % 2 ∧ t0 ≤ 80)) → (t0 ≠ 0) → ((x2_52 = 80 ∧ 80 < t0) ∨ (x2_52 = t0 - t0 % 2 ∧ t0 ≤ 80)) → (x3_52 % 2 = 0) → (x3_52 ≤ x2_52) → (80 - x3_52 + 1 ≤ (n_52 : Int)) → ∀ (H : Heap) (locs : List Loc), tf_n tf_kt g M_X10_row T s.heap T H locs → tf_s H a0 (g.1.2 10 3) = some (.ref b0) → tf_rw H b0 = rROW_52 → tf_s H a0 (g.1.2 10 7) = some (.ref tm) → tf_rw H tm = tp → tf_s H a0 (g.1.2 10 8) = some (.int (Int32.ofInt f8_52)) → tf_s H a0 (g.1.2 10 6) = some (.int (Int32.ofInt f6_52)) → ∀ (ls : Array Slot), lv_has ls 5 [(0, .ref a0), (2, .int (Int32.ofInt x2_52)), (3, .int (Int32.ofInt x3_52))] → W p l e R s m args below meth c H locs 0 0 Q (F0 m 52 ls []) := by
    intro n_52
    induction n_52 with
    | zero =>
      intro x2_52 hx2_52 x3_52 hx3_52 rROW_52 hRROW_52 f8_52 hf8_52 f6_52 hf6_52 hi0_52 hi1_52 hi2_52 hi3_52 hi4_52 hm_52
      exfalso; omega
    | succ n_52 ih_52 =>
      intro x2_52 hx2_52 x3_52 hx3_52 rROW_52 hRROW_52 f8_52 hf8_52 f6_52 hf6_52 hi0_52 hi1_52 hi2_52 hi3_52 hi4_52 hm_52 H locs hW hs3_52 hcROW_52 hs7_52 hcTPM_52 hs8_52 hs6_52 ls hl
      have j_105 : 0 ≤ x2_52 ∧ x2_52 ≤ 80 → 0 ≤ x3_52 ∧ x3_52 ≤ 78 → ∀ (y1_105 : Int), 341 ≤ y1_105 ∧ y1_105 ≤ 380 → ∀ (y2_105 : Int), 0 ≤ y2_105 ∧ y2_105 ≤ 999 → ∀ (rROW_105 : Int → Int), (tf_RWm r0 tp (x3_52 / 2) rROW_105) → ∀ (f8_105 : Int), 0 ≤ f8_105 ∧ f8_105 ≤ 0 → ∀ (f6_105 : Int), (-79) ≤ f6_105 ∧ f6_105 ≤ 400 → ((f6_105 = t0 - 80 ∧ 80 < t0) ∨ (f6_105 = t0 % 2 ∧ t0 ≤ 80)) → (y1_105 = 341 + x3_52 / 2) → (y2_105 = tf_hv tp (x3_52 / 2)) → (x3_52 < x2_52) → ∀ (H : Heap) (locs : List Loc), tf_n tf_kt g M_X10_row T s.heap T H locs → tf_s H a0 (g.1.2 10 3) = some (.ref b0) → tf_rw H b0 = rROW_105 → tf_s H a0 (g.1.2 10 7) = some (.ref tm) → tf_rw H tm = tp → tf_s H a0 (g.1.2 10 8) = some (.int (Int32.ofInt f8_105)) → tf_s H a0 (g.1.2 10 6) = some (.int (Int32.ofInt f6_105)) → ∀ (ls : Array Slot), lv_has ls 5 [(0, .ref a0), (2, .int (Int32.ofInt x2_52)), (3, .int (Int32.ofInt x3_52))] → W p l e R s m args below meth c H locs 0 0 Q (F0 m 105 ls [.int (Int32.ofInt y2_105), .int (Int32.ofInt y1_105), .ref b0]) := by
        intro hx2_105 hx3_105 y1_105 hy1_105 y2_105 hy2_105 rROW_105 hRROW_105 f8_105 hf8_105 f6_105 hf6_105 hi0_105 hi1_105 hi2_105 hi3_105 H locs hW hs3_105 hcROW_105 hs7_105 hcTPM_105 hs8_105 hs6_105 ls hl
        refine tf_rowst hx hb hK hW hb0 rfl (by omega) (by omega) (by decide) ⟨by omega, by omega⟩ (tf_RO_any (tf_ROof hW hb0) (by omega)) dX10_row_105 (fun H1 locs1 hW hu1 hq1 => ?_)
        have hs2 := tf_keepQ hs3_105 (hq1 _ (tf_ne ha0 hb0 (by decide)))
        have hs3 := tf_keepQ hs7_105 (hq1 _ (tf_ne ha0 hb0 (by decide)))
        have hs4 := tf_keepCQ hcTPM_105 (hq1 _ (tf_ne htm hb0 (by decide)))
        have hs5 := tf_keepQ hs8_105 (hq1 _ (tf_ne ha0 hb0 (by decide)))
        have hs6 := tf_keepQ hs6_105 (hq1 _ (tf_ne ha0 hb0 (by decide)))
        have hu1 := hu1.trans (congrArg (fun w => tf_up w (y1_105) (y2_105)) hcROW_105)
        refine lv_iinc (v := Int32.ofInt ((x3_52 + 2))) (lv' := [(3, .int (Int32.ofInt ((x3_52 + 2)))), (0, .ref a0), (2, .int (Int32.ofInt x2_52))]) hx hb dX10_row_106 hl (k := 2) rfl (Int32.ofInt_add _ _).symm (by decide) rfl (fun ls hl => ?_)
        refine lv_goto (tgt := 52) hx hb dX10_row_109 (by decide) ?_
        exact ih_52 (x2_52) ⟨by omega, by omega⟩ ((x3_52 + 2)) ⟨by omega, by omega⟩ (tf_up rROW_105 (y1_105) (y2_105)) (by first | exact tf_RWm_0 | exact tf_RWm_st hRROW_105 (by omega) (by omega) (by omega) hi2_105) (f8_105) ⟨by omega, by omega⟩ (f6_105) ⟨by omega, by omega⟩ (by first | omega | assumption) (by first | omega | assumption) (by first | omega | assumption) (by first | omega | assumption) (by first | omega | assumption) (by omega) _ _ hW hs2 hu1 hs3 hs4 hs5 hs6 _ (lv_sub hl [1, 2, 0] rfl)
      refine lv_iload_n hx hb dX10_row_52 rfl (lv_at hl 2 rfl) ?_
      refine lv_iload_n hx hb dX10_row_53 rfl (lv_at hl 1 rfl) ?_
      refine tf_icmp_ge (tgt := 112) hx hb ⟨by omega, by omega⟩ ⟨by omega, by omega⟩ dX10_row_54 (by decide) (fun h7 => ?_) (fun h7 => ?_)
      · refine lv_aload_n hx hb dX10_row_112 rfl (lv_at hl 0 rfl) ?_
        refine lv_aload_n hx hb dX10_row_113 rfl (lv_at hl 0 rfl) ?_
        refine tf_calli (va_runV (As := []) (rest := [.ref a0]) ⟨hx, hb, hml, hown, hts⟩ (c_X10_allHours l g T a0 ha0 b0 hb0 rROW_52) (cwV 0 hts gv_X10_189 rfl rfl rfl hd_X10_allHours ⟨Nat.le_trans (by decide) hR1, Nat.le_trans (by decide) hR2⟩) (tf_preV hk hW ha0 (ci := 10) rfl rfl ⟨hs3_52, hcROW_52⟩) rfl rfl hl.1 rfl (lv_room (Nat.le_of_ble_eq_true rfl)) dX10_row_114 ⟨Nat.zero_le _, Nat.zero_le _⟩) hW (by decide) (fun zA HA locsA hW hFA hpA => ?_)
        have hs8 := tf_keepF hFA ha0 rfl rfl (by decide) hs3_52
        have hs9 := tf_keepC hFA hb0 rfl (by decide) hcROW_52
        have hs10 := tf_keepF hFA ha0 rfl rfl (by decide) hs7_52
        have hs11 := tf_keepC hFA htm rfl (by decide) hcTPM_52
        have hs12 := tf_keepF hFA ha0 rfl rfl (by decide) hs8_52
        have hs13 := tf_keepF hFA ha0 rfl rfl (by decide) hs6_52
        obtain ⟨hpA_0, hpA_1, hpA_2, hpA_3⟩ := hpA
        refine tf_calli (va_runV (As := [.int (Int32.ofInt zA)]) (rest := []) ⟨hx, hb, hml, hown, hts⟩ (c_X10_tell l g T a0 ha0 (zA) ⟨by omega, by omega⟩) (cwV 1 hts gv_X10_117 rfl rfl rfl hd_X10_tell ⟨Nat.le_trans (by decide) hR1, Nat.le_trans (by decide) hR2⟩) (tf_preV hk hW ha0 (ci := 10) rfl rfl trivial) rfl rfl hl.1 rfl (lv_room (Nat.le_of_ble_eq_true rfl)) dX10_row_117 ⟨Nat.zero_le _, Nat.zero_le _⟩) hW (by decide) (fun z14 H14 locs14 hW hF14 hp14 => ?_)
        have hs15 := tf_keepF hF14 ha0 rfl rfl (by decide) hs8
        have hs16 := tf_keepC hF14 hb0 rfl (by decide) hs9
        have hs17 := tf_keepF hF14 ha0 rfl rfl (by decide) hs10
        have hs18 := tf_keepC hF14 htm rfl (by decide) hs11
        have hs19 := tf_keepF hF14 ha0 rfl rfl (by decide) hs12
        have hs20 := tf_keepF hF14 ha0 rfl rfl (by decide) hs13
        obtain ⟨hp14_0, hp14_1, hp14_2⟩ := hp14
        exact tf_reti (z := z14) hx hb hr hlocks hQ hW ⟨by omega, by omega, ⟨(f8_52), (f6_52), rROW_52, hs19, hs20, hs16, ⟨by omega, by omega⟩, ⟨by omega, by omega⟩, (by first | omega | assumption), (Or.inr ⟨by omega, by omega, (by have e : x3_52 / 2 = tf_td t0 := tf_td_eq (by omega); rw [← e]; exact hRROW_52)⟩)⟩⟩ dX10_row_120
      · refine tf_sipush hx hb dX10_row_57 (by decide) ?_
        refine lv_aload_n hx hb dX10_row_60 rfl (lv_at hl 0 rfl) ?_
        refine tf_get hx hb hts inlX10 hown hK (ci := 10) rfl hW ha0 rfl 7 rfl (by decide) (hts _ fl_X10_23) dX10_row_61 (fun v21 hv21 hsv21 => ?_)
        obtain rfl : v21 = .ref tm := Option.some.inj (hsv21.symm.trans hs7_52)
        refine lv_iload_n hx hb dX10_row_64 rfl (lv_at hl 2 rfl) ?_
        refine tf_iald (t0 := 0) hx hb hK hW htm rfl rfl (by omega) (by omega) dX10_row_65 (fun v22 hv22 hsv22 => ?_)
        obtain ⟨z23, rfl, hz23⟩ := tf_v0 hv22
        have er24 : tp x3_52 = z23 := hcTPM_52 ▸ tf_rw_of (by omega) hsv22 ⟨by omega, by omega⟩
        refine tf_imul hx hb dX10_row_66 ?_
        refine lv_aload_n hx hb dX10_row_67 rfl (lv_at hl 0 rfl) ?_
        refine tf_get hx hb hts inlX10 hown hK (ci := 10) rfl hW ha0 rfl 7 rfl (by decide) (hts _ fl_X10_23) dX10_row_68 (fun v25 hv25 hsv25 => ?_)
        obtain rfl : v25 = .ref tm := Option.some.inj (hsv25.symm.trans hs7_52)
        refine lv_iload_n hx hb dX10_row_71 rfl (lv_at hl 2 rfl) ?_
        refine tf_iconst hx hb dX10_row_72 ?_
        refine tf_iadd hx hb dX10_row_73 ?_
        refine tf_iald (t0 := 0) hx hb hK hW htm rfl rfl (by omega) (by omega) dX10_row_74 (fun v26 hv26 hsv26 => ?_)
        obtain ⟨z27, rfl, hz27⟩ := tf_v0 hv26
        have er28 : tp (x3_52 + 1) = z27 := hcTPM_52 ▸ tf_rw_of (by omega) hsv26 ⟨by omega, by omega⟩
        refine tf_iadd hx hb dX10_row_75 ?_
        refine lv_istore (lv' := [(4, .int (Int32.ofInt (((256 * z23) + z27)))), (0, .ref a0), (2, .int (Int32.ofInt x2_52)), (3, .int (Int32.ofInt x3_52))]) hx hb dX10_row_76 hl (by decide) rfl (fun ls hl => ?_)
        refine lv_aload_n hx hb dX10_row_78 rfl (lv_at hl 1 rfl) ?_
        refine tf_get hx hb hts inlX10 hown hK (ci := 10) rfl hW ha0 rfl 3 rfl (by decide) (hts _ fl_X10_13) dX10_row_79 (fun v29 hv29 hsv29 => ?_)
        obtain rfl : v29 = .ref b0 := Option.some.inj (hsv29.symm.trans hs3_52)
        refine tf_sipush hx hb dX10_row_82 (by decide) ?_
        refine lv_iload_n hx hb dX10_row_85 rfl (lv_at hl 3 rfl) ?_
        refine tf_iconst hx hb dX10_row_86 ?_
        refine tf_idiv hx hb ⟨by omega, by omega⟩ (by omega) ⟨by decide, by decide⟩ (by decide) dX10_row_87 ?_
        refine tf_name (fun z30 ez30 => ?_)
        refine tf_iadd hx hb dX10_row_88 ?_
        refine lv_iload hx hb dX10_row_89 (lv_at hl 0 rfl) ?_
        refine tf_sipush hx hb dX10_row_91 (by decide) ?_
        refine tf_icmp_le (tgt := 103) hx hb ⟨by omega, by omega⟩ ⟨by decide, by decide⟩ dX10_row_94 (by decide) (fun h31 => ?_) (fun h31 => ?_)
        · refine lv_iload hx hb dX10_row_103 (lv_at hl 0 rfl) ?_
          exact j_105 ⟨by omega, by omega⟩ ⟨by omega, by omega⟩ ((341 + z30)) ⟨by omega, by omega⟩ (((256 * z23) + z27)) ⟨by omega, by omega⟩ rROW_52 (by exact hRROW_52) (f8_52) ⟨by omega, by omega⟩ (f6_52) ⟨by omega, by omega⟩ (by first | omega | assumption) (by first | omega | assumption) (tf_hv_of (i := x3_52 / 2) ((congrArg tp (show 2 * (x3_52 / 2) = x3_52 by omega)).trans er24) ((congrArg tp (show 2 * (x3_52 / 2) + 1 = x3_52 + 1 by omega)).trans er28) (by omega)) (by first | omega | assumption) _ _ hW hs3_52 hcROW_52 hs7_52 hcTPM_52 hs8_52 hs6_52 _ (lv_sub hl [1, 2, 3] rfl)
        · refine tf_sipush hx hb dX10_row_97 (by decide) ?_
          refine lv_goto (tgt := 105) hx hb dX10_row_100 (by decide) ?_
          exact j_105 ⟨by omega, by omega⟩ ⟨by omega, by omega⟩ ((341 + z30)) ⟨by omega, by omega⟩ (999) ⟨by omega, by omega⟩ rROW_52 (by exact hRROW_52) (f8_52) ⟨by omega, by omega⟩ (f6_52) ⟨by omega, by omega⟩ (by first | omega | assumption) (by first | omega | assumption) (tf_hv_of (i := x3_52 / 2) ((congrArg tp (show 2 * (x3_52 / 2) = x3_52 by omega)).trans er24) ((congrArg tp (show 2 * (x3_52 / 2) + 1 = x3_52 + 1 by omega)).trans er28) (by omega)) (by first | omega | assumption) _ _ hW hs3_52 hcROW_52 hs7_52 hcTPM_52 hs8_52 hs6_52 _ (lv_sub hl [1, 2, 3] rfl)
  have j_42 : 1 ≤ t0 ∧ t0 ≤ 400 → ∀ (y0_42 : Int), 0 ≤ y0_42 ∧ y0_42 ≤ 80 → ∀ (f8_42 : Int), 0 ≤ f8_42 ∧ f8_42 ≤ 0 → ((y0_42 = 80 ∧ 80 < t0) ∨ (y0_42 = t0 - t0 % 2 ∧ t0 ≤ 80)) → (t0 = t0) → (t0 ≠ 0) → ∀ (H : Heap) (locs : List Loc), tf_n tf_kt g M_X10_row T s.heap T H locs → tf_s H a0 (g.1.2 10 3) = some (.ref b0) → tf_rw H b0 = r0 → tf_s H a0 (g.1.2 10 7) = some (.ref tm) → tf_rw H tm = tp → tf_s H a0 (g.1.2 10 8) = some (.int (Int32.ofInt f8_42)) → ∀ (ls : Array Slot), lv_has ls 5 [(0, .ref a0), (1, .int (Int32.ofInt t0))] → W p l e R s m args below meth c H locs 0 0 Q (F0 m 42 ls [.int (Int32.ofInt y0_42)]) := by
    intro hx1_42 y0_42 hy0_42 f8_42 hf8_42 hi0_42 hi1_42 hi2_42 H locs hW hs3_42 hcROW_42 hs7_42 hcTPM_42 hs8_42 ls hl
    refine lv_istore_n (lv' := [(2, .int (Int32.ofInt y0_42)), (0, .ref a0), (1, .int (Int32.ofInt t0))]) hx hb dX10_row_42 rfl hl (by decide) rfl (fun ls hl => ?_)
    refine lv_aload_n hx hb dX10_row_43 rfl (lv_at hl 1 rfl) ?_
    refine lv_iload_n hx hb dX10_row_44 rfl (lv_at hl 2 rfl) ?_
    refine lv_iload_n hx hb dX10_row_45 rfl (lv_at hl 0 rfl) ?_
    refine tf_isub hx hb dX10_row_46 ?_
    refine tf_put hx hb hts inlX10 tyX10 tyX10_ok nmX10 hown hK (ci := 10) rfl hW ha0 rfl rfl 6 rfl (by decide) (by decide) (hts _ fl_X10_186) rfl (tf_u0 (by omega) (by omega)) rfl rfl dX10_row_47 (fun H32 locs32 hW hs32 ht32 hq32 => ?_)
    have hs33 := (ht32 3 (by decide) (by decide)).trans hs3_42
    have hs34 := tf_keepCQ hcROW_42 (hq32 _ (tf_ne hb0 ha0 (by decide)))
    have hs35 := (ht32 7 (by decide) (by decide)).trans hs7_42
    have hs36 := tf_keepCQ hcTPM_42 (hq32 _ (tf_ne htm ha0 (by decide)))
    have hs37 := (ht32 8 (by decide) (by decide)).trans hs8_42
    refine tf_iconst hx hb dX10_row_50 ?_
    refine lv_istore_n (lv' := [(3, .int (Int32.ofInt 0)), (2, .int (Int32.ofInt y0_42)), (0, .ref a0), (1, .int (Int32.ofInt t0))]) hx hb dX10_row_51 rfl hl (by decide) rfl (fun ls hl => ?_)
    exact j_52 ((80 - 0 + 1 : Int)).toNat (y0_42) ⟨by omega, by omega⟩ (0) ⟨by omega, by omega⟩ r0 (by first | exact tf_RWm_0 | exact tf_RWm_st hRROW_105 (by omega) (by omega) (by omega) hi2_105) (f8_42) ⟨by omega, by omega⟩ ((t0 - y0_42)) ⟨by omega, by omega⟩ (by first | omega | assumption) (by first | omega | assumption) (by first | omega | assumption) (by first | omega | assumption) (by first | omega | assumption) (by omega) _ _ hW hs33 hs34 hs35 hs36 hs37 hs32 _ (lv_sub hl [2, 1, 0] rfl)
  refine tf_enter (As := [.ref a0]) hargs (Nat.le_of_ble_eq_true rfl) (fun ls hl => ?_)
  have hl : lv_has ls 5 [(0, .ref a0)] := hl
  refine lv_aload_n hx hb dX10_row_0 rfl (lv_at hl 0 rfl) ?_
  refine tf_iconst hx hb dX10_row_1 ?_
  refine tf_put hx hb hts inlX10 tyX10 tyX10_ok nmX10 hown hK (ci := 10) rfl hW ha0 rfl rfl 0 rfl (by decide) (by decide) (hts _ fl_X10_103) rfl (tf_u0 (by omega) (by omega)) rfl rfl dX10_row_2 (fun H38 locs38 hW hs38 ht38 hq38 => ?_)
  have hs39 := (ht38 3 (by decide) (by decide)).trans he0
  have hs40 := tf_keepCQ he1 (hq38 _ (tf_ne hb0 ha0 (by decide)))
  have hs41 := (ht38 7 (by decide) (by decide)).trans he2
  have hs42 := (ht38 8 (by decide) (by decide)).trans he3
  have hs43 := (ht38 6 (by decide) (by decide)).trans he4
  have hs44 := tf_keepCQ he5 (hq38 _ (tf_ne htm ha0 (by decide)))
  refine lv_aload_n hx hb dX10_row_5 rfl (lv_at hl 0 rfl) ?_
  refine tf_get hx hb hts inlX10 hown hK (ci := 10) rfl hW ha0 rfl 8 rfl (by decide) (hts _ fl_X10_183) dX10_row_6 (fun v45 hv45 hsv45 => ?_)
  obtain rfl : v45 = .int (Int32.ofInt t0) := Option.some.inj (hsv45.symm.trans hs42)
  refine lv_istore_n (lv' := [(1, .int (Int32.ofInt t0)), (0, .ref a0)]) hx hb dX10_row_9 rfl hl (by decide) rfl (fun ls hl => ?_)
  refine lv_aload_n hx hb dX10_row_10 rfl (lv_at hl 1 rfl) ?_
  refine tf_iconst hx hb dX10_row_11 ?_
  refine tf_put hx hb hts inlX10 tyX10 tyX10_ok nmX10 hown hK (ci := 10) rfl hW ha0 rfl rfl 8 rfl (by decide) (by decide) (hts _ fl_X10_183) rfl (tf_u0 (by omega) (by omega)) rfl rfl dX10_row_12 (fun H46 locs46 hW hs46 ht46 hq46 => ?_)
  have hs47 := (ht46 3 (by decide) (by decide)).trans hs39
  have hs48 := tf_keepCQ hs40 (hq46 _ (tf_ne hb0 ha0 (by decide)))
  have hs49 := (ht46 7 (by decide) (by decide)).trans hs41
  have hs50 := (ht46 6 (by decide) (by decide)).trans hs43
  have hs51 := tf_keepCQ hs44 (hq46 _ (tf_ne htm ha0 (by decide)))
  refine lv_iload_n hx hb dX10_row_15 rfl (lv_at hl 0 rfl) ?_
  refine tf_if_ne (tgt := 26) hx hb ⟨by omega, by omega⟩ dX10_row_16 (by decide) (fun h52 => ?_) (fun h52 => ?_)
  · refine lv_iload_n hx hb dX10_row_26 rfl (lv_at hl 0 rfl) ?_
    refine tf_bipush hx hb dX10_row_27 (by decide) ?_
    refine tf_icmp_le (tgt := 37) hx hb ⟨by omega, by omega⟩ ⟨by decide, by decide⟩ dX10_row_29 (by decide) (fun h53 => ?_) (fun h53 => ?_)
    · refine lv_iload_n hx hb dX10_row_37 rfl (lv_at hl 0 rfl) ?_
      refine lv_iload_n hx hb dX10_row_38 rfl (lv_at hl 0 rfl) ?_
      refine tf_iconst hx hb dX10_row_39 ?_
      refine tf_irem hx hb ⟨by omega, by omega⟩ (by omega) ⟨by decide, by decide⟩ (by decide) dX10_row_40 ?_
      refine tf_name (fun z54 ez54 => ?_)
      refine tf_isub hx hb dX10_row_41 ?_
      exact j_42 ⟨by omega, by omega⟩ ((t0 - z54)) ⟨by omega, by omega⟩ (0) ⟨by omega, by omega⟩ (by first | omega | assumption) (by first | omega | assumption) (by first | omega | assumption) _ _ hW hs47 hs48 hs49 hs51 hs46 _ (lv_sub hl [1, 0] rfl)
    · refine tf_bipush hx hb dX10_row_32 (by decide) ?_
      refine lv_goto (tgt := 42) hx hb dX10_row_34 (by decide) ?_
      exact j_42 ⟨by omega, by omega⟩ (80) ⟨by omega, by omega⟩ (0) ⟨by omega, by omega⟩ (by first | omega | assumption) (by first | omega | assumption) (by first | omega | assumption) _ _ hW hs47 hs48 hs49 hs51 hs46 _ (lv_sub hl [1, 0] rfl)
  · refine lv_aload_n hx hb dX10_row_19 rfl (lv_at hl 1 rfl) ?_
    refine tf_bipush hx hb dX10_row_20 (by decide) ?_
    refine tf_calli (va_runV (As := [.int (Int32.ofInt ((-6)))]) (rest := []) ⟨hx, hb, hml, hown, hts⟩ (c_X10_tell l g T a0 ha0 ((-6)) ⟨by omega, by omega⟩) (cwV 1 hts gv_X10_117 rfl rfl rfl hd_X10_tell ⟨Nat.le_trans (by decide) hR1, Nat.le_trans (by decide) hR2⟩) (tf_preV hk hW ha0 (ci := 10) rfl rfl trivial) rfl rfl hl.1 rfl (lv_room (Nat.le_of_ble_eq_true rfl)) dX10_row_22 ⟨Nat.zero_le _, Nat.zero_le _⟩) hW (by decide) (fun z55 H55 locs55 hW hF55 hp55 => ?_)
    have hs56 := tf_keepF hF55 ha0 rfl rfl (by decide) hs47
    have hs57 := tf_keepC hF55 hb0 rfl (by decide) hs48
    have hs58 := tf_keepF hF55 ha0 rfl rfl (by decide) hs49
    have hs59 := tf_keepF hF55 ha0 rfl rfl (by decide) hs50
    have hs60 := tf_keepC hF55 htm rfl (by decide) hs51
    have hs61 := tf_keepF hF55 ha0 rfl rfl (by decide) hs46
    obtain ⟨hp55_0, hp55_1, hp55_2⟩ := hp55
    exact tf_reti (z := z55) hx hb hr hlocks hQ hW ⟨by omega, by omega, ⟨(0), (u0), r0, hs61, hs59, hs57, ⟨by omega, by omega⟩, ⟨by omega, by omega⟩, (by first | omega | assumption), (Or.inl ⟨by omega, by omega, rfl⟩)⟩⟩ dX10_row_25

abbrev M_X10_four : List (Nat × Nat) := [(44, 0), (63, 8)]
set_option maxHeartbeats 4000000 in
set_option maxRecDepth 100000 in
theorem c_X10_four (l : Launch) (g : tf_G) (T : tf_T) (a0 : Nat) (ha0 : T a0 = some (63, 0)) (x1 : Int) (hp1 : (-2147483648) ≤ x1 ∧ x1 ≤ 2147483647) (tm : Nat) (htm : T tm = some (44, 400)) (t0 : Int) (ht0 : 0 ≤ t0 ∧ t0 ≤ 396) (tp : Int → Int) : Met l yX10_four (cd_X10_four :: wsL_law) ({ frames := 1, cells := 0, slots := 0, locals := 24 }) (tf_P g T [.ref a0, .int (Int32.ofInt x1)] (fun H => tf_s H a0 (g.1.2 10 7) = some (.ref tm) ∧ tf_s H a0 (g.1.2 10 8) = some (.int (Int32.ofInt t0)) ∧ tf_rw H tm = tp)) (tf_Qv g M_X10_four T (fun _ H => tf_s H a0 (g.1.2 10 8) = some (.int (Int32.ofInt (t0 + 4))) ∧ tf_rw H tm = tf_f4 tp t0 x1)) 0 0 (fun q => tf_B g ≤ q) := by
  refine Met.ofW (cc := cX10_four) (maxL := 3) (ret := none) (by decide) rfl ?_
  intro p e s m args below meth c s₁ B hml hv
  obtain ⟨hargs, hk, hW0, hB, hpre⟩ := hv
  obtain ⟨he0, he1, he2⟩ := hpre
  have hx := B.exec
  have hb := B.bytes
  have hr := B.returns
  have hts : ∀ w ∈ wsL_law, w.before args s = true := fun w h => atoms_spec (ws := cd_X10_four :: wsL_law) B.pre w (List.mem_cons_of_mem _ h)
  have hown : s.vm.findClass RX10 = some m.cls := findClass_of_methodNamed B.named
  have hlocks := B.notSynchronized
  have hK := hk.1
  have hW := tf_n.start (M := M_X10_four) hW0 hB
  obtain ⟨Q, hQ⟩ : ∃ q, q = MQ below (tf_Qv g M_X10_four T (fun _ H => tf_s H a0 (g.1.2 10 8) = some (.int (Int32.ofInt (t0 + 4))) ∧ tf_rw H tm = tf_f4 tp t0 x1)) args s 0 0 (fun q => tf_B g ≤ q) := ⟨_, rfl⟩
  rw [← hQ]
  obtain ⟨R, hR⟩ : ∃ q, q = (headSpec (cd_X10_four :: wsL_law) ({ frames := 1, cells := 0, slots := 0, locals := 24 })).room := ⟨_, rfl⟩
  rw [← hR]
  have hR1 : 1 ≤ R.frames := by rw [hR]; exact Nat.le_refl _
  have hR2 : 24 ≤ R.locals := by rw [hR]; exact Nat.le_refl _
  have hR3 : 0 ≤ R.cells := by rw [hR]; exact Nat.le_refl _
  have hR4 : 0 ≤ R.slots := by rw [hR]; exact Nat.le_refl _
  have hin := (name_of_methodNamed B.named B.method).1
  clear hR B
  refine tf_enter (As := [.ref a0, .int (Int32.ofInt x1)]) hargs (Nat.le_of_ble_eq_true rfl) (fun ls hl => ?_)
  have hl : lv_has ls 3 [(0, .ref a0), (1, .int (Int32.ofInt x1))] := hl
  refine tf_bipush hx hb dX10_four_0 (by decide) ?_
  refine lv_istore_n (lv' := [(2, .int (Int32.ofInt 24)), (0, .ref a0), (1, .int (Int32.ofInt x1))]) hx hb dX10_four_2 rfl hl (by decide) rfl (fun ls hl => ?_)
  refine lv_iload_n hx hb dX10_four_3 rfl (lv_at hl 0 rfl) ?_
  refine tf_if_lt (tgt := 39) hx hb ⟨by decide, by decide⟩ dX10_four_4 (by decide) (fun h1 => ?_) (fun h1 => ?_)
  · exfalso; omega
  · refine lv_aload_n hx hb dX10_four_7 rfl (lv_at hl 1 rfl) ?_
    refine tf_get hx hb hts inlX10 hown hK (ci := 10) rfl hW ha0 rfl 7 rfl (by decide) (hts _ fl_X10_23) dX10_four_8 (fun v2 hv2 hsv2 => ?_)
    obtain rfl : v2 = .ref tm := Option.some.inj (hsv2.symm.trans he0)
    refine lv_aload_n hx hb dX10_four_11 rfl (lv_at hl 1 rfl) ?_
    refine tf_get hx hb hts inlX10 hown hK (ci := 10) rfl hW ha0 rfl 8 rfl (by decide) (hts _ fl_X10_183) dX10_four_12 (fun v3 hv3 hsv3 => ?_)
    obtain rfl : v3 = .int (Int32.ofInt t0) := Option.some.inj (hsv3.symm.trans he1)
    refine lv_iload_n hx hb dX10_four_15 rfl (lv_at hl 2 rfl) ?_
    refine lv_iload_n hx hb dX10_four_16 rfl (lv_at hl 0 rfl) ?_
    refine tf_ishr_e hx hb dX10_four_17 (fun z4 ez4 hz4 => ?_)
    refine tf_sipush hx hb dX10_four_18 (by decide) ?_
    refine tf_iand_bys (x := x1) (k := 24) hx hb (by decide) ez4 dX10_four_21 ?_
    have hby5 := tf_by_r (x1) 24
    refine tf_rwst (t0 := 0) hx hb hK hW htm rfl rfl (by omega) (by omega) (by decide) (tf_u0 (by omega) (by omega)) ⟨by omega, by omega⟩ trivial dX10_four_22 (fun H6 locs6 hW hu6 hq6 => ?_)
    have hs7 := tf_keepQ he0 (hq6 _ (tf_ne ha0 htm (by decide)))
    have hs8 := tf_keepQ he1 (hq6 _ (tf_ne ha0 htm (by decide)))
    have hu6 := hu6.trans (congrArg (fun w => tf_up w (t0) ((tf_by (x1) 24))) he2)
    refine lv_aload_n hx hb dX10_four_23 rfl (lv_at hl 1 rfl) ?_
    refine lv_dup hx hb dX10_four_24 rfl ?_
    refine tf_get hx hb hts inlX10 hown hK (ci := 10) rfl hW ha0 rfl 8 rfl (by decide) (hts _ fl_X10_183) dX10_four_25 (fun v9 hv9 hsv9 => ?_)
    obtain rfl : v9 = .int (Int32.ofInt t0) := Option.some.inj (hsv9.symm.trans hs8)
    refine tf_iconst hx hb dX10_four_28 ?_
    refine tf_iadd hx hb dX10_four_29 ?_
    refine tf_put hx hb hts inlX10 tyX10 tyX10_ok nmX10 hown hK (ci := 10) rfl hW ha0 rfl rfl 8 rfl (by decide) (by decide) (hts _ fl_X10_183) rfl (tf_u0 (by omega) (by omega)) rfl rfl dX10_four_30 (fun H10 locs10 hW hs10 ht10 hq10 => ?_)
    have hs11 := (ht10 7 (by decide) (by decide)).trans hs7
    have hs12 := tf_keepCQ hu6 (hq10 _ (tf_ne htm ha0 (by decide)))
    refine lv_iinc (v := Int32.ofInt ((24 + (-8)))) (lv' := [(2, .int (Int32.ofInt ((24 + (-8))))), (0, .ref a0), (1, .int (Int32.ofInt x1))]) hx hb dX10_four_33 hl (k := 0) rfl (Int32.ofInt_add _ _).symm (by decide) rfl (fun ls hl => ?_)
    refine lv_goto (tgt := 3) hx hb dX10_four_36 (by decide) ?_
    refine lv_iload_n hx hb dX10_four_3 rfl (lv_at hl 0 rfl) ?_
    refine tf_if_lt (tgt := 39) hx hb ⟨by decide, by decide⟩ dX10_four_4 (by decide) (fun h13 => ?_) (fun h13 => ?_)
    · exfalso; omega
    · refine lv_aload_n hx hb dX10_four_7 rfl (lv_at hl 1 rfl) ?_
      refine tf_get hx hb hts inlX10 hown hK (ci := 10) rfl hW ha0 rfl 7 rfl (by decide) (hts _ fl_X10_23) dX10_four_8 (fun v14 hv14 hsv14 => ?_)
      obtain rfl : v14 = .ref tm := Option.some.inj (hsv14.symm.trans hs11)
      refine lv_aload_n hx hb dX10_four_11 rfl (lv_at hl 1 rfl) ?_
      refine tf_get hx hb hts inlX10 hown hK (ci := 10) rfl hW ha0 rfl 8 rfl (by decide) (hts _ fl_X10_183) dX10_four_12 (fun v15 hv15 hsv15 => ?_)
      obtain rfl : v15 = .int (Int32.ofInt ((t0 + 1))) := Option.some.inj (hsv15.symm.trans hs10)
      refine lv_iload_n hx hb dX10_four_15 rfl (lv_at hl 2 rfl) ?_
      refine lv_iload_n hx hb dX10_four_16 rfl (lv_at hl 0 rfl) ?_
      refine tf_ishr_e hx hb dX10_four_17 (fun z16 ez16 hz16 => ?_)
      refine tf_sipush hx hb dX10_four_18 (by decide) ?_
      refine tf_iand_bys (x := x1) (k := 16) hx hb (by decide) ez16 dX10_four_21 ?_
      have hby17 := tf_by_r (x1) 16
      refine tf_rwst (t0 := 0) hx hb hK hW htm rfl rfl (by omega) (by omega) (by decide) (tf_u0 (by omega) (by omega)) ⟨by omega, by omega⟩ trivial dX10_four_22 (fun H18 locs18 hW hu18 hq18 => ?_)
      have hs19 := tf_keepQ hs11 (hq18 _ (tf_ne ha0 htm (by decide)))
      have hs20 := tf_keepQ hs10 (hq18 _ (tf_ne ha0 htm (by decide)))
      have hu18 := hu18.trans (congrArg (fun w => tf_up w ((t0 + 1)) ((tf_by (x1) 16))) hs12)
      refine lv_aload_n hx hb dX10_four_23 rfl (lv_at hl 1 rfl) ?_
      refine lv_dup hx hb dX10_four_24 rfl ?_
      refine tf_get hx hb hts inlX10 hown hK (ci := 10) rfl hW ha0 rfl 8 rfl (by decide) (hts _ fl_X10_183) dX10_four_25 (fun v21 hv21 hsv21 => ?_)
      obtain rfl : v21 = .int (Int32.ofInt ((t0 + 1))) := Option.some.inj (hsv21.symm.trans hs20)
      refine tf_iconst hx hb dX10_four_28 ?_
      refine tf_iadd hx hb dX10_four_29 ?_
      refine tf_put hx hb hts inlX10 tyX10 tyX10_ok nmX10 hown hK (ci := 10) rfl hW ha0 rfl rfl 8 rfl (by decide) (by decide) (hts _ fl_X10_183) rfl (tf_u0 (by omega) (by omega)) rfl rfl dX10_four_30 (fun H22 locs22 hW hs22 ht22 hq22 => ?_)
      have hs23 := (ht22 7 (by decide) (by decide)).trans hs19
      have hs24 := tf_keepCQ hu18 (hq22 _ (tf_ne htm ha0 (by decide)))
      refine lv_iinc (v := Int32.ofInt (((24 + (-8)) + (-8)))) (lv' := [(2, .int (Int32.ofInt (((24 + (-8)) + (-8))))), (0, .ref a0), (1, .int (Int32.ofInt x1))]) hx hb dX10_four_33 hl (k := 0) rfl (Int32.ofInt_add _ _).symm (by decide) rfl (fun ls hl => ?_)
      refine lv_goto (tgt := 3) hx hb dX10_four_36 (by decide) ?_
      refine lv_iload_n hx hb dX10_four_3 rfl (lv_at hl 0 rfl) ?_
      refine tf_if_lt (tgt := 39) hx hb ⟨by decide, by decide⟩ dX10_four_4 (by decide) (fun h25 => ?_) (fun h25 => ?_)
      · exfalso; omega
      · refine lv_aload_n hx hb dX10_four_7 rfl (lv_at hl 1 rfl) ?_
        refine tf_get hx hb hts inlX10 hown hK (ci := 10) rfl hW ha0 rfl 7 rfl (by decide) (hts _ fl_X10_23) dX10_four_8 (fun v26 hv26 hsv26 => ?_)
        obtain rfl : v26 = .ref tm := Option.some.inj (hsv26.symm.trans hs23)
        refine lv_aload_n hx hb dX10_four_11 rfl (lv_at hl 1 rfl) ?_
        refine tf_get hx hb hts inlX10 hown hK (ci := 10) rfl hW ha0 rfl 8 rfl (by decide) (hts _ fl_X10_183) dX10_four_12 (fun v27 hv27 hsv27 => ?_)
        obtain rfl : v27 = .int (Int32.ofInt (((t0 + 1) + 1))) := Option.some.inj (hsv27.symm.trans hs22)
        refine lv_iload_n hx hb dX10_four_15 rfl (lv_at hl 2 rfl) ?_
        refine lv_iload_n hx hb dX10_four_16 rfl (lv_at hl 0 rfl) ?_
        refine tf_ishr_e hx hb dX10_four_17 (fun z28 ez28 hz28 => ?_)
        refine tf_sipush hx hb dX10_four_18 (by decide) ?_
        refine tf_iand_bys (x := x1) (k := 8) hx hb (by decide) ez28 dX10_four_21 ?_
        have hby29 := tf_by_r (x1) 8
        refine tf_rwst (t0 := 0) hx hb hK hW htm rfl rfl (by omega) (by omega) (by decide) (tf_u0 (by omega) (by omega)) ⟨by omega, by omega⟩ trivial dX10_four_22 (fun H30 locs30 hW hu30 hq30 => ?_)
        have hs31 := tf_keepQ hs23 (hq30 _ (tf_ne ha0 htm (by decide)))
        have hs32 := tf_keepQ hs22 (hq30 _ (tf_ne ha0 htm (by decide)))
        have hu30 := hu30.trans (congrArg (fun w => tf_up w (((t0 + 1) + 1)) ((tf_by (x1) 8))) hs24)
        refine lv_aload_n hx hb dX10_four_23 rfl (lv_at hl 1 rfl) ?_
        refine lv_dup hx hb dX10_four_24 rfl ?_
        refine tf_get hx hb hts inlX10 hown hK (ci := 10) rfl hW ha0 rfl 8 rfl (by decide) (hts _ fl_X10_183) dX10_four_25 (fun v33 hv33 hsv33 => ?_)
        obtain rfl : v33 = .int (Int32.ofInt (((t0 + 1) + 1))) := Option.some.inj (hsv33.symm.trans hs32)
        refine tf_iconst hx hb dX10_four_28 ?_
        refine tf_iadd hx hb dX10_four_29 ?_
        refine tf_put hx hb hts inlX10 tyX10 tyX10_ok nmX10 hown hK (ci := 10) rfl hW ha0 rfl rfl 8 rfl (by decide) (by decide) (hts _ fl_X10_183) rfl (tf_u0 (by omega) (by omega)) rfl rfl dX10_four_30 (fun H34 locs34 hW hs34 ht34 hq34 => ?_)
        have hs35 := (ht34 7 (by decide) (by decide)).trans hs31
        have hs36 := tf_keepCQ hu30 (hq34 _ (tf_ne htm ha0 (by decide)))
        refine lv_iinc (v := Int32.ofInt ((((24 + (-8)) + (-8)) + (-8)))) (lv' := [(2, .int (Int32.ofInt ((((24 + (-8)) + (-8)) + (-8))))), (0, .ref a0), (1, .int (Int32.ofInt x1))]) hx hb dX10_four_33 hl (k := 0) rfl (Int32.ofInt_add _ _).symm (by decide) rfl (fun ls hl => ?_)
        refine lv_goto (tgt := 3) hx hb dX10_four_36 (by decide) ?_
        refine lv_iload_n hx hb dX10_four_3 rfl (lv_at hl 0 rfl) ?_
        refine tf_if_lt (tgt := 39) hx hb ⟨by decide, by decide⟩ dX10_four_4 (by decide) (fun h37 => ?_) (fun h37 => ?_)
        · exfalso; omega
        · refine lv_aload_n hx hb dX10_four_7 rfl (lv_at hl 1 rfl) ?_
          refine tf_get hx hb hts inlX10 hown hK (ci := 10) rfl hW ha0 rfl 7 rfl (by decide) (hts _ fl_X10_23) dX10_four_8 (fun v38 hv38 hsv38 => ?_)
          obtain rfl : v38 = .ref tm := Option.some.inj (hsv38.symm.trans hs35)
          refine lv_aload_n hx hb dX10_four_11 rfl (lv_at hl 1 rfl) ?_
          refine tf_get hx hb hts inlX10 hown hK (ci := 10) rfl hW ha0 rfl 8 rfl (by decide) (hts _ fl_X10_183) dX10_four_12 (fun v39 hv39 hsv39 => ?_)
          obtain rfl : v39 = .int (Int32.ofInt ((((t0 + 1) + 1) + 1))) := Option.some.inj (hsv39.symm.trans hs34)
          refine lv_iload_n hx hb dX10_four_15 rfl (lv_at hl 2 rfl) ?_
          refine lv_iload_n hx hb dX10_four_16 rfl (lv_at hl 0 rfl) ?_
          refine tf_ishr_e hx hb dX10_four_17 (fun z40 ez40 hz40 => ?_)
          refine tf_sipush hx hb dX10_four_18 (by decide) ?_
          refine tf_iand_bys (x := x1) (k := 0) hx hb (by decide) ez40 dX10_four_21 ?_
          have hby41 := tf_by_r (x1) 0
          refine tf_rwst (t0 := 0) hx hb hK hW htm rfl rfl (by omega) (by omega) (by decide) (tf_u0 (by omega) (by omega)) ⟨by omega, by omega⟩ trivial dX10_four_22 (fun H42 locs42 hW hu42 hq42 => ?_)
          have hs43 := tf_keepQ hs35 (hq42 _ (tf_ne ha0 htm (by decide)))
          have hs44 := tf_keepQ hs34 (hq42 _ (tf_ne ha0 htm (by decide)))
          have hu42 := hu42.trans (congrArg (fun w => tf_up w ((((t0 + 1) + 1) + 1)) ((tf_by (x1) 0))) hs36)
          refine lv_aload_n hx hb dX10_four_23 rfl (lv_at hl 1 rfl) ?_
          refine lv_dup hx hb dX10_four_24 rfl ?_
          refine tf_get hx hb hts inlX10 hown hK (ci := 10) rfl hW ha0 rfl 8 rfl (by decide) (hts _ fl_X10_183) dX10_four_25 (fun v45 hv45 hsv45 => ?_)
          obtain rfl : v45 = .int (Int32.ofInt ((((t0 + 1) + 1) + 1))) := Option.some.inj (hsv45.symm.trans hs44)
          refine tf_iconst hx hb dX10_four_28 ?_
          refine tf_iadd hx hb dX10_four_29 ?_
          refine tf_put hx hb hts inlX10 tyX10 tyX10_ok nmX10 hown hK (ci := 10) rfl hW ha0 rfl rfl 8 rfl (by decide) (by decide) (hts _ fl_X10_183) rfl (tf_u0 (by omega) (by omega)) rfl rfl dX10_four_30 (fun H46 locs46 hW hs46 ht46 hq46 => ?_)
          have hs47 := (ht46 7 (by decide) (by decide)).trans hs43
          have hs48 := tf_keepCQ hu42 (hq46 _ (tf_ne htm ha0 (by decide)))
          refine lv_iinc (v := Int32.ofInt (((((24 + (-8)) + (-8)) + (-8)) + (-8)))) (lv' := [(2, .int (Int32.ofInt (((((24 + (-8)) + (-8)) + (-8)) + (-8))))), (0, .ref a0), (1, .int (Int32.ofInt x1))]) hx hb dX10_four_33 hl (k := 0) rfl (Int32.ofInt_add _ _).symm (by decide) rfl (fun ls hl => ?_)
          refine lv_goto (tgt := 3) hx hb dX10_four_36 (by decide) ?_
          refine lv_iload_n hx hb dX10_four_3 rfl (lv_at hl 0 rfl) ?_
          refine tf_if_lt (tgt := 39) hx hb ⟨by decide, by decide⟩ dX10_four_4 (by decide) (fun h49 => ?_) (fun h49 => ?_)
          · exact tf_retv hx hb hr hlocks hQ hW ⟨(tf_eqv hs46 (by omega)), (tf_f4_of hs48 (by omega) (by omega) (by omega))⟩ dX10_four_39
          · exfalso; omega

abbrev M_X10_feed : List (Nat × Nat) := [(44, 0), (63, 0), (63, 8)]
set_option maxHeartbeats 4000000 in
set_option maxRecDepth 100000 in
theorem c_X10_feed (l : Launch) (g : tf_G) (T : tf_T) (a0 : Nat) (ha0 : T a0 = some (63, 0)) (x1 : Int) (hp1 : (-2147483648) ≤ x1 ∧ x1 ≤ 2147483647) (x2 : Int) (hp2 : (-2147483648) ≤ x2 ∧ x2 ≤ 2147483647) (x3 : Int) (hp3 : (-2147483648) ≤ x3 ∧ x3 ≤ 2147483647) (x4 : Int) (hp4 : (-2147483648) ≤ x4 ∧ x4 ≤ 2147483647) (x5 : Int) (hp5 : (-2147483648) ≤ x5 ∧ x5 ≤ 2147483647) (tm : Nat) (htm : T tm = some (44, 400)) (t0 : Int) (ht0 : 0 ≤ t0 ∧ t0 ≤ 400) (tp : Int → Int) : Met l yX10_feed (cd_X10_feed :: wsL_law) ({ frames := 2, cells := 0, slots := 0, locals := 46 }) (tf_P g T [.ref a0, .int (Int32.ofInt x1), .int (Int32.ofInt x2), .int (Int32.ofInt x3), .int (Int32.ofInt x4), .int (Int32.ofInt x5)] (fun H => tf_s H a0 (g.1.2 10 7) = some (.ref tm) ∧ tf_s H a0 (g.1.2 10 8) = some (.int (Int32.ofInt t0)) ∧ tf_rw H tm = tp)) (tf_Qi g M_X10_feed T (fun z _ H => (-2147483648) ≤ z ∧ z ≤ 2147483647 ∧ (∃ (t1 : Int) (tp1 : Int → Int), tf_s H a0 (g.1.2 10 8) = some (.int (Int32.ofInt t1)) ∧ tf_rw H tm = tp1 ∧ (0 ≤ t1 ∧ t1 ≤ 400) ∧ ((400 < t0 + 20 ∧ z = -1 ∧ t1 = t0) ∨ (t0 + 20 ≤ 400 ∧ z = t0 + 20 ∧ t1 = t0 + 20)) ∧ (tf_FD t0 tp tp1 x1 x2 x3 x4 x5)))) 0 0 (fun q => tf_B g ≤ q) := by
  refine Met.ofW (cc := cX10_feed) (maxL := 6) (ret := (some .int)) (by decide) rfl ?_
  intro p e s m args below meth c s₁ B hml hv
  obtain ⟨hargs, hk, hW0, hB, hpre⟩ := hv
  obtain ⟨he0, he1, he2⟩ := hpre
  have hx := B.exec
  have hb := B.bytes
  have hr := B.returns
  have hts : ∀ w ∈ wsL_law, w.before args s = true := fun w h => atoms_spec (ws := cd_X10_feed :: wsL_law) B.pre w (List.mem_cons_of_mem _ h)
  have hown : s.vm.findClass RX10 = some m.cls := findClass_of_methodNamed B.named
  have hlocks := B.notSynchronized
  have hK := hk.1
  have hW := tf_n.start (M := M_X10_feed) hW0 hB
  obtain ⟨Q, hQ⟩ : ∃ q, q = MQ below (tf_Qi g M_X10_feed T (fun z _ H => (-2147483648) ≤ z ∧ z ≤ 2147483647 ∧ (∃ (t1 : Int) (tp1 : Int → Int), tf_s H a0 (g.1.2 10 8) = some (.int (Int32.ofInt t1)) ∧ tf_rw H tm = tp1 ∧ (0 ≤ t1 ∧ t1 ≤ 400) ∧ ((400 < t0 + 20 ∧ z = -1 ∧ t1 = t0) ∨ (t0 + 20 ≤ 400 ∧ z = t0 + 20 ∧ t1 = t0 + 20)) ∧ (tf_FD t0 tp tp1 x1 x2 x3 x4 x5)))) args s 0 0 (fun q => tf_B g ≤ q) := ⟨_, rfl⟩
  rw [← hQ]
  obtain ⟨R, hR⟩ : ∃ q, q = (headSpec (cd_X10_feed :: wsL_law) ({ frames := 2, cells := 0, slots := 0, locals := 46 })).room := ⟨_, rfl⟩
  rw [← hR]
  have hR1 : 2 ≤ R.frames := by rw [hR]; exact Nat.le_refl _
  have hR2 : 46 ≤ R.locals := by rw [hR]; exact Nat.le_refl _
  have hR3 : 0 ≤ R.cells := by rw [hR]; exact Nat.le_refl _
  have hR4 : 0 ≤ R.slots := by rw [hR]; exact Nat.le_refl _
  have hin := (name_of_methodNamed B.named B.method).1
  clear hR B
  refine tf_enter (As := [.ref a0, .int (Int32.ofInt x1), .int (Int32.ofInt x2), .int (Int32.ofInt x3), .int (Int32.ofInt x4), .int (Int32.ofInt x5)]) hargs (Nat.le_of_ble_eq_true rfl) (fun ls hl => ?_)
  have hl : lv_has ls 6 [(0, .ref a0), (1, .int (Int32.ofInt x1)), (2, .int (Int32.ofInt x2)), (3, .int (Int32.ofInt x3)), (4, .int (Int32.ofInt x4)), (5, .int (Int32.ofInt x5))] := hl
  refine lv_aload_n hx hb dX10_feed_0 rfl (lv_at hl 0 rfl) ?_
  refine tf_iconst hx hb dX10_feed_1 ?_
  refine tf_put hx hb hts inlX10 tyX10 tyX10_ok nmX10 hown hK (ci := 10) rfl hW ha0 rfl rfl 0 rfl (by decide) (by decide) (hts _ fl_X10_103) rfl (tf_u0 (by omega) (by omega)) rfl rfl dX10_feed_2 (fun H1 locs1 hW hs1 ht1 hq1 => ?_)
  have hs2 := (ht1 7 (by decide) (by decide)).trans he0
  have hs3 := (ht1 8 (by decide) (by decide)).trans he1
  have hs4 := tf_keepCQ he2 (hq1 _ (tf_ne htm ha0 (by decide)))
  refine lv_aload_n hx hb dX10_feed_5 rfl (lv_at hl 0 rfl) ?_
  refine tf_get hx hb hts inlX10 hown hK (ci := 10) rfl hW ha0 rfl 8 rfl (by decide) (hts _ fl_X10_183) dX10_feed_6 (fun v5 hv5 hsv5 => ?_)
  obtain rfl : v5 = .int (Int32.ofInt t0) := Option.some.inj (hsv5.symm.trans hs3)
  refine tf_bipush hx hb dX10_feed_9 (by decide) ?_
  refine tf_iadd hx hb dX10_feed_11 ?_
  refine tf_sipush hx hb dX10_feed_12 (by decide) ?_
  refine tf_icmp_le (tgt := 20) hx hb ⟨by omega, by omega⟩ ⟨by decide, by decide⟩ dX10_feed_15 (by decide) (fun h6 => ?_) (fun h6 => ?_)
  · refine lv_aload_n hx hb dX10_feed_20 rfl (lv_at hl 0 rfl) ?_
    refine lv_iload_n hx hb dX10_feed_21 rfl (lv_at hl 1 rfl) ?_
    refine tf_callv (va_runV (As := [.int (Int32.ofInt x1)]) (rest := []) ⟨hx, hb, hml, hown, hts⟩ (c_X10_four l g T a0 ha0 (x1) ⟨by omega, by omega⟩ tm htm (t0) ⟨by omega, by omega⟩ tp) (cwV 1 hts gv_X10_193 rfl rfl rfl hd_X10_four ⟨Nat.le_trans (by decide) hR1, Nat.le_trans (by decide) hR2⟩) (tf_preV hk hW ha0 (ci := 10) rfl rfl ⟨hs2, hs3, hs4⟩) rfl rfl hl.1 rfl (lv_room (Nat.le_of_ble_eq_true rfl)) dX10_feed_22 ⟨Nat.zero_le _, Nat.zero_le _⟩) hW (by decide) (fun H7 locs7 hW hF7 hp7 => ?_)
    have hs8 := tf_keepF hF7 ha0 rfl rfl (by decide) hs2
    obtain ⟨ho7_0, ho7_1⟩ := hp7
    refine lv_aload_n hx hb dX10_feed_25 rfl (lv_at hl 0 rfl) ?_
    refine lv_iload_n hx hb dX10_feed_26 rfl (lv_at hl 2 rfl) ?_
    refine tf_callv (va_runV (As := [.int (Int32.ofInt x2)]) (rest := []) ⟨hx, hb, hml, hown, hts⟩ (c_X10_four l g T a0 ha0 (x2) ⟨by omega, by omega⟩ tm htm ((t0 + 4)) ⟨by omega, by omega⟩ (tf_f4 (tp) (t0) (x1))) (cwV 1 hts gv_X10_193 rfl rfl rfl hd_X10_four ⟨Nat.le_trans (by decide) hR1, Nat.le_trans (by decide) hR2⟩) (tf_preV hk hW ha0 (ci := 10) rfl rfl ⟨hs8, ho7_0, ho7_1⟩) rfl rfl hl.1 rfl (lv_room (Nat.le_of_ble_eq_true rfl)) dX10_feed_27 ⟨Nat.zero_le _, Nat.zero_le _⟩) hW (by decide) (fun H9 locs9 hW hF9 hp9 => ?_)
    have hs10 := tf_keepF hF9 ha0 rfl rfl (by decide) hs8
    obtain ⟨ho9_0, ho9_1⟩ := hp9
    refine lv_aload_n hx hb dX10_feed_30 rfl (lv_at hl 0 rfl) ?_
    refine lv_iload_n hx hb dX10_feed_31 rfl (lv_at hl 3 rfl) ?_
    refine tf_callv (va_runV (As := [.int (Int32.ofInt x3)]) (rest := []) ⟨hx, hb, hml, hown, hts⟩ (c_X10_four l g T a0 ha0 (x3) ⟨by omega, by omega⟩ tm htm (((t0 + 4) + 4)) ⟨by omega, by omega⟩ (tf_f4 ((tf_f4 (tp) (t0) (x1))) ((t0 + 4)) (x2))) (cwV 1 hts gv_X10_193 rfl rfl rfl hd_X10_four ⟨Nat.le_trans (by decide) hR1, Nat.le_trans (by decide) hR2⟩) (tf_preV hk hW ha0 (ci := 10) rfl rfl ⟨hs10, ho9_0, ho9_1⟩) rfl rfl hl.1 rfl (lv_room (Nat.le_of_ble_eq_true rfl)) dX10_feed_32 ⟨Nat.zero_le _, Nat.zero_le _⟩) hW (by decide) (fun H11 locs11 hW hF11 hp11 => ?_)
    have hs12 := tf_keepF hF11 ha0 rfl rfl (by decide) hs10
    obtain ⟨ho11_0, ho11_1⟩ := hp11
    refine lv_aload_n hx hb dX10_feed_35 rfl (lv_at hl 0 rfl) ?_
    refine lv_iload hx hb dX10_feed_36 (lv_at hl 4 rfl) ?_
    refine tf_callv (va_runV (As := [.int (Int32.ofInt x4)]) (rest := []) ⟨hx, hb, hml, hown, hts⟩ (c_X10_four l g T a0 ha0 (x4) ⟨by omega, by omega⟩ tm htm ((((t0 + 4) + 4) + 4)) ⟨by omega, by omega⟩ (tf_f4 ((tf_f4 ((tf_f4 (tp) (t0) (x1))) ((t0 + 4)) (x2))) (((t0 + 4) + 4)) (x3))) (cwV 1 hts gv_X10_193 rfl rfl rfl hd_X10_four ⟨Nat.le_trans (by decide) hR1, Nat.le_trans (by decide) hR2⟩) (tf_preV hk hW ha0 (ci := 10) rfl rfl ⟨hs12, ho11_0, ho11_1⟩) rfl rfl hl.1 rfl (lv_room (Nat.le_of_ble_eq_true rfl)) dX10_feed_38 ⟨Nat.zero_le _, Nat.zero_le _⟩) hW (by decide) (fun H13 locs13 hW hF13 hp13 => ?_)
    have hs14 := tf_keepF hF13 ha0 rfl rfl (by decide) hs12
    obtain ⟨ho13_0, ho13_1⟩ := hp13
    refine lv_aload_n hx hb dX10_feed_41 rfl (lv_at hl 0 rfl) ?_
    refine lv_iload hx hb dX10_feed_42 (lv_at hl 5 rfl) ?_
    refine tf_callv (va_runV (As := [.int (Int32.ofInt x5)]) (rest := []) ⟨hx, hb, hml, hown, hts⟩ (c_X10_four l g T a0 ha0 (x5) ⟨by omega, by omega⟩ tm htm (((((t0 + 4) + 4) + 4) + 4)) ⟨by omega, by omega⟩ (tf_f4 ((tf_f4 ((tf_f4 ((tf_f4 (tp) (t0) (x1))) ((t0 + 4)) (x2))) (((t0 + 4) + 4)) (x3))) ((((t0 + 4) + 4) + 4)) (x4))) (cwV 1 hts gv_X10_193 rfl rfl rfl hd_X10_four ⟨Nat.le_trans (by decide) hR1, Nat.le_trans (by decide) hR2⟩) (tf_preV hk hW ha0 (ci := 10) rfl rfl ⟨hs14, ho13_0, ho13_1⟩) rfl rfl hl.1 rfl (lv_room (Nat.le_of_ble_eq_true rfl)) dX10_feed_44 ⟨Nat.zero_le _, Nat.zero_le _⟩) hW (by decide) (fun H15 locs15 hW hF15 hp15 => ?_)
    have hs16 := tf_keepF hF15 ha0 rfl rfl (by decide) hs14
    obtain ⟨ho15_0, ho15_1⟩ := hp15
    refine lv_aload_n hx hb dX10_feed_47 rfl (lv_at hl 0 rfl) ?_
    refine tf_get hx hb hts inlX10 hown hK (ci := 10) rfl hW ha0 rfl 8 rfl (by decide) (hts _ fl_X10_183) dX10_feed_48 (fun v17 hv17 hsv17 => ?_)
    obtain rfl : v17 = .int (Int32.ofInt ((((((t0 + 4) + 4) + 4) + 4) + 4))) := Option.some.inj (hsv17.symm.trans ho15_0)
    exact tf_reti (z := (((((t0 + 4) + 4) + 4) + 4) + 4)) hx hb hr hlocks hQ hW ⟨by omega, by omega, ⟨((((((t0 + 4) + 4) + 4) + 4) + 4)), (tf_f4 ((tf_f4 ((tf_f4 ((tf_f4 ((tf_f4 (tp) (t0) (x1))) ((t0 + 4)) (x2))) (((t0 + 4) + 4)) (x3))) ((((t0 + 4) + 4) + 4)) (x4))) (((((t0 + 4) + 4) + 4) + 4)) (x5)), ho15_0, ho15_1, ⟨by omega, by omega⟩, (by first | omega | assumption), (by first | exact Or.inl ⟨by omega, rfl⟩ | exact Or.inr ⟨by omega, by unfold tf_f20; rw [show t0 + 8 = t0 + 4 + 4 by omega, show t0 + 12 = t0 + 4 + 4 + 4 by omega, show t0 + 16 = t0 + 4 + 4 + 4 + 4 by omega]⟩)⟩⟩ dX10_feed_51
  · refine tf_iconst hx hb dX10_feed_18 ?_
    exact tf_reti (z := (-1)) hx hb hr hlocks hQ hW ⟨by omega, by omega, ⟨(t0), tp, hs3, hs4, ⟨by omega, by omega⟩, (by first | omega | assumption), (by first | exact Or.inl ⟨by omega, rfl⟩ | exact Or.inr ⟨by omega, by unfold tf_f20; rw [show t0 + 8 = t0 + 4 + 4 by omega, show t0 + 12 = t0 + 4 + 4 + 4 by omega, show t0 + 16 = t0 + 4 + 4 + 4 + 4 by omega]⟩)⟩⟩ dX10_feed_19

abbrev M_X10_bits : List (Nat × Nat) := []
set_option maxHeartbeats 4000000 in
set_option maxRecDepth 100000 in
theorem c_X10_bits (l : Launch) (g : tf_G) (T : tf_T) (x0 : Int) (hp0 : (-2147483648) ≤ x0 ∧ x0 ≤ 2147483647) : Met l yX10_bits (cd_X10_bits :: wsL_law) ({ frames := 1, cells := 0, slots := 0, locals := 24 }) (tf_P g T [.int (Int32.ofInt x0)] (fun H => True)) (tf_Qi g M_X10_bits T (fun z _ _ => 0 ≤ z ∧ z ≤ 12)) 0 0 (fun q => tf_B g ≤ q) := by
  refine Met.ofW (cc := cX10_bits) (maxL := 3) (ret := (some .int)) (by decide) rfl ?_
  intro p e s m args below meth c s₁ B hml hv
  obtain ⟨hargs, hk, hW0, hB, hpre⟩ := hv
  have hx := B.exec
  have hb := B.bytes
  have hr := B.returns
  have hts : ∀ w ∈ wsL_law, w.before args s = true := fun w h => atoms_spec (ws := cd_X10_bits :: wsL_law) B.pre w (List.mem_cons_of_mem _ h)
  have hown : s.vm.findClass RX10 = some m.cls := findClass_of_methodNamed B.named
  have hlocks := B.notSynchronized
  have hK := hk.1
  have hW := tf_n.start (M := M_X10_bits) hW0 hB
  obtain ⟨Q, hQ⟩ : ∃ q, q = MQ below (tf_Qi g M_X10_bits T (fun z _ _ => 0 ≤ z ∧ z ≤ 12)) args s 0 0 (fun q => tf_B g ≤ q) := ⟨_, rfl⟩
  rw [← hQ]
  obtain ⟨R, hR⟩ : ∃ q, q = (headSpec (cd_X10_bits :: wsL_law) ({ frames := 1, cells := 0, slots := 0, locals := 24 })).room := ⟨_, rfl⟩
  rw [← hR]
  have hR1 : 1 ≤ R.frames := by rw [hR]; exact Nat.le_refl _
  have hR2 : 24 ≤ R.locals := by rw [hR]; exact Nat.le_refl _
  have hR3 : 0 ≤ R.cells := by rw [hR]; exact Nat.le_refl _
  have hR4 : 0 ≤ R.slots := by rw [hR]; exact Nat.le_refl _
  have hin := (name_of_methodNamed B.named B.method).1
  clear hR B
  have j_4 : ∀ (n_4 : Nat), (-2147483648) ≤ x0 ∧ x0 ≤ 2147483647 → ∀ (x1_4 : Int), 0 ≤ x1_4 ∧ x1_4 ≤ 12 → ∀ (x2_4 : Int), 0 ≤ x2_4 ∧ x2_4 ≤ 12 → (x1_4 ≤ x2_4) → (12 - x2_4 + 1 ≤ (n_4 : Int)) → ∀ (H : Heap) (locs : List Loc), tf_n tf_kt g M_X10_bits T s.heap T H locs → ∀ (ls : Array Slot), lv_has ls 3 [(0, .int (Int32.ofInt x0)), (1, .int (Int32.ofInt x1_4)), (2, .int (Int32.ofInt x2_4))] → W p l e R s m args below meth c H locs 0 0 Q (F0 m 4 ls []) := by
    intro n_4
    induction n_4 with
    | zero =>
      intro hx0_4 x1_4 hx1_4 x2_4 hx2_4 hi0_4 hm_4
      exfalso; omega
    | succ n_4 ih_4 =>
      intro hx0_4 x1_4 hx1_4 x2_4 hx2_4 hi0_4 hm_4 H locs hW  ls hl
      refine lv_iload_n hx hb dX10_bits_4 rfl (lv_at hl 2 rfl) ?_
      refine tf_bipush hx hb dX10_bits_5 (by decide) ?_
      refine tf_icmp_ge (tgt := 24) hx hb ⟨by omega, by omega⟩ ⟨by decide, by decide⟩ dX10_bits_7 (by decide) (fun h1 => ?_) (fun h1 => ?_)
      · refine lv_iload_n hx hb dX10_bits_24 rfl (lv_at hl 1 rfl) ?_
        exact tf_reti (z := x1_4) hx hb hr hlocks hQ hW (show 0 ≤ (x1_4) ∧ (x1_4) ≤ 12 by omega) dX10_bits_25
      · refine lv_iload_n hx hb dX10_bits_10 rfl (lv_at hl 1 rfl) ?_
        refine lv_iload_n hx hb dX10_bits_11 rfl (lv_at hl 0 rfl) ?_
        refine lv_iload_n hx hb dX10_bits_12 rfl (lv_at hl 2 rfl) ?_
        refine tf_ishr_any hx hb dX10_bits_13 (fun z2 hz2 => ?_)
        refine tf_iconst hx hb dX10_bits_14 ?_
        refine tf_iand_mask hx hb 1 (by decide) (by decide +kernel) dX10_bits_15 (fun z3 hz3 kz3 => ?_)
        refine tf_iadd hx hb dX10_bits_16 ?_
        refine lv_istore_n (lv' := [(1, .int (Int32.ofInt ((x1_4 + z3)))), (0, .int (Int32.ofInt x0)), (2, .int (Int32.ofInt x2_4))]) hx hb dX10_bits_17 rfl hl (by decide) rfl (fun ls hl => ?_)
        refine lv_iinc (v := Int32.ofInt ((x2_4 + 1))) (lv' := [(2, .int (Int32.ofInt ((x2_4 + 1)))), (1, .int (Int32.ofInt ((x1_4 + z3)))), (0, .int (Int32.ofInt x0))]) hx hb dX10_bits_18 hl (k := 2) rfl (Int32.ofInt_add _ _).symm (by decide) rfl (fun ls hl => ?_)
        refine lv_goto (tgt := 4) hx hb dX10_bits_21 (by decide) ?_
        exact ih_4 ⟨by omega, by omega⟩ ((x1_4 + z3)) ⟨by omega, by omega⟩ ((x2_4 + 1)) ⟨by omega, by omega⟩ (by omega) (by omega) _ _ hW  _ (lv_sub hl [2, 1, 0] rfl)
  refine tf_enter (As := [.int (Int32.ofInt x0)]) hargs (Nat.le_of_ble_eq_true rfl) (fun ls hl => ?_)
  have hl : lv_has ls 3 [(0, .int (Int32.ofInt x0))] := hl
  refine tf_iconst hx hb dX10_bits_0 ?_
  refine lv_istore_n (lv' := [(1, .int (Int32.ofInt 0)), (0, .int (Int32.ofInt x0))]) hx hb dX10_bits_1 rfl hl (by decide) rfl (fun ls hl => ?_)
  refine tf_iconst hx hb dX10_bits_2 ?_
  refine lv_istore_n (lv' := [(2, .int (Int32.ofInt 0)), (1, .int (Int32.ofInt 0)), (0, .int (Int32.ofInt x0))]) hx hb dX10_bits_3 rfl hl (by decide) rfl (fun ls hl => ?_)
  exact j_4 ((12 - 0 + 1 : Int)).toNat ⟨by omega, by omega⟩ (0) ⟨by omega, by omega⟩ (0) ⟨by omega, by omega⟩ (by omega) (by omega) _ _ hW  _ (lv_sub hl [2, 1, 0] rfl)

abbrev M_X10_orders : List (Nat × Nat) := []
set_option maxHeartbeats 4000000 in
set_option maxRecDepth 100000 in
theorem c_X10_orders (l : Launch) (g : tf_G) (T : tf_T) (x0 : Int) (hp0 : (-13) ≤ x0 ∧ x0 ≤ 12) : Met l yX10_orders (cd_X10_orders :: wsL_law) ({ frames := 1, cells := 0, slots := 0, locals := 24 }) (tf_P g T [.int (Int32.ofInt x0)] (fun H => True)) (tf_Qi g M_X10_orders T (fun z _ _ => 1 ≤ z ∧ z ≤ 479001600)) 0 0 (fun q => tf_B g ≤ q) := by
  refine Met.ofW (cc := cX10_orders) (maxL := 3) (ret := (some .int)) (by decide) rfl ?_
  intro p e s m args below meth c s₁ B hml hv
  obtain ⟨hargs, hk, hW0, hB, hpre⟩ := hv
  have hx := B.exec
  have hb := B.bytes
  have hr := B.returns
  have hts : ∀ w ∈ wsL_law, w.before args s = true := fun w h => atoms_spec (ws := cd_X10_orders :: wsL_law) B.pre w (List.mem_cons_of_mem _ h)
  have hown : s.vm.findClass RX10 = some m.cls := findClass_of_methodNamed B.named
  have hlocks := B.notSynchronized
  have hK := hk.1
  have hW := tf_n.start (M := M_X10_orders) hW0 hB
  obtain ⟨Q, hQ⟩ : ∃ q, q = MQ below (tf_Qi g M_X10_orders T (fun z _ _ => 1 ≤ z ∧ z ≤ 479001600)) args s 0 0 (fun q => tf_B g ≤ q) := ⟨_, rfl⟩
  rw [← hQ]
  obtain ⟨R, hR⟩ : ∃ q, q = (headSpec (cd_X10_orders :: wsL_law) ({ frames := 1, cells := 0, slots := 0, locals := 24 })).room := ⟨_, rfl⟩
  rw [← hR]
  have hR1 : 1 ≤ R.frames := by rw [hR]; exact Nat.le_refl _
  have hR2 : 24 ≤ R.locals := by rw [hR]; exact Nat.le_refl _
  have hR3 : 0 ≤ R.cells := by rw [hR]; exact Nat.le_refl _
  have hR4 : 0 ≤ R.slots := by rw [hR]; exact Nat.le_refl _
  have hin := (name_of_methodNamed B.named B.method).1
  clear hR B
  refine tf_enter (As := [.int (Int32.ofInt x0)]) hargs (Nat.le_of_ble_eq_true rfl) (fun ls hl => ?_)
  have hl : lv_has ls 3 [(0, .int (Int32.ofInt x0))] := hl
  refine tf_iconst hx hb dX10_orders_0 ?_
  refine lv_istore_n (lv' := [(1, .int (Int32.ofInt 1)), (0, .int (Int32.ofInt x0))]) hx hb dX10_orders_1 rfl hl (by decide) rfl (fun ls hl => ?_)
  refine tf_iconst hx hb dX10_orders_2 ?_
  refine lv_istore_n (lv' := [(2, .int (Int32.ofInt 2)), (1, .int (Int32.ofInt 1)), (0, .int (Int32.ofInt x0))]) hx hb dX10_orders_3 rfl hl (by decide) rfl (fun ls hl => ?_)
  refine lv_iload_n hx hb dX10_orders_4 rfl (lv_at hl 0 rfl) ?_
  refine lv_iload_n hx hb dX10_orders_5 rfl (lv_at hl 2 rfl) ?_
  refine tf_icmp_gt (tgt := 19) hx hb ⟨by decide, by decide⟩ ⟨by omega, by omega⟩ dX10_orders_6 (by decide) (fun h1 => ?_) (fun h1 => ?_)
  · refine lv_iload_n hx hb dX10_orders_19 rfl (lv_at hl 1 rfl) ?_
    exact tf_reti (z := 1) hx hb hr hlocks hQ hW (show 1 ≤ (1) ∧ (1) ≤ 479001600 by omega) dX10_orders_20
  · refine lv_iload_n hx hb dX10_orders_9 rfl (lv_at hl 1 rfl) ?_
    refine lv_iload_n hx hb dX10_orders_10 rfl (lv_at hl 0 rfl) ?_
    refine tf_imul hx hb dX10_orders_11 ?_
    refine lv_istore_n (lv' := [(1, .int (Int32.ofInt ((1 * 2)))), (2, .int (Int32.ofInt 2)), (0, .int (Int32.ofInt x0))]) hx hb dX10_orders_12 rfl hl (by decide) rfl (fun ls hl => ?_)
    refine lv_iinc (v := Int32.ofInt ((2 + 1))) (lv' := [(2, .int (Int32.ofInt ((2 + 1)))), (1, .int (Int32.ofInt ((1 * 2)))), (0, .int (Int32.ofInt x0))]) hx hb dX10_orders_13 hl (k := 1) rfl (Int32.ofInt_add _ _).symm (by decide) rfl (fun ls hl => ?_)
    refine lv_goto (tgt := 4) hx hb dX10_orders_16 (by decide) ?_
    refine lv_iload_n hx hb dX10_orders_4 rfl (lv_at hl 0 rfl) ?_
    refine lv_iload_n hx hb dX10_orders_5 rfl (lv_at hl 2 rfl) ?_
    refine tf_icmp_gt (tgt := 19) hx hb ⟨by decide, by decide⟩ ⟨by omega, by omega⟩ dX10_orders_6 (by decide) (fun h2 => ?_) (fun h2 => ?_)
    · refine lv_iload_n hx hb dX10_orders_19 rfl (lv_at hl 1 rfl) ?_
      exact tf_reti (z := (1 * 2)) hx hb hr hlocks hQ hW (show 1 ≤ ((1 * 2)) ∧ ((1 * 2)) ≤ 479001600 by omega) dX10_orders_20
    · refine lv_iload_n hx hb dX10_orders_9 rfl (lv_at hl 1 rfl) ?_
      refine lv_iload_n hx hb dX10_orders_10 rfl (lv_at hl 0 rfl) ?_
      refine tf_imul hx hb dX10_orders_11 ?_
      refine lv_istore_n (lv' := [(1, .int (Int32.ofInt (((1 * 2) * (2 + 1))))), (2, .int (Int32.ofInt ((2 + 1)))), (0, .int (Int32.ofInt x0))]) hx hb dX10_orders_12 rfl hl (by decide) rfl (fun ls hl => ?_)
      refine lv_iinc (v := Int32.ofInt (((2 + 1) + 1))) (lv' := [(2, .int (Int32.ofInt (((2 + 1) + 1)))), (1, .int (Int32.ofInt (((1 * 2) * (2 + 1))))), (0, .int (Int32.ofInt x0))]) hx hb dX10_orders_13 hl (k := 1) rfl (Int32.ofInt_add _ _).symm (by decide) rfl (fun ls hl => ?_)
      refine lv_goto (tgt := 4) hx hb dX10_orders_16 (by decide) ?_
      refine lv_iload_n hx hb dX10_orders_4 rfl (lv_at hl 0 rfl) ?_
      refine lv_iload_n hx hb dX10_orders_5 rfl (lv_at hl 2 rfl) ?_
      refine tf_icmp_gt (tgt := 19) hx hb ⟨by decide, by decide⟩ ⟨by omega, by omega⟩ dX10_orders_6 (by decide) (fun h3 => ?_) (fun h3 => ?_)
      · refine lv_iload_n hx hb dX10_orders_19 rfl (lv_at hl 1 rfl) ?_
        exact tf_reti (z := ((1 * 2) * (2 + 1))) hx hb hr hlocks hQ hW (show 1 ≤ (((1 * 2) * (2 + 1))) ∧ (((1 * 2) * (2 + 1))) ≤ 479001600 by omega) dX10_orders_20
      · refine lv_iload_n hx hb dX10_orders_9 rfl (lv_at hl 1 rfl) ?_
        refine lv_iload_n hx hb dX10_orders_10 rfl (lv_at hl 0 rfl) ?_
        refine tf_imul hx hb dX10_orders_11 ?_
        refine lv_istore_n (lv' := [(1, .int (Int32.ofInt ((((1 * 2) * (2 + 1)) * ((2 + 1) + 1))))), (2, .int (Int32.ofInt (((2 + 1) + 1)))), (0, .int (Int32.ofInt x0))]) hx hb dX10_orders_12 rfl hl (by decide) rfl (fun ls hl => ?_)
        refine lv_iinc (v := Int32.ofInt ((((2 + 1) + 1) + 1))) (lv' := [(2, .int (Int32.ofInt ((((2 + 1) + 1) + 1)))), (1, .int (Int32.ofInt ((((1 * 2) * (2 + 1)) * ((2 + 1) + 1))))), (0, .int (Int32.ofInt x0))]) hx hb dX10_orders_13 hl (k := 1) rfl (Int32.ofInt_add _ _).symm (by decide) rfl (fun ls hl => ?_)
        refine lv_goto (tgt := 4) hx hb dX10_orders_16 (by decide) ?_
        refine lv_iload_n hx hb dX10_orders_4 rfl (lv_at hl 0 rfl) ?_
        refine lv_iload_n hx hb dX10_orders_5 rfl (lv_at hl 2 rfl) ?_
        refine tf_icmp_gt (tgt := 19) hx hb ⟨by decide, by decide⟩ ⟨by omega, by omega⟩ dX10_orders_6 (by decide) (fun h4 => ?_) (fun h4 => ?_)
        · refine lv_iload_n hx hb dX10_orders_19 rfl (lv_at hl 1 rfl) ?_
          exact tf_reti (z := (((1 * 2) * (2 + 1)) * ((2 + 1) + 1))) hx hb hr hlocks hQ hW (show 1 ≤ ((((1 * 2) * (2 + 1)) * ((2 + 1) + 1))) ∧ ((((1 * 2) * (2 + 1)) * ((2 + 1) + 1))) ≤ 479001600 by omega) dX10_orders_20
        · refine lv_iload_n hx hb dX10_orders_9 rfl (lv_at hl 1 rfl) ?_
          refine lv_iload_n hx hb dX10_orders_10 rfl (lv_at hl 0 rfl) ?_
          refine tf_imul hx hb dX10_orders_11 ?_
          refine lv_istore_n (lv' := [(1, .int (Int32.ofInt (((((1 * 2) * (2 + 1)) * ((2 + 1) + 1)) * (((2 + 1) + 1) + 1))))), (2, .int (Int32.ofInt ((((2 + 1) + 1) + 1)))), (0, .int (Int32.ofInt x0))]) hx hb dX10_orders_12 rfl hl (by decide) rfl (fun ls hl => ?_)
          refine lv_iinc (v := Int32.ofInt (((((2 + 1) + 1) + 1) + 1))) (lv' := [(2, .int (Int32.ofInt (((((2 + 1) + 1) + 1) + 1)))), (1, .int (Int32.ofInt (((((1 * 2) * (2 + 1)) * ((2 + 1) + 1)) * (((2 + 1) + 1) + 1))))), (0, .int (Int32.ofInt x0))]) hx hb dX10_orders_13 hl (k := 1) rfl (Int32.ofInt_add _ _).symm (by decide) rfl (fun ls hl => ?_)
          refine lv_goto (tgt := 4) hx hb dX10_orders_16 (by decide) ?_
          refine lv_iload_n hx hb dX10_orders_4 rfl (lv_at hl 0 rfl) ?_
          refine lv_iload_n hx hb dX10_orders_5 rfl (lv_at hl 2 rfl) ?_
          refine tf_icmp_gt (tgt := 19) hx hb ⟨by decide, by decide⟩ ⟨by omega, by omega⟩ dX10_orders_6 (by decide) (fun h5 => ?_) (fun h5 => ?_)
          · refine lv_iload_n hx hb dX10_orders_19 rfl (lv_at hl 1 rfl) ?_
            exact tf_reti (z := ((((1 * 2) * (2 + 1)) * ((2 + 1) + 1)) * (((2 + 1) + 1) + 1))) hx hb hr hlocks hQ hW (show 1 ≤ (((((1 * 2) * (2 + 1)) * ((2 + 1) + 1)) * (((2 + 1) + 1) + 1))) ∧ (((((1 * 2) * (2 + 1)) * ((2 + 1) + 1)) * (((2 + 1) + 1) + 1))) ≤ 479001600 by omega) dX10_orders_20
          · refine lv_iload_n hx hb dX10_orders_9 rfl (lv_at hl 1 rfl) ?_
            refine lv_iload_n hx hb dX10_orders_10 rfl (lv_at hl 0 rfl) ?_
            refine tf_imul hx hb dX10_orders_11 ?_
            refine lv_istore_n (lv' := [(1, .int (Int32.ofInt ((((((1 * 2) * (2 + 1)) * ((2 + 1) + 1)) * (((2 + 1) + 1) + 1)) * ((((2 + 1) + 1) + 1) + 1))))), (2, .int (Int32.ofInt (((((2 + 1) + 1) + 1) + 1)))), (0, .int (Int32.ofInt x0))]) hx hb dX10_orders_12 rfl hl (by decide) rfl (fun ls hl => ?_)
            refine lv_iinc (v := Int32.ofInt ((((((2 + 1) + 1) + 1) + 1) + 1))) (lv' := [(2, .int (Int32.ofInt ((((((2 + 1) + 1) + 1) + 1) + 1)))), (1, .int (Int32.ofInt ((((((1 * 2) * (2 + 1)) * ((2 + 1) + 1)) * (((2 + 1) + 1) + 1)) * ((((2 + 1) + 1) + 1) + 1))))), (0, .int (Int32.ofInt x0))]) hx hb dX10_orders_13 hl (k := 1) rfl (Int32.ofInt_add _ _).symm (by decide) rfl (fun ls hl => ?_)
            refine lv_goto (tgt := 4) hx hb dX10_orders_16 (by decide) ?_
            refine lv_iload_n hx hb dX10_orders_4 rfl (lv_at hl 0 rfl) ?_
            refine lv_iload_n hx hb dX10_orders_5 rfl (lv_at hl 2 rfl) ?_
            refine tf_icmp_gt (tgt := 19) hx hb ⟨by decide, by decide⟩ ⟨by omega, by omega⟩ dX10_orders_6 (by decide) (fun h6 => ?_) (fun h6 => ?_)
            · refine lv_iload_n hx hb dX10_orders_19 rfl (lv_at hl 1 rfl) ?_
              exact tf_reti (z := (((((1 * 2) * (2 + 1)) * ((2 + 1) + 1)) * (((2 + 1) + 1) + 1)) * ((((2 + 1) + 1) + 1) + 1))) hx hb hr hlocks hQ hW (show 1 ≤ ((((((1 * 2) * (2 + 1)) * ((2 + 1) + 1)) * (((2 + 1) + 1) + 1)) * ((((2 + 1) + 1) + 1) + 1))) ∧ ((((((1 * 2) * (2 + 1)) * ((2 + 1) + 1)) * (((2 + 1) + 1) + 1)) * ((((2 + 1) + 1) + 1) + 1))) ≤ 479001600 by omega) dX10_orders_20
            · refine lv_iload_n hx hb dX10_orders_9 rfl (lv_at hl 1 rfl) ?_
              refine lv_iload_n hx hb dX10_orders_10 rfl (lv_at hl 0 rfl) ?_
              refine tf_imul hx hb dX10_orders_11 ?_
              refine lv_istore_n (lv' := [(1, .int (Int32.ofInt (((((((1 * 2) * (2 + 1)) * ((2 + 1) + 1)) * (((2 + 1) + 1) + 1)) * ((((2 + 1) + 1) + 1) + 1)) * (((((2 + 1) + 1) + 1) + 1) + 1))))), (2, .int (Int32.ofInt ((((((2 + 1) + 1) + 1) + 1) + 1)))), (0, .int (Int32.ofInt x0))]) hx hb dX10_orders_12 rfl hl (by decide) rfl (fun ls hl => ?_)
              refine lv_iinc (v := Int32.ofInt (((((((2 + 1) + 1) + 1) + 1) + 1) + 1))) (lv' := [(2, .int (Int32.ofInt (((((((2 + 1) + 1) + 1) + 1) + 1) + 1)))), (1, .int (Int32.ofInt (((((((1 * 2) * (2 + 1)) * ((2 + 1) + 1)) * (((2 + 1) + 1) + 1)) * ((((2 + 1) + 1) + 1) + 1)) * (((((2 + 1) + 1) + 1) + 1) + 1))))), (0, .int (Int32.ofInt x0))]) hx hb dX10_orders_13 hl (k := 1) rfl (Int32.ofInt_add _ _).symm (by decide) rfl (fun ls hl => ?_)
              refine lv_goto (tgt := 4) hx hb dX10_orders_16 (by decide) ?_
              refine lv_iload_n hx hb dX10_orders_4 rfl (lv_at hl 0 rfl) ?_
              refine lv_iload_n hx hb dX10_orders_5 rfl (lv_at hl 2 rfl) ?_
              refine tf_icmp_gt (tgt := 19) hx hb ⟨by decide, by decide⟩ ⟨by omega, by omega⟩ dX10_orders_6 (by decide) (fun h7 => ?_) (fun h7 => ?_)
              · refine lv_iload_n hx hb dX10_orders_19 rfl (lv_at hl 1 rfl) ?_
                exact tf_reti (z := ((((((1 * 2) * (2 + 1)) * ((2 + 1) + 1)) * (((2 + 1) + 1) + 1)) * ((((2 + 1) + 1) + 1) + 1)) * (((((2 + 1) + 1) + 1) + 1) + 1))) hx hb hr hlocks hQ hW (show 1 ≤ (((((((1 * 2) * (2 + 1)) * ((2 + 1) + 1)) * (((2 + 1) + 1) + 1)) * ((((2 + 1) + 1) + 1) + 1)) * (((((2 + 1) + 1) + 1) + 1) + 1))) ∧ (((((((1 * 2) * (2 + 1)) * ((2 + 1) + 1)) * (((2 + 1) + 1) + 1)) * ((((2 + 1) + 1) + 1) + 1)) * (((((2 + 1) + 1) + 1) + 1) + 1))) ≤ 479001600 by omega) dX10_orders_20
              · refine lv_iload_n hx hb dX10_orders_9 rfl (lv_at hl 1 rfl) ?_
                refine lv_iload_n hx hb dX10_orders_10 rfl (lv_at hl 0 rfl) ?_
                refine tf_imul hx hb dX10_orders_11 ?_
                refine lv_istore_n (lv' := [(1, .int (Int32.ofInt ((((((((1 * 2) * (2 + 1)) * ((2 + 1) + 1)) * (((2 + 1) + 1) + 1)) * ((((2 + 1) + 1) + 1) + 1)) * (((((2 + 1) + 1) + 1) + 1) + 1)) * ((((((2 + 1) + 1) + 1) + 1) + 1) + 1))))), (2, .int (Int32.ofInt (((((((2 + 1) + 1) + 1) + 1) + 1) + 1)))), (0, .int (Int32.ofInt x0))]) hx hb dX10_orders_12 rfl hl (by decide) rfl (fun ls hl => ?_)
                refine lv_iinc (v := Int32.ofInt ((((((((2 + 1) + 1) + 1) + 1) + 1) + 1) + 1))) (lv' := [(2, .int (Int32.ofInt ((((((((2 + 1) + 1) + 1) + 1) + 1) + 1) + 1)))), (1, .int (Int32.ofInt ((((((((1 * 2) * (2 + 1)) * ((2 + 1) + 1)) * (((2 + 1) + 1) + 1)) * ((((2 + 1) + 1) + 1) + 1)) * (((((2 + 1) + 1) + 1) + 1) + 1)) * ((((((2 + 1) + 1) + 1) + 1) + 1) + 1))))), (0, .int (Int32.ofInt x0))]) hx hb dX10_orders_13 hl (k := 1) rfl (Int32.ofInt_add _ _).symm (by decide) rfl (fun ls hl => ?_)
                refine lv_goto (tgt := 4) hx hb dX10_orders_16 (by decide) ?_
                refine lv_iload_n hx hb dX10_orders_4 rfl (lv_at hl 0 rfl) ?_
                refine lv_iload_n hx hb dX10_orders_5 rfl (lv_at hl 2 rfl) ?_
                refine tf_icmp_gt (tgt := 19) hx hb ⟨by decide, by decide⟩ ⟨by omega, by omega⟩ dX10_orders_6 (by decide) (fun h8 => ?_) (fun h8 => ?_)
                · refine lv_iload_n hx hb dX10_orders_19 rfl (lv_at hl 1 rfl) ?_
                  exact tf_reti (z := (((((((1 * 2) * (2 + 1)) * ((2 + 1) + 1)) * (((2 + 1) + 1) + 1)) * ((((2 + 1) + 1) + 1) + 1)) * (((((2 + 1) + 1) + 1) + 1) + 1)) * ((((((2 + 1) + 1) + 1) + 1) + 1) + 1))) hx hb hr hlocks hQ hW (show 1 ≤ ((((((((1 * 2) * (2 + 1)) * ((2 + 1) + 1)) * (((2 + 1) + 1) + 1)) * ((((2 + 1) + 1) + 1) + 1)) * (((((2 + 1) + 1) + 1) + 1) + 1)) * ((((((2 + 1) + 1) + 1) + 1) + 1) + 1))) ∧ ((((((((1 * 2) * (2 + 1)) * ((2 + 1) + 1)) * (((2 + 1) + 1) + 1)) * ((((2 + 1) + 1) + 1) + 1)) * (((((2 + 1) + 1) + 1) + 1) + 1)) * ((((((2 + 1) + 1) + 1) + 1) + 1) + 1))) ≤ 479001600 by omega) dX10_orders_20
                · refine lv_iload_n hx hb dX10_orders_9 rfl (lv_at hl 1 rfl) ?_
                  refine lv_iload_n hx hb dX10_orders_10 rfl (lv_at hl 0 rfl) ?_
                  refine tf_imul hx hb dX10_orders_11 ?_
                  refine lv_istore_n (lv' := [(1, .int (Int32.ofInt (((((((((1 * 2) * (2 + 1)) * ((2 + 1) + 1)) * (((2 + 1) + 1) + 1)) * ((((2 + 1) + 1) + 1) + 1)) * (((((2 + 1) + 1) + 1) + 1) + 1)) * ((((((2 + 1) + 1) + 1) + 1) + 1) + 1)) * (((((((2 + 1) + 1) + 1) + 1) + 1) + 1) + 1))))), (2, .int (Int32.ofInt ((((((((2 + 1) + 1) + 1) + 1) + 1) + 1) + 1)))), (0, .int (Int32.ofInt x0))]) hx hb dX10_orders_12 rfl hl (by decide) rfl (fun ls hl => ?_)
                  refine lv_iinc (v := Int32.ofInt (((((((((2 + 1) + 1) + 1) + 1) + 1) + 1) + 1) + 1))) (lv' := [(2, .int (Int32.ofInt (((((((((2 + 1) + 1) + 1) + 1) + 1) + 1) + 1) + 1)))), (1, .int (Int32.ofInt (((((((((1 * 2) * (2 + 1)) * ((2 + 1) + 1)) * (((2 + 1) + 1) + 1)) * ((((2 + 1) + 1) + 1) + 1)) * (((((2 + 1) + 1) + 1) + 1) + 1)) * ((((((2 + 1) + 1) + 1) + 1) + 1) + 1)) * (((((((2 + 1) + 1) + 1) + 1) + 1) + 1) + 1))))), (0, .int (Int32.ofInt x0))]) hx hb dX10_orders_13 hl (k := 1) rfl (Int32.ofInt_add _ _).symm (by decide) rfl (fun ls hl => ?_)
                  refine lv_goto (tgt := 4) hx hb dX10_orders_16 (by decide) ?_
                  refine lv_iload_n hx hb dX10_orders_4 rfl (lv_at hl 0 rfl) ?_
                  refine lv_iload_n hx hb dX10_orders_5 rfl (lv_at hl 2 rfl) ?_
                  refine tf_icmp_gt (tgt := 19) hx hb ⟨by decide, by decide⟩ ⟨by omega, by omega⟩ dX10_orders_6 (by decide) (fun h9 => ?_) (fun h9 => ?_)
                  · refine lv_iload_n hx hb dX10_orders_19 rfl (lv_at hl 1 rfl) ?_
                    exact tf_reti (z := ((((((((1 * 2) * (2 + 1)) * ((2 + 1) + 1)) * (((2 + 1) + 1) + 1)) * ((((2 + 1) + 1) + 1) + 1)) * (((((2 + 1) + 1) + 1) + 1) + 1)) * ((((((2 + 1) + 1) + 1) + 1) + 1) + 1)) * (((((((2 + 1) + 1) + 1) + 1) + 1) + 1) + 1))) hx hb hr hlocks hQ hW (show 1 ≤ (((((((((1 * 2) * (2 + 1)) * ((2 + 1) + 1)) * (((2 + 1) + 1) + 1)) * ((((2 + 1) + 1) + 1) + 1)) * (((((2 + 1) + 1) + 1) + 1) + 1)) * ((((((2 + 1) + 1) + 1) + 1) + 1) + 1)) * (((((((2 + 1) + 1) + 1) + 1) + 1) + 1) + 1))) ∧ (((((((((1 * 2) * (2 + 1)) * ((2 + 1) + 1)) * (((2 + 1) + 1) + 1)) * ((((2 + 1) + 1) + 1) + 1)) * (((((2 + 1) + 1) + 1) + 1) + 1)) * ((((((2 + 1) + 1) + 1) + 1) + 1) + 1)) * (((((((2 + 1) + 1) + 1) + 1) + 1) + 1) + 1))) ≤ 479001600 by omega) dX10_orders_20
                  · refine lv_iload_n hx hb dX10_orders_9 rfl (lv_at hl 1 rfl) ?_
                    refine lv_iload_n hx hb dX10_orders_10 rfl (lv_at hl 0 rfl) ?_
                    refine tf_imul hx hb dX10_orders_11 ?_
                    refine lv_istore_n (lv' := [(1, .int (Int32.ofInt ((((((((((1 * 2) * (2 + 1)) * ((2 + 1) + 1)) * (((2 + 1) + 1) + 1)) * ((((2 + 1) + 1) + 1) + 1)) * (((((2 + 1) + 1) + 1) + 1) + 1)) * ((((((2 + 1) + 1) + 1) + 1) + 1) + 1)) * (((((((2 + 1) + 1) + 1) + 1) + 1) + 1) + 1)) * ((((((((2 + 1) + 1) + 1) + 1) + 1) + 1) + 1) + 1))))), (2, .int (Int32.ofInt (((((((((2 + 1) + 1) + 1) + 1) + 1) + 1) + 1) + 1)))), (0, .int (Int32.ofInt x0))]) hx hb dX10_orders_12 rfl hl (by decide) rfl (fun ls hl => ?_)
                    refine lv_iinc (v := Int32.ofInt ((((((((((2 + 1) + 1) + 1) + 1) + 1) + 1) + 1) + 1) + 1))) (lv' := [(2, .int (Int32.ofInt ((((((((((2 + 1) + 1) + 1) + 1) + 1) + 1) + 1) + 1) + 1)))), (1, .int (Int32.ofInt ((((((((((1 * 2) * (2 + 1)) * ((2 + 1) + 1)) * (((2 + 1) + 1) + 1)) * ((((2 + 1) + 1) + 1) + 1)) * (((((2 + 1) + 1) + 1) + 1) + 1)) * ((((((2 + 1) + 1) + 1) + 1) + 1) + 1)) * (((((((2 + 1) + 1) + 1) + 1) + 1) + 1) + 1)) * ((((((((2 + 1) + 1) + 1) + 1) + 1) + 1) + 1) + 1))))), (0, .int (Int32.ofInt x0))]) hx hb dX10_orders_13 hl (k := 1) rfl (Int32.ofInt_add _ _).symm (by decide) rfl (fun ls hl => ?_)
                    refine lv_goto (tgt := 4) hx hb dX10_orders_16 (by decide) ?_
                    refine lv_iload_n hx hb dX10_orders_4 rfl (lv_at hl 0 rfl) ?_
                    refine lv_iload_n hx hb dX10_orders_5 rfl (lv_at hl 2 rfl) ?_
                    refine tf_icmp_gt (tgt := 19) hx hb ⟨by decide, by decide⟩ ⟨by omega, by omega⟩ dX10_orders_6 (by decide) (fun h10 => ?_) (fun h10 => ?_)
                    · refine lv_iload_n hx hb dX10_orders_19 rfl (lv_at hl 1 rfl) ?_
                      exact tf_reti (z := (((((((((1 * 2) * (2 + 1)) * ((2 + 1) + 1)) * (((2 + 1) + 1) + 1)) * ((((2 + 1) + 1) + 1) + 1)) * (((((2 + 1) + 1) + 1) + 1) + 1)) * ((((((2 + 1) + 1) + 1) + 1) + 1) + 1)) * (((((((2 + 1) + 1) + 1) + 1) + 1) + 1) + 1)) * ((((((((2 + 1) + 1) + 1) + 1) + 1) + 1) + 1) + 1))) hx hb hr hlocks hQ hW (show 1 ≤ ((((((((((1 * 2) * (2 + 1)) * ((2 + 1) + 1)) * (((2 + 1) + 1) + 1)) * ((((2 + 1) + 1) + 1) + 1)) * (((((2 + 1) + 1) + 1) + 1) + 1)) * ((((((2 + 1) + 1) + 1) + 1) + 1) + 1)) * (((((((2 + 1) + 1) + 1) + 1) + 1) + 1) + 1)) * ((((((((2 + 1) + 1) + 1) + 1) + 1) + 1) + 1) + 1))) ∧ ((((((((((1 * 2) * (2 + 1)) * ((2 + 1) + 1)) * (((2 + 1) + 1) + 1)) * ((((2 + 1) + 1) + 1) + 1)) * (((((2 + 1) + 1) + 1) + 1) + 1)) * ((((((2 + 1) + 1) + 1) + 1) + 1) + 1)) * (((((((2 + 1) + 1) + 1) + 1) + 1) + 1) + 1)) * ((((((((2 + 1) + 1) + 1) + 1) + 1) + 1) + 1) + 1))) ≤ 479001600 by omega) dX10_orders_20
                    · refine lv_iload_n hx hb dX10_orders_9 rfl (lv_at hl 1 rfl) ?_
                      refine lv_iload_n hx hb dX10_orders_10 rfl (lv_at hl 0 rfl) ?_
                      refine tf_imul hx hb dX10_orders_11 ?_
                      refine lv_istore_n (lv' := [(1, .int (Int32.ofInt (((((((((((1 * 2) * (2 + 1)) * ((2 + 1) + 1)) * (((2 + 1) + 1) + 1)) * ((((2 + 1) + 1) + 1) + 1)) * (((((2 + 1) + 1) + 1) + 1) + 1)) * ((((((2 + 1) + 1) + 1) + 1) + 1) + 1)) * (((((((2 + 1) + 1) + 1) + 1) + 1) + 1) + 1)) * ((((((((2 + 1) + 1) + 1) + 1) + 1) + 1) + 1) + 1)) * (((((((((2 + 1) + 1) + 1) + 1) + 1) + 1) + 1) + 1) + 1))))), (2, .int (Int32.ofInt ((((((((((2 + 1) + 1) + 1) + 1) + 1) + 1) + 1) + 1) + 1)))), (0, .int (Int32.ofInt x0))]) hx hb dX10_orders_12 rfl hl (by decide) rfl (fun ls hl => ?_)
                      refine lv_iinc (v := Int32.ofInt (((((((((((2 + 1) + 1) + 1) + 1) + 1) + 1) + 1) + 1) + 1) + 1))) (lv' := [(2, .int (Int32.ofInt (((((((((((2 + 1) + 1) + 1) + 1) + 1) + 1) + 1) + 1) + 1) + 1)))), (1, .int (Int32.ofInt (((((((((((1 * 2) * (2 + 1)) * ((2 + 1) + 1)) * (((2 + 1) + 1) + 1)) * ((((2 + 1) + 1) + 1) + 1)) * (((((2 + 1) + 1) + 1) + 1) + 1)) * ((((((2 + 1) + 1) + 1) + 1) + 1) + 1)) * (((((((2 + 1) + 1) + 1) + 1) + 1) + 1) + 1)) * ((((((((2 + 1) + 1) + 1) + 1) + 1) + 1) + 1) + 1)) * (((((((((2 + 1) + 1) + 1) + 1) + 1) + 1) + 1) + 1) + 1))))), (0, .int (Int32.ofInt x0))]) hx hb dX10_orders_13 hl (k := 1) rfl (Int32.ofInt_add _ _).symm (by decide) rfl (fun ls hl => ?_)
                      refine lv_goto (tgt := 4) hx hb dX10_orders_16 (by decide) ?_
                      refine lv_iload_n hx hb dX10_orders_4 rfl (lv_at hl 0 rfl) ?_
                      refine lv_iload_n hx hb dX10_orders_5 rfl (lv_at hl 2 rfl) ?_
                      refine tf_icmp_gt (tgt := 19) hx hb ⟨by decide, by decide⟩ ⟨by omega, by omega⟩ dX10_orders_6 (by decide) (fun h11 => ?_) (fun h11 => ?_)
                      · refine lv_iload_n hx hb dX10_orders_19 rfl (lv_at hl 1 rfl) ?_
                        exact tf_reti (z := ((((((((((1 * 2) * (2 + 1)) * ((2 + 1) + 1)) * (((2 + 1) + 1) + 1)) * ((((2 + 1) + 1) + 1) + 1)) * (((((2 + 1) + 1) + 1) + 1) + 1)) * ((((((2 + 1) + 1) + 1) + 1) + 1) + 1)) * (((((((2 + 1) + 1) + 1) + 1) + 1) + 1) + 1)) * ((((((((2 + 1) + 1) + 1) + 1) + 1) + 1) + 1) + 1)) * (((((((((2 + 1) + 1) + 1) + 1) + 1) + 1) + 1) + 1) + 1))) hx hb hr hlocks hQ hW (show 1 ≤ (((((((((((1 * 2) * (2 + 1)) * ((2 + 1) + 1)) * (((2 + 1) + 1) + 1)) * ((((2 + 1) + 1) + 1) + 1)) * (((((2 + 1) + 1) + 1) + 1) + 1)) * ((((((2 + 1) + 1) + 1) + 1) + 1) + 1)) * (((((((2 + 1) + 1) + 1) + 1) + 1) + 1) + 1)) * ((((((((2 + 1) + 1) + 1) + 1) + 1) + 1) + 1) + 1)) * (((((((((2 + 1) + 1) + 1) + 1) + 1) + 1) + 1) + 1) + 1))) ∧ (((((((((((1 * 2) * (2 + 1)) * ((2 + 1) + 1)) * (((2 + 1) + 1) + 1)) * ((((2 + 1) + 1) + 1) + 1)) * (((((2 + 1) + 1) + 1) + 1) + 1)) * ((((((2 + 1) + 1) + 1) + 1) + 1) + 1)) * (((((((2 + 1) + 1) + 1) + 1) + 1) + 1) + 1)) * ((((((((2 + 1) + 1) + 1) + 1) + 1) + 1) + 1) + 1)) * (((((((((2 + 1) + 1) + 1) + 1) + 1) + 1) + 1) + 1) + 1))) ≤ 479001600 by omega) dX10_orders_20
                      · refine lv_iload_n hx hb dX10_orders_9 rfl (lv_at hl 1 rfl) ?_
                        refine lv_iload_n hx hb dX10_orders_10 rfl (lv_at hl 0 rfl) ?_
                        refine tf_imul hx hb dX10_orders_11 ?_
                        refine lv_istore_n (lv' := [(1, .int (Int32.ofInt ((((((((((((1 * 2) * (2 + 1)) * ((2 + 1) + 1)) * (((2 + 1) + 1) + 1)) * ((((2 + 1) + 1) + 1) + 1)) * (((((2 + 1) + 1) + 1) + 1) + 1)) * ((((((2 + 1) + 1) + 1) + 1) + 1) + 1)) * (((((((2 + 1) + 1) + 1) + 1) + 1) + 1) + 1)) * ((((((((2 + 1) + 1) + 1) + 1) + 1) + 1) + 1) + 1)) * (((((((((2 + 1) + 1) + 1) + 1) + 1) + 1) + 1) + 1) + 1)) * ((((((((((2 + 1) + 1) + 1) + 1) + 1) + 1) + 1) + 1) + 1) + 1))))), (2, .int (Int32.ofInt (((((((((((2 + 1) + 1) + 1) + 1) + 1) + 1) + 1) + 1) + 1) + 1)))), (0, .int (Int32.ofInt x0))]) hx hb dX10_orders_12 rfl hl (by decide) rfl (fun ls hl => ?_)
                        refine lv_iinc (v := Int32.ofInt ((((((((((((2 + 1) + 1) + 1) + 1) + 1) + 1) + 1) + 1) + 1) + 1) + 1))) (lv' := [(2, .int (Int32.ofInt ((((((((((((2 + 1) + 1) + 1) + 1) + 1) + 1) + 1) + 1) + 1) + 1) + 1)))), (1, .int (Int32.ofInt ((((((((((((1 * 2) * (2 + 1)) * ((2 + 1) + 1)) * (((2 + 1) + 1) + 1)) * ((((2 + 1) + 1) + 1) + 1)) * (((((2 + 1) + 1) + 1) + 1) + 1)) * ((((((2 + 1) + 1) + 1) + 1) + 1) + 1)) * (((((((2 + 1) + 1) + 1) + 1) + 1) + 1) + 1)) * ((((((((2 + 1) + 1) + 1) + 1) + 1) + 1) + 1) + 1)) * (((((((((2 + 1) + 1) + 1) + 1) + 1) + 1) + 1) + 1) + 1)) * ((((((((((2 + 1) + 1) + 1) + 1) + 1) + 1) + 1) + 1) + 1) + 1))))), (0, .int (Int32.ofInt x0))]) hx hb dX10_orders_13 hl (k := 1) rfl (Int32.ofInt_add _ _).symm (by decide) rfl (fun ls hl => ?_)
                        refine lv_goto (tgt := 4) hx hb dX10_orders_16 (by decide) ?_
                        refine lv_iload_n hx hb dX10_orders_4 rfl (lv_at hl 0 rfl) ?_
                        refine lv_iload_n hx hb dX10_orders_5 rfl (lv_at hl 2 rfl) ?_
                        refine tf_icmp_gt (tgt := 19) hx hb ⟨by decide, by decide⟩ ⟨by omega, by omega⟩ dX10_orders_6 (by decide) (fun h12 => ?_) (fun h12 => ?_)
                        · refine lv_iload_n hx hb dX10_orders_19 rfl (lv_at hl 1 rfl) ?_
                          exact tf_reti (z := (((((((((((1 * 2) * (2 + 1)) * ((2 + 1) + 1)) * (((2 + 1) + 1) + 1)) * ((((2 + 1) + 1) + 1) + 1)) * (((((2 + 1) + 1) + 1) + 1) + 1)) * ((((((2 + 1) + 1) + 1) + 1) + 1) + 1)) * (((((((2 + 1) + 1) + 1) + 1) + 1) + 1) + 1)) * ((((((((2 + 1) + 1) + 1) + 1) + 1) + 1) + 1) + 1)) * (((((((((2 + 1) + 1) + 1) + 1) + 1) + 1) + 1) + 1) + 1)) * ((((((((((2 + 1) + 1) + 1) + 1) + 1) + 1) + 1) + 1) + 1) + 1))) hx hb hr hlocks hQ hW (show 1 ≤ ((((((((((((1 * 2) * (2 + 1)) * ((2 + 1) + 1)) * (((2 + 1) + 1) + 1)) * ((((2 + 1) + 1) + 1) + 1)) * (((((2 + 1) + 1) + 1) + 1) + 1)) * ((((((2 + 1) + 1) + 1) + 1) + 1) + 1)) * (((((((2 + 1) + 1) + 1) + 1) + 1) + 1) + 1)) * ((((((((2 + 1) + 1) + 1) + 1) + 1) + 1) + 1) + 1)) * (((((((((2 + 1) + 1) + 1) + 1) + 1) + 1) + 1) + 1) + 1)) * ((((((((((2 + 1) + 1) + 1) + 1) + 1) + 1) + 1) + 1) + 1) + 1))) ∧ ((((((((((((1 * 2) * (2 + 1)) * ((2 + 1) + 1)) * (((2 + 1) + 1) + 1)) * ((((2 + 1) + 1) + 1) + 1)) * (((((2 + 1) + 1) + 1) + 1) + 1)) * ((((((2 + 1) + 1) + 1) + 1) + 1) + 1)) * (((((((2 + 1) + 1) + 1) + 1) + 1) + 1) + 1)) * ((((((((2 + 1) + 1) + 1) + 1) + 1) + 1) + 1) + 1)) * (((((((((2 + 1) + 1) + 1) + 1) + 1) + 1) + 1) + 1) + 1)) * ((((((((((2 + 1) + 1) + 1) + 1) + 1) + 1) + 1) + 1) + 1) + 1))) ≤ 479001600 by omega) dX10_orders_20
                        · exfalso; omega

abbrev M_X10_common : List (Nat × Nat) := []
set_option maxHeartbeats 4000000 in
set_option maxRecDepth 100000 in
theorem c_X10_common (l : Launch) (g : tf_G) (T : tf_T) (x0 : Int) (hp0 : 1 ≤ x0 ∧ x0 ≤ 2147483647) (x1 : Int) (hp1 : 0 ≤ x1 ∧ x1 ≤ 2147483647) : Met l yX10_common (cd_X10_common :: wsL_law) ({ frames := 1, cells := 0, slots := 0, locals := 24 }) (tf_P g T [.int (Int32.ofInt x0), .int (Int32.ofInt x1)] (fun H => True)) (tf_Qi g M_X10_common T (fun z _ _ => 1 ≤ z ∧ z ≤ 2147483647)) 0 0 (fun q => tf_B g ≤ q) := by
  refine Met.ofW (cc := cX10_common) (maxL := 5) (ret := (some .int)) (by decide) rfl ?_
  intro p e s m args below meth c s₁ B hml hv
  obtain ⟨hargs, hk, hW0, hB, hpre⟩ := hv
  have hx := B.exec
  have hb := B.bytes
  have hr := B.returns
  have hts : ∀ w ∈ wsL_law, w.before args s = true := fun w h => atoms_spec (ws := cd_X10_common :: wsL_law) B.pre w (List.mem_cons_of_mem _ h)
  have hown : s.vm.findClass RX10 = some m.cls := findClass_of_methodNamed B.named
  have hlocks := B.notSynchronized
  have hK := hk.1
  have hW := tf_n.start (M := M_X10_common) hW0 hB
  obtain ⟨Q, hQ⟩ : ∃ q, q = MQ below (tf_Qi g M_X10_common T (fun z _ _ => 1 ≤ z ∧ z ≤ 2147483647)) args s 0 0 (fun q => tf_B g ≤ q) := ⟨_, rfl⟩
  rw [← hQ]
  obtain ⟨R, hR⟩ : ∃ q, q = (headSpec (cd_X10_common :: wsL_law) ({ frames := 1, cells := 0, slots := 0, locals := 24 })).room := ⟨_, rfl⟩
  rw [← hR]
  have hR1 : 1 ≤ R.frames := by rw [hR]; exact Nat.le_refl _
  have hR2 : 24 ≤ R.locals := by rw [hR]; exact Nat.le_refl _
  have hR3 : 0 ≤ R.cells := by rw [hR]; exact Nat.le_refl _
  have hR4 : 0 ≤ R.slots := by rw [hR]; exact Nat.le_refl _
  have hin := (name_of_methodNamed B.named B.method).1
  clear hR B
  have j_4 : ∀ (n_4 : Nat), ∀ (x2_4 : Int), 1 ≤ x2_4 ∧ x2_4 ≤ 2147483647 → ∀ (x3_4 : Int), 0 ≤ x3_4 ∧ x3_4 ≤ 2147483647 → (x3_4 + 1 ≤ (n_4 : Int)) → ∀ (H : Heap) (locs : List Loc), tf_n tf_kt g M_X10_common T s.heap T H locs → ∀ (ls : Array Slot), lv_has ls 5 [(2, .int (Int32.ofInt x2_4)), (3, .int (Int32.ofInt x3_4))] → W p l e R s m args below meth c H locs 0 0 Q (F0 m 4 ls []) := by
    intro n_4
    induction n_4 with
    | zero =>
      intro x2_4 hx2_4 x3_4 hx3_4 hm_4
      exfalso; omega
    | succ n_4 ih_4 =>
      intro x2_4 hx2_4 x3_4 hx3_4 hm_4 H locs hW  ls hl
      refine lv_iload_n hx hb dX10_common_4 rfl (lv_at hl 1 rfl) ?_
      refine tf_if_eq (tgt := 21) hx hb ⟨by omega, by omega⟩ dX10_common_5 (by decide) (fun h1 => ?_) (fun h1 => ?_)
      · refine lv_iload_n hx hb dX10_common_21 rfl (lv_at hl 0 rfl) ?_
        exact tf_reti (z := x2_4) hx hb hr hlocks hQ hW (show 1 ≤ (x2_4) ∧ (x2_4) ≤ 2147483647 by omega) dX10_common_22
      · refine lv_iload_n hx hb dX10_common_8 rfl (lv_at hl 0 rfl) ?_
        refine lv_iload_n hx hb dX10_common_9 rfl (lv_at hl 1 rfl) ?_
        refine tf_irem_pos hx hb ⟨by omega, by omega⟩ (by omega) ⟨by omega, by omega⟩ (by omega) dX10_common_10 (fun z2 hz2 => ?_)
        refine lv_istore (lv' := [(4, .int (Int32.ofInt z2)), (2, .int (Int32.ofInt x2_4)), (3, .int (Int32.ofInt x3_4))]) hx hb dX10_common_11 hl (by decide) rfl (fun ls hl => ?_)
        refine lv_iload_n hx hb dX10_common_13 rfl (lv_at hl 2 rfl) ?_
        refine lv_istore_n (lv' := [(2, .int (Int32.ofInt x3_4)), (4, .int (Int32.ofInt z2)), (3, .int (Int32.ofInt x3_4))]) hx hb dX10_common_14 rfl hl (by decide) rfl (fun ls hl => ?_)
        refine lv_iload hx hb dX10_common_15 (lv_at hl 1 rfl) ?_
        refine lv_istore_n (lv' := [(3, .int (Int32.ofInt z2)), (2, .int (Int32.ofInt x3_4)), (4, .int (Int32.ofInt z2))]) hx hb dX10_common_17 rfl hl (by decide) rfl (fun ls hl => ?_)
        refine lv_goto (tgt := 4) hx hb dX10_common_18 (by decide) ?_
        exact ih_4 (x3_4) ⟨by omega, by omega⟩ (z2) ⟨by omega, by omega⟩ (by omega) _ _ hW  _ (lv_sub hl [1, 0] rfl)
  refine tf_enter (As := [.int (Int32.ofInt x0), .int (Int32.ofInt x1)]) hargs (Nat.le_of_ble_eq_true rfl) (fun ls hl => ?_)
  have hl : lv_has ls 5 [(0, .int (Int32.ofInt x0)), (1, .int (Int32.ofInt x1))] := hl
  refine lv_iload_n hx hb dX10_common_0 rfl (lv_at hl 0 rfl) ?_
  refine lv_istore_n (lv' := [(2, .int (Int32.ofInt x0)), (0, .int (Int32.ofInt x0)), (1, .int (Int32.ofInt x1))]) hx hb dX10_common_1 rfl hl (by decide) rfl (fun ls hl => ?_)
  refine lv_iload_n hx hb dX10_common_2 rfl (lv_at hl 2 rfl) ?_
  refine lv_istore_n (lv' := [(3, .int (Int32.ofInt x1)), (2, .int (Int32.ofInt x0)), (0, .int (Int32.ofInt x0)), (1, .int (Int32.ofInt x1))]) hx hb dX10_common_3 rfl hl (by decide) rfl (fun ls hl => ?_)
  exact j_4 ((x1 + 1 : Int)).toNat (x0) ⟨by omega, by omega⟩ (x1) ⟨by omega, by omega⟩ (by omega) _ _ hW  _ (lv_sub hl [1, 0] rfl)

abbrev M_X10_buildPaper : List (Nat × Nat) := [(53, 0), (54, 0), (55, 0), (56, 0), (57, 0)]
set_option maxHeartbeats 4000000 in
set_option maxRecDepth 100000 in
theorem c_X10_buildPaper (l : Launch) (g : tf_G) (T : tf_T) (a0 : Nat) (ha0 : T a0 = some (63, 0)) (x1 : Int) (hp1 : 0 ≤ x1 ∧ x1 ≤ 9) (x2 : Int) (hp2 : 0 ≤ x2 ∧ x2 ≤ 9) (x3 : Int) (hp3 : 1 ≤ x3 ∧ x3 ≤ 5) (x4 : Int) (hp4 : 1 ≤ x4 ∧ x4 ≤ 5) (x5 : Int) (hp5 : (-2147483648) ≤ x5 ∧ x5 ≤ 2147483647) (hq0 : x1 + x3 ≤ 10) (hq1 : x2 + x4 ≤ 10) : Met l yX10_buildPaper (cd_X10_buildPaper :: wsL_law) ({ frames := 6, cells := 0, slots := 0, locals := 139 }) (tf_P g T [.ref a0, .int (Int32.ofInt x1), .int (Int32.ofInt x2), .int (Int32.ofInt x3), .int (Int32.ofInt x4), .int (Int32.ofInt x5)] (fun H => True)) (tf_Qv g M_X10_buildPaper T (fun _ H => True)) 0 0 (fun q => tf_B g ≤ q) := by
  refine Met.ofW (cc := cX10_buildPaper) (maxL := 9) (ret := none) (by decide) rfl ?_
  intro p e s m args below meth c s₁ B hml hv
  obtain ⟨hargs, hk, hW0, hB, hpre⟩ := hv
  have hx := B.exec
  have hb := B.bytes
  have hr := B.returns
  have hts : ∀ w ∈ wsL_law, w.before args s = true := fun w h => atoms_spec (ws := cd_X10_buildPaper :: wsL_law) B.pre w (List.mem_cons_of_mem _ h)
  have hown : s.vm.findClass RX10 = some m.cls := findClass_of_methodNamed B.named
  have hlocks := B.notSynchronized
  have hK := hk.1
  have hW := tf_n.start (M := M_X10_buildPaper) hW0 hB
  obtain ⟨Q, hQ⟩ : ∃ q, q = MQ below (tf_Qv g M_X10_buildPaper T (fun _ H => True)) args s 0 0 (fun q => tf_B g ≤ q) := ⟨_, rfl⟩
  rw [← hQ]
  obtain ⟨R, hR⟩ : ∃ q, q = (headSpec (cd_X10_buildPaper :: wsL_law) ({ frames := 6, cells := 0, slots := 0, locals := 139 })).room := ⟨_, rfl⟩
  rw [← hR]
  have hR1 : 6 ≤ R.frames := by rw [hR]; exact Nat.le_refl _
  have hR2 : 139 ≤ R.locals := by rw [hR]; exact Nat.le_refl _
  have hR3 : 0 ≤ R.cells := by rw [hR]; exact Nat.le_refl _
  have hR4 : 0 ≤ R.slots := by rw [hR]; exact Nat.le_refl _
  have hin := (name_of_methodNamed B.named B.method).1
  clear hR B
  have j_16 : ∀ (n_16 : Nat), 0 ≤ x1 ∧ x1 ≤ 9 → 0 ≤ x2 ∧ x2 ≤ 9 → 1 ≤ x3 ∧ x3 ≤ 5 → 1 ≤ x4 ∧ x4 ≤ 5 → ∀ (x6_16 : Int), 0 ≤ x6_16 ∧ x6_16 ≤ 16 → (16 - x6_16 + 1 ≤ (n_16 : Int)) → ∀ (H : Heap) (locs : List Loc), tf_n tf_kt g M_X10_buildPaper T s.heap T H locs → ∀ (ls : Array Slot), lv_has ls 9 [(0, .ref a0), (1, .int (Int32.ofInt x1)), (2, .int (Int32.ofInt x2)), (3, .int (Int32.ofInt x3)), (4, .int (Int32.ofInt x4)), (6, .int (Int32.ofInt x6_16))] → W p l e R s m args below meth c H locs 0 0 Q (F0 m 16 ls []) := by
    intro n_16
    induction n_16 with
    | zero =>
      intro hx1_16 hx2_16 hx3_16 hx4_16 x6_16 hx6_16 hm_16
      exfalso; omega
    | succ n_16 ih_16 =>
      intro hx1_16 hx2_16 hx3_16 hx4_16 x6_16 hx6_16 hm_16 H locs hW  ls hl
      have j_28 : ∀ (n_28 : Nat), 0 ≤ x1 ∧ x1 ≤ 9 → 0 ≤ x2 ∧ x2 ≤ 9 → 1 ≤ x3 ∧ x3 ≤ 5 → 1 ≤ x4 ∧ x4 ≤ 5 → 0 ≤ x6_16 ∧ x6_16 ≤ 13 → ∀ (x7_28 : Int), 0 ≤ x7_28 ∧ x7_28 ≤ 16 → (x6_16 < x2 + x4) → (16 - x7_28 + 1 ≤ (n_28 : Int)) → ∀ (H : Heap) (locs : List Loc), tf_n tf_kt g M_X10_buildPaper T s.heap T H locs → ∀ (ls : Array Slot), lv_has ls 9 [(0, .ref a0), (1, .int (Int32.ofInt x1)), (2, .int (Int32.ofInt x2)), (3, .int (Int32.ofInt x3)), (4, .int (Int32.ofInt x4)), (6, .int (Int32.ofInt x6_16)), (7, .int (Int32.ofInt x7_28))] → W p l e R s m args below meth c H locs 0 0 Q (F0 m 28 ls []) := by
        intro n_28
        induction n_28 with
        | zero =>
          intro hx1_28 hx2_28 hx3_28 hx4_28 hx6_28 x7_28 hx7_28 hi0_28 hm_28
          exfalso; omega
        | succ n_28 ih_28 =>
          intro hx1_28 hx2_28 hx3_28 hx4_28 hx6_28 x7_28 hx7_28 hi0_28 hm_28 H locs hW  ls hl
          refine lv_iload hx hb dX10_buildPaper_28 (lv_at hl 6 rfl) ?_
          refine lv_iload_n hx hb dX10_buildPaper_30 rfl (lv_at hl 1 rfl) ?_
          refine lv_iload_n hx hb dX10_buildPaper_31 rfl (lv_at hl 3 rfl) ?_
          refine tf_iadd hx hb dX10_buildPaper_32 ?_
          refine tf_icmp_ge (tgt := 85) hx hb ⟨by omega, by omega⟩ ⟨by omega, by omega⟩ dX10_buildPaper_33 (by decide) (fun h1 => ?_) (fun h1 => ?_)
          · refine lv_iinc (v := Int32.ofInt ((x6_16 + 1))) (lv' := [(6, .int (Int32.ofInt ((x6_16 + 1)))), (0, .ref a0), (1, .int (Int32.ofInt x1)), (2, .int (Int32.ofInt x2)), (3, .int (Int32.ofInt x3)), (4, .int (Int32.ofInt x4)), (7, .int (Int32.ofInt x7_28))]) hx hb dX10_buildPaper_85 hl (k := 5) rfl (Int32.ofInt_add _ _).symm (by decide) rfl (fun ls hl => ?_)
            refine lv_goto (tgt := 16) hx hb dX10_buildPaper_88 (by decide) ?_
            exact ih_16 ⟨by omega, by omega⟩ ⟨by omega, by omega⟩ ⟨by omega, by omega⟩ ⟨by omega, by omega⟩ ((x6_16 + 1)) ⟨by omega, by omega⟩ (by omega) _ _ hW  _ (lv_sub hl [1, 2, 3, 4, 5, 0] rfl)
          · refine tf_bipush hx hb dX10_buildPaper_36 (by decide) ?_
            refine lv_iload hx hb dX10_buildPaper_38 (lv_at hl 5 rfl) ?_
            refine tf_imul hx hb dX10_buildPaper_40 ?_
            refine lv_iload hx hb dX10_buildPaper_41 (lv_at hl 6 rfl) ?_
            refine tf_iadd hx hb dX10_buildPaper_43 ?_
            refine lv_istore (lv' := [(8, .int (Int32.ofInt (((10 * x6_16) + x7_28)))), (0, .ref a0), (1, .int (Int32.ofInt x1)), (2, .int (Int32.ofInt x2)), (3, .int (Int32.ofInt x3)), (4, .int (Int32.ofInt x4)), (6, .int (Int32.ofInt x6_16)), (7, .int (Int32.ofInt x7_28))]) hx hb dX10_buildPaper_44 hl (by decide) rfl (fun ls hl => ?_)
            refine lv_aload_n hx hb dX10_buildPaper_46 rfl (lv_at hl 1 rfl) ?_
            refine tf_get hx hb hts inlX10 hown hK (ci := 10) rfl hW ha0 rfl 32 rfl (by decide) (hts _ fl_X10_73) dX10_buildPaper_47 (fun v2 hv2 hsv2 => ?_)
            obtain ⟨ad3, rfl, had3⟩ := tf_v1 hv2
            refine lv_iload hx hb dX10_buildPaper_50 (lv_at hl 0 rfl) ?_
            refine tf_bipush hx hb dX10_buildPaper_52 (by decide) ?_
            refine tf_iast (t0 := 0) hx hb hK hW had3 rfl rfl (by omega) (by omega) (by decide) (tf_u0 (by omega) (by omega)) dX10_buildPaper_54 (fun H4 locs4 hW hs4 ht4 hq4 => ?_)
            refine lv_aload_n hx hb dX10_buildPaper_55 rfl (lv_at hl 1 rfl) ?_
            refine tf_get hx hb hts inlX10 hown hK (ci := 10) rfl hW ha0 rfl 33 rfl (by decide) (hts _ fl_X10_76) dX10_buildPaper_56 (fun v5 hv5 hsv5 => ?_)
            obtain ⟨ad6, rfl, had6⟩ := tf_v1 hv5
            refine lv_iload hx hb dX10_buildPaper_59 (lv_at hl 0 rfl) ?_
            refine tf_iconst hx hb dX10_buildPaper_61 ?_
            refine tf_iast (t0 := 0) hx hb hK hW had6 rfl rfl (by omega) (by omega) (by decide) (tf_u0 (by omega) (by omega)) dX10_buildPaper_62 (fun H7 locs7 hW hs7 ht7 hq7 => ?_)
            refine lv_aload_n hx hb dX10_buildPaper_63 rfl (lv_at hl 1 rfl) ?_
            refine tf_get hx hb hts inlX10 hown hK (ci := 10) rfl hW ha0 rfl 34 rfl (by decide) (hts _ fl_X10_79) dX10_buildPaper_64 (fun v8 hv8 hsv8 => ?_)
            obtain ⟨ad9, rfl, had9⟩ := tf_v1 hv8
            refine lv_iload hx hb dX10_buildPaper_67 (lv_at hl 0 rfl) ?_
            refine tf_iconst hx hb dX10_buildPaper_69 ?_
            refine tf_iast (t0 := 0) hx hb hK hW had9 rfl rfl (by omega) (by omega) (by decide) (tf_u0 (by omega) (by omega)) dX10_buildPaper_70 (fun H10 locs10 hW hs10 ht10 hq10 => ?_)
            refine lv_aload_n hx hb dX10_buildPaper_71 rfl (lv_at hl 1 rfl) ?_
            refine tf_get hx hb hts inlX10 hown hK (ci := 10) rfl hW ha0 rfl 35 rfl (by decide) (hts _ fl_X10_82) dX10_buildPaper_72 (fun v11 hv11 hsv11 => ?_)
            obtain ⟨ad12, rfl, had12⟩ := tf_v1 hv11
            refine lv_iload hx hb dX10_buildPaper_75 (lv_at hl 0 rfl) ?_
            refine tf_iconst hx hb dX10_buildPaper_77 ?_
            refine tf_iast (t0 := 0) hx hb hK hW had12 rfl rfl (by omega) (by omega) (by decide) (tf_u0 (by omega) (by omega)) dX10_buildPaper_78 (fun H13 locs13 hW hs13 ht13 hq13 => ?_)
            refine lv_iinc (v := Int32.ofInt ((x7_28 + 1))) (lv' := [(7, .int (Int32.ofInt ((x7_28 + 1)))), (8, .int (Int32.ofInt (((10 * x6_16) + x7_28)))), (0, .ref a0), (1, .int (Int32.ofInt x1)), (2, .int (Int32.ofInt x2)), (3, .int (Int32.ofInt x3)), (4, .int (Int32.ofInt x4)), (6, .int (Int32.ofInt x6_16))]) hx hb dX10_buildPaper_79 hl (k := 7) rfl (Int32.ofInt_add _ _).symm (by decide) rfl (fun ls hl => ?_)
            refine lv_goto (tgt := 28) hx hb dX10_buildPaper_82 (by decide) ?_
            exact ih_28 ⟨by omega, by omega⟩ ⟨by omega, by omega⟩ ⟨by omega, by omega⟩ ⟨by omega, by omega⟩ ⟨by omega, by omega⟩ ((x7_28 + 1)) ⟨by omega, by omega⟩ (by omega) (by omega) _ _ hW  _ (lv_sub hl [2, 3, 4, 5, 6, 7, 0] rfl)
      refine lv_iload hx hb dX10_buildPaper_16 (lv_at hl 5 rfl) ?_
      refine lv_iload_n hx hb dX10_buildPaper_18 rfl (lv_at hl 2 rfl) ?_
      refine lv_iload hx hb dX10_buildPaper_19 (lv_at hl 4 rfl) ?_
      refine tf_iadd hx hb dX10_buildPaper_21 ?_
      refine tf_icmp_ge (tgt := 91) hx hb ⟨by omega, by omega⟩ ⟨by omega, by omega⟩ dX10_buildPaper_22 (by decide) (fun h14 => ?_) (fun h14 => ?_)
      · exact tf_retv hx hb hr hlocks hQ hW trivial dX10_buildPaper_91
      · refine lv_iload_n hx hb dX10_buildPaper_25 rfl (lv_at hl 1 rfl) ?_
        refine lv_istore (lv' := [(7, .int (Int32.ofInt x1)), (0, .ref a0), (1, .int (Int32.ofInt x1)), (2, .int (Int32.ofInt x2)), (3, .int (Int32.ofInt x3)), (4, .int (Int32.ofInt x4)), (6, .int (Int32.ofInt x6_16))]) hx hb dX10_buildPaper_26 hl (by decide) rfl (fun ls hl => ?_)
        exact j_28 ((16 - x1 + 1 : Int)).toNat ⟨by omega, by omega⟩ ⟨by omega, by omega⟩ ⟨by omega, by omega⟩ ⟨by omega, by omega⟩ ⟨by omega, by omega⟩ (x1) ⟨by omega, by omega⟩ (by omega) (by omega) _ _ hW  _ (lv_sub hl [1, 2, 3, 4, 5, 6, 0] rfl)
  refine tf_enter (As := [.ref a0, .int (Int32.ofInt x1), .int (Int32.ofInt x2), .int (Int32.ofInt x3), .int (Int32.ofInt x4), .int (Int32.ofInt x5)]) hargs (Nat.le_of_ble_eq_true rfl) (fun ls hl => ?_)
  have hl : lv_has ls 9 [(0, .ref a0), (1, .int (Int32.ofInt x1)), (2, .int (Int32.ofInt x2)), (3, .int (Int32.ofInt x3)), (4, .int (Int32.ofInt x4)), (5, .int (Int32.ofInt x5))] := hl
  refine lv_aload_n hx hb dX10_buildPaper_0 rfl (lv_at hl 0 rfl) ?_
  refine tf_callv (va_runV (As := []) (rest := []) ⟨hx, hb, hml, hown, hts⟩ (c_X10_layAll l g T a0 ha0) (cwV 0 hts gv_X10_405 rfl rfl rfl hd_X10_layAll ⟨Nat.le_trans (by decide) hR1, Nat.le_trans (by decide) hR2⟩) (tf_preV hk hW ha0 (ci := 10) rfl rfl trivial) rfl rfl hl.1 rfl (lv_room (Nat.le_of_ble_eq_true rfl)) dX10_buildPaper_1 ⟨Nat.zero_le _, Nat.zero_le _⟩) hW (by decide) (fun H15 locs15 hW hF15 hp15 => ?_)
  refine lv_aload_n hx hb dX10_buildPaper_4 rfl (lv_at hl 0 rfl) ?_
  refine tf_get hx hb hts inlX10 hown hK (ci := 10) rfl hW ha0 rfl 36 rfl (by decide) (hts _ fl_X10_85) dX10_buildPaper_5 (fun v16 hv16 hsv16 => ?_)
  obtain ⟨ad17, rfl, had17⟩ := tf_v1 hv16
  refine tf_bipush hx hb dX10_buildPaper_8 (by decide) ?_
  refine lv_iload hx hb dX10_buildPaper_10 (lv_at hl 5 rfl) ?_
  refine tf_iast (t0 := 0) hx hb hK hW had17 rfl rfl (by omega) (by omega) (by decide) (tf_u0 (by omega) (by omega)) dX10_buildPaper_12 (fun H18 locs18 hW hs18 ht18 hq18 => ?_)
  refine lv_iload_n hx hb dX10_buildPaper_13 rfl (lv_at hl 2 rfl) ?_
  refine lv_istore (lv' := [(6, .int (Int32.ofInt x2)), (0, .ref a0), (1, .int (Int32.ofInt x1)), (2, .int (Int32.ofInt x2)), (3, .int (Int32.ofInt x3)), (4, .int (Int32.ofInt x4)), (5, .int (Int32.ofInt x5))]) hx hb dX10_buildPaper_14 hl (by decide) rfl (fun ls hl => ?_)
  exact j_16 ((16 - x2 + 1 : Int)).toNat ⟨by omega, by omega⟩ ⟨by omega, by omega⟩ ⟨by omega, by omega⟩ ⟨by omega, by omega⟩ (x2) ⟨by omega, by omega⟩ (by omega) _ _ hW  _ (lv_sub hl [1, 2, 3, 4, 5, 0] rfl)

abbrev M_X10_canBuild : List (Nat × Nat) := []
set_option maxHeartbeats 4000000 in
set_option maxRecDepth 100000 in
theorem c_X10_canBuild (l : Launch) (g : tf_G) (T : tf_T) (a0 : Nat) (ha0 : T a0 = some (63, 0)) (x1 : Int) (hp1 : (-2147483648) ≤ x1 ∧ x1 ≤ 2147483647) (x2 : Int) (hp2 : (-2147483648) ≤ x2 ∧ x2 ≤ 2147483647) (x3 : Int) (hp3 : (-2147483648) ≤ x3 ∧ x3 ≤ 2147483647) (x4 : Int) (hp4 : (-2147483648) ≤ x4 ∧ x4 ≤ 2147483647) (x5 : Int) (hp5 : (-2147483648) ≤ x5 ∧ x5 ≤ 2147483647) : Met l yX10_canBuild (cd_X10_canBuild :: wsL_law) ({ frames := 6, cells := 0, slots := 0, locals := 145 }) (tf_P g T [.ref a0, .int (Int32.ofInt x1), .int (Int32.ofInt x2), .int (Int32.ofInt x3), .int (Int32.ofInt x4), .int (Int32.ofInt x5)] (fun H => True)) (tf_Qi g M_X10_canBuild T (fun z _ _ => (z = 1 ∧ 0 ≤ x1 ∧ x1 ≤ 9 ∧ 0 ≤ x2 ∧ x2 ≤ 9 ∧ 1 ≤ x3 ∧ x3 ≤ 5 ∧ 1 ≤ x4 ∧ x4 ≤ 5 ∧ 1 ≤ x5 ∧ x5 ≤ 40 ∧ x1 + x3 ≤ 10 ∧ x2 + x4 ≤ 10) ∨ (z = 0))) 0 0 (fun q => tf_B g ≤ q) := by
  refine Met.ofW (cc := cX10_canBuild) (maxL := 6) (ret := (some .boolean)) (by decide) rfl ?_
  intro p e s m args below meth c s₁ B hml hv
  obtain ⟨hargs, hk, hW0, hB, hpre⟩ := hv
  have hx := B.exec
  have hb := B.bytes
  have hr := B.returns
  have hts : ∀ w ∈ wsL_law, w.before args s = true := fun w h => atoms_spec (ws := cd_X10_canBuild :: wsL_law) B.pre w (List.mem_cons_of_mem _ h)
  have hown : s.vm.findClass RX10 = some m.cls := findClass_of_methodNamed B.named
  have hlocks := B.notSynchronized
  have hK := hk.1
  have hW := tf_n.start (M := M_X10_canBuild) hW0 hB
  obtain ⟨Q, hQ⟩ : ∃ q, q = MQ below (tf_Qi g M_X10_canBuild T (fun z _ _ => (z = 1 ∧ 0 ≤ x1 ∧ x1 ≤ 9 ∧ 0 ≤ x2 ∧ x2 ≤ 9 ∧ 1 ≤ x3 ∧ x3 ≤ 5 ∧ 1 ≤ x4 ∧ x4 ≤ 5 ∧ 1 ≤ x5 ∧ x5 ≤ 40 ∧ x1 + x3 ≤ 10 ∧ x2 + x4 ≤ 10) ∨ (z = 0))) args s 0 0 (fun q => tf_B g ≤ q) := ⟨_, rfl⟩
  rw [← hQ]
  obtain ⟨R, hR⟩ : ∃ q, q = (headSpec (cd_X10_canBuild :: wsL_law) ({ frames := 6, cells := 0, slots := 0, locals := 145 })).room := ⟨_, rfl⟩
  rw [← hR]
  have hR1 : 6 ≤ R.frames := by rw [hR]; exact Nat.le_refl _
  have hR2 : 145 ≤ R.locals := by rw [hR]; exact Nat.le_refl _
  have hR3 : 0 ≤ R.cells := by rw [hR]; exact Nat.le_refl _
  have hR4 : 0 ≤ R.slots := by rw [hR]; exact Nat.le_refl _
  have hin := (name_of_methodNamed B.named B.method).1
  clear hR B
  refine tf_enter (As := [.ref a0, .int (Int32.ofInt x1), .int (Int32.ofInt x2), .int (Int32.ofInt x3), .int (Int32.ofInt x4), .int (Int32.ofInt x5)]) hargs (Nat.le_of_ble_eq_true rfl) (fun ls hl => ?_)
  have hl : lv_has ls 6 [(0, .ref a0), (1, .int (Int32.ofInt x1)), (2, .int (Int32.ofInt x2)), (3, .int (Int32.ofInt x3)), (4, .int (Int32.ofInt x4)), (5, .int (Int32.ofInt x5))] := hl
  refine lv_iload_n hx hb dX10_canBuild_0 rfl (lv_at hl 1 rfl) ?_
  refine lv_iload_n hx hb dX10_canBuild_1 rfl (lv_at hl 2 rfl) ?_
  refine lv_iload_n hx hb dX10_canBuild_2 rfl (lv_at hl 3 rfl) ?_
  refine lv_iload hx hb dX10_canBuild_3 (lv_at hl 4 rfl) ?_
  refine lv_iload hx hb dX10_canBuild_5 (lv_at hl 5 rfl) ?_
  refine tf_calli (va_runS (As := [.int (Int32.ofInt x1), .int (Int32.ofInt x2), .int (Int32.ofInt x3), .int (Int32.ofInt x4), .int (Int32.ofInt x5)]) (rest := []) ⟨hx, hb, hml, hown, hts⟩ (c_X10_canBe l g T (x1) ⟨by omega, by omega⟩ (x2) ⟨by omega, by omega⟩ (x3) ⟨by omega, by omega⟩ (x4) ⟨by omega, by omega⟩ (x5) ⟨by omega, by omega⟩) ⟨callB_of 5 hts (gw_ws cm_X10_canBe) rfl rfl rfl (hts _ (tw1 (i := 5) rfl)) (hts _ (tw10 (i := 21) rfl)) hd_X10_canBe.2 ⟨Nat.le_trans (by decide) hR1, Nat.le_trans (by decide) hR2⟩, hts _ (tw10 (i := 22) rfl)⟩ (tf_preS hk hW trivial) rfl rfl hl.1 rfl (lv_room (Nat.le_of_ble_eq_true rfl)) dX10_canBuild_7 ⟨Nat.zero_le _, Nat.zero_le _⟩) hW (by decide) (fun z1 H1 locs1 hW hF1 hp1 => ?_)
  rcases hp1 with ⟨rfl, h2, h3, h4, h5, h6, h7, h8, h9, h10, h11, h12, h13⟩ | ⟨rfl⟩
  · refine tf_if_eq (tgt := 40) hx hb ⟨by decide, by decide⟩ dX10_canBuild_10 (by decide) (fun h14 => ?_) (fun h14 => ?_)
    · exfalso; omega
    · refine lv_aload_n hx hb dX10_canBuild_13 rfl (lv_at hl 0 rfl) ?_
      refine tf_get hx hb hts inlX10 hown hK (ci := 10) rfl hW ha0 rfl 3 rfl (by decide) (hts _ fl_X10_13) dX10_canBuild_14 (fun v15 hv15 hsv15 => ?_)
      obtain ⟨ad16, rfl, had16⟩ := tf_v1 hv15
      refine tf_iconst hx hb dX10_canBuild_17 ?_
      refine tf_iald (t0 := 0) hx hb hK hW had16 rfl rfl (by omega) (by omega) dX10_canBuild_18 (fun v17 hv17 hsv17 => ?_)
      obtain ⟨z18, rfl, hz18⟩ := tf_v0 hv17
      have hg19 := tf_rd0 (tf_ROof hW had16) hsv17 ⟨by omega, by omega⟩ (by omega)
      refine tf_bipush hx hb dX10_canBuild_19 (by decide) ?_
      refine tf_icmp_ge (tgt := 40) hx hb ⟨by omega, by omega⟩ ⟨by decide, by decide⟩ dX10_canBuild_21 (by decide) (fun h20 => ?_) (fun h20 => ?_)
      · refine tf_iconst hx hb dX10_canBuild_40 ?_
        exact tf_retz (z := 0) hx hb hr hlocks hQ hW (by omega) (show ((0) = 1 ∧ 0 ≤ x1 ∧ x1 ≤ 9 ∧ 0 ≤ x2 ∧ x2 ≤ 9 ∧ 1 ≤ x3 ∧ x3 ≤ 5 ∧ 1 ≤ x4 ∧ x4 ≤ 5 ∧ 1 ≤ x5 ∧ x5 ≤ 40 ∧ x1 + x3 ≤ 10 ∧ x2 + x4 ≤ 10) ∨ ((0) = 0) by omega) dX10_canBuild_41
      · refine lv_aload_n hx hb dX10_canBuild_24 rfl (lv_at hl 0 rfl) ?_
        refine lv_iload_n hx hb dX10_canBuild_25 rfl (lv_at hl 1 rfl) ?_
        refine lv_iload_n hx hb dX10_canBuild_26 rfl (lv_at hl 2 rfl) ?_
        refine lv_iload_n hx hb dX10_canBuild_27 rfl (lv_at hl 3 rfl) ?_
        refine lv_iload hx hb dX10_canBuild_28 (lv_at hl 4 rfl) ?_
        refine tf_calli (va_runV (As := [.int (Int32.ofInt x1), .int (Int32.ofInt x2), .int (Int32.ofInt x3), .int (Int32.ofInt x4)]) (rest := []) ⟨hx, hb, hml, hown, hts⟩ (c_X10_isFree l g T a0 ha0 (x1) ⟨by omega, by omega⟩ (x2) ⟨by omega, by omega⟩ (x3) ⟨by omega, by omega⟩ (x4) ⟨by omega, by omega⟩) (cwV 4 hts gv_X10_161 rfl rfl rfl hd_X10_isFree ⟨Nat.le_trans (by decide) hR1, Nat.le_trans (by decide) hR2⟩) (tf_preV hk hW ha0 (ci := 10) rfl rfl trivial) rfl rfl hl.1 rfl (lv_room (Nat.le_of_ble_eq_true rfl)) dX10_canBuild_30 ⟨Nat.zero_le _, Nat.zero_le _⟩) hW (by decide) (fun z21 H21 locs21 hW hF21 hp21 => ?_)
        have hp21 : z21 = 0 ∨ z21 = 1 := hp21
        refine tf_if_eq (tgt := 40) hx hb ⟨by omega, by omega⟩ dX10_canBuild_33 (by decide) (fun h22 => ?_) (fun h22 => ?_)
        · refine tf_iconst hx hb dX10_canBuild_40 ?_
          exact tf_retz (z := 0) hx hb hr hlocks hQ hW (by omega) (show ((0) = 1 ∧ 0 ≤ x1 ∧ x1 ≤ 9 ∧ 0 ≤ x2 ∧ x2 ≤ 9 ∧ 1 ≤ x3 ∧ x3 ≤ 5 ∧ 1 ≤ x4 ∧ x4 ≤ 5 ∧ 1 ≤ x5 ∧ x5 ≤ 40 ∧ x1 + x3 ≤ 10 ∧ x2 + x4 ≤ 10) ∨ ((0) = 0) by omega) dX10_canBuild_41
        · refine tf_iconst hx hb dX10_canBuild_36 ?_
          refine lv_goto (tgt := 41) hx hb dX10_canBuild_37 (by decide) ?_
          exact tf_retz (z := 1) hx hb hr hlocks hQ hW (by omega) (show ((1) = 1 ∧ 0 ≤ x1 ∧ x1 ≤ 9 ∧ 0 ≤ x2 ∧ x2 ≤ 9 ∧ 1 ≤ x3 ∧ x3 ≤ 5 ∧ 1 ≤ x4 ∧ x4 ≤ 5 ∧ 1 ≤ x5 ∧ x5 ≤ 40 ∧ x1 + x3 ≤ 10 ∧ x2 + x4 ≤ 10) ∨ ((1) = 0) by omega) dX10_canBuild_41
  · refine tf_if_eq (tgt := 40) hx hb ⟨by decide, by decide⟩ dX10_canBuild_10 (by decide) (fun h23 => ?_) (fun h23 => ?_)
    · refine tf_iconst hx hb dX10_canBuild_40 ?_
      exact tf_retz (z := 0) hx hb hr hlocks hQ hW (by omega) (show ((0) = 1 ∧ 0 ≤ x1 ∧ x1 ≤ 9 ∧ 0 ≤ x2 ∧ x2 ≤ 9 ∧ 1 ≤ x3 ∧ x3 ≤ 5 ∧ 1 ≤ x4 ∧ x4 ≤ 5 ∧ 1 ≤ x5 ∧ x5 ≤ 40 ∧ x1 + x3 ≤ 10 ∧ x2 + x4 ≤ 10) ∨ ((0) = 0) by omega) dX10_canBuild_41
    · exfalso; omega

abbrev M_X10_count : List (Nat × Nat) := [(63, 0)]
set_option maxHeartbeats 4000000 in
set_option maxRecDepth 100000 in
theorem c_X10_count (l : Launch) (g : tf_G) (T : tf_T) (a0 : Nat) (ha0 : T a0 = some (63, 0)) (x1 : Int) (hp1 : (-2147483648) ≤ x1 ∧ x1 ≤ 2147483647) : Met l yX10_count (cd_X10_count :: wsL_law) ({ frames := 4, cells := 0, slots := 0, locals := 96 }) (tf_P g T [.ref a0, .int (Int32.ofInt x1)] (fun H => True)) (tf_Qi g M_X10_count T (fun z _ _ => (-2147483648) ≤ z ∧ z ≤ 2147483647)) 0 0 (fun q => tf_B g ≤ q) := by
  refine Met.ofW (cc := cX10_count) (maxL := 4) (ret := (some .int)) (by decide) rfl ?_
  intro p e s m args below meth c s₁ B hml hv
  obtain ⟨hargs, hk, hW0, hB, hpre⟩ := hv
  have hx := B.exec
  have hb := B.bytes
  have hr := B.returns
  have hts : ∀ w ∈ wsL_law, w.before args s = true := fun w h => atoms_spec (ws := cd_X10_count :: wsL_law) B.pre w (List.mem_cons_of_mem _ h)
  have hown : s.vm.findClass RX10 = some m.cls := findClass_of_methodNamed B.named
  have hlocks := B.notSynchronized
  have hK := hk.1
  have hW := tf_n.start (M := M_X10_count) hW0 hB
  obtain ⟨Q, hQ⟩ : ∃ q, q = MQ below (tf_Qi g M_X10_count T (fun z _ _ => (-2147483648) ≤ z ∧ z ≤ 2147483647)) args s 0 0 (fun q => tf_B g ≤ q) := ⟨_, rfl⟩
  rw [← hQ]
  obtain ⟨R, hR⟩ : ∃ q, q = (headSpec (cd_X10_count :: wsL_law) ({ frames := 4, cells := 0, slots := 0, locals := 96 })).room := ⟨_, rfl⟩
  rw [← hR]
  have hR1 : 4 ≤ R.frames := by rw [hR]; exact Nat.le_refl _
  have hR2 : 96 ≤ R.locals := by rw [hR]; exact Nat.le_refl _
  have hR3 : 0 ≤ R.cells := by rw [hR]; exact Nat.le_refl _
  have hR4 : 0 ≤ R.slots := by rw [hR]; exact Nat.le_refl _
  have hin := (name_of_methodNamed B.named B.method).1
  clear hR B
  have j_9 : ∀ (n_9 : Nat), (-2147483648) ≤ x1 ∧ x1 ≤ 2147483647 → ∀ (x2_9 : Int), (-2147483648) ≤ x2_9 ∧ x2_9 ≤ 2147483647 → ∀ (x3_9 : Int), 0 ≤ x3_9 ∧ x3_9 ≤ 100 → (100 - x3_9 + 1 ≤ (n_9 : Int)) → ∀ (H : Heap) (locs : List Loc), tf_n tf_kt g M_X10_count T s.heap T H locs → ∀ (ls : Array Slot), lv_has ls 4 [(0, .ref a0), (1, .int (Int32.ofInt x1)), (2, .int (Int32.ofInt x2_9)), (3, .int (Int32.ofInt x3_9))] → W p l e R s m args below meth c H locs 0 0 Q (F0 m 9 ls []) := by
    intro n_9
    induction n_9 with
    | zero =>
      intro hx1_9 x2_9 hx2_9 x3_9 hx3_9 hm_9
      exfalso; omega
    | succ n_9 ih_9 =>
      intro hx1_9 x2_9 hx2_9 x3_9 hx3_9 hm_9 H locs hW  ls hl
      have j_30 : (-2147483648) ≤ x1 ∧ x1 ≤ 2147483647 → 0 ≤ x3_9 ∧ x3_9 ≤ 99 → (-2147483648) ≤ x2_9 ∧ x2_9 ≤ 2147483647 → ∀ (y1_30 : Int), 0 ≤ y1_30 ∧ y1_30 ≤ 1 → ∀ (H : Heap) (locs : List Loc), tf_n tf_kt g M_X10_count T s.heap T H locs → ∀ (ls : Array Slot), lv_has ls 4 [(0, .ref a0), (1, .int (Int32.ofInt x1)), (3, .int (Int32.ofInt x3_9))] → W p l e R s m args below meth c H locs 0 0 Q (F0 m 30 ls [.int (Int32.ofInt y1_30), .int (Int32.ofInt x2_9)]) := by
        intro hx1_30 hx3_30 hy0_30 y1_30 hy1_30 H locs hW  ls hl
        refine tf_iadd_any hx hb dX10_count_30 (fun z1 hz1 => ?_)
        refine lv_istore_n (lv' := [(2, .int (Int32.ofInt z1)), (0, .ref a0), (1, .int (Int32.ofInt x1)), (3, .int (Int32.ofInt x3_9))]) hx hb dX10_count_31 rfl hl (by decide) rfl (fun ls hl => ?_)
        refine lv_iinc (v := Int32.ofInt ((x3_9 + 1))) (lv' := [(3, .int (Int32.ofInt ((x3_9 + 1)))), (2, .int (Int32.ofInt z1)), (0, .ref a0), (1, .int (Int32.ofInt x1))]) hx hb dX10_count_32 hl (k := 3) rfl (Int32.ofInt_add _ _).symm (by decide) rfl (fun ls hl => ?_)
        refine lv_goto (tgt := 9) hx hb dX10_count_35 (by decide) ?_
        exact ih_9 ⟨by omega, by omega⟩ (z1) ⟨by omega, by omega⟩ ((x3_9 + 1)) ⟨by omega, by omega⟩ (by omega) _ _ hW  _ (lv_sub hl [2, 3, 1, 0] rfl)
      refine lv_iload_n hx hb dX10_count_9 rfl (lv_at hl 3 rfl) ?_
      refine tf_bipush hx hb dX10_count_10 (by decide) ?_
      refine tf_icmp_ge (tgt := 38) hx hb ⟨by omega, by omega⟩ ⟨by decide, by decide⟩ dX10_count_12 (by decide) (fun h2 => ?_) (fun h2 => ?_)
      · refine lv_iload_n hx hb dX10_count_38 rfl (lv_at hl 1 rfl) ?_
        rcases (show x1 = 0 ∨ x1 = 1 ∨ x1 = 2 ∨ x1 = 3 ∨ x1 = 4 ∨ x1 = 5 ∨ x1 = 6 ∨ x1 = 7 ∨ x1 = 8 ∨ x1 = 9 ∨ x1 = 10 ∨ x1 = 11 ∨ x1 = 12 ∨ x1 < 0 ∨ 12 < x1 by omega) with h3 | h3 | h3 | h3 | h3 | h3 | h3 | h3 | h3 | h3 | h3 | h3 | h3 | h3 | h3
        · refine tf_tableIn (tgt := 104) hx hb dX10_count_39 h3 (by decide) (by decide) (by decide) rfl (by decide) ?_
          refine lv_aload_n hx hb dX10_count_104 rfl (lv_at hl 0 rfl) ?_
          refine tf_get hx hb hts inlX10 hown hK (ci := 10) rfl hW ha0 rfl 3 rfl (by decide) (hts _ fl_X10_13) dX10_count_105 (fun v4 hv4 hsv4 => ?_)
          obtain ⟨ad5, rfl, had5⟩ := tf_v1 hv4
          refine tf_iconst hx hb dX10_count_108 ?_
          refine tf_iald (t0 := 0) hx hb hK hW had5 rfl rfl (by omega) (by omega) dX10_count_109 (fun v6 hv6 hsv6 => ?_)
          obtain ⟨z7, rfl, hz7⟩ := tf_v0 hv6
          have hg8 := tf_rd0 (tf_ROof hW had5) hsv6 ⟨by omega, by omega⟩ (by omega)
          exact tf_reti (z := z7) hx hb hr hlocks hQ hW (show (-2147483648) ≤ (z7) ∧ (z7) ≤ 2147483647 by omega) dX10_count_110
        · refine tf_tableIn (tgt := 111) hx hb dX10_count_39 h3 (by decide) (by decide) (by decide) rfl (by decide) ?_
          refine lv_iload_n hx hb dX10_count_111 rfl (lv_at hl 2 rfl) ?_
          exact tf_reti (z := x2_9) hx hb hr hlocks hQ hW (show (-2147483648) ≤ (x2_9) ∧ (x2_9) ≤ 2147483647 by omega) dX10_count_112
        · refine tf_tableIn (tgt := 113) hx hb dX10_count_39 h3 (by decide) (by decide) (by decide) rfl (by decide) ?_
          refine lv_aload_n hx hb dX10_count_113 rfl (lv_at hl 0 rfl) ?_
          refine tf_get hx hb hts inlX10 hown hK (ci := 10) rfl hW ha0 rfl 3 rfl (by decide) (hts _ fl_X10_13) dX10_count_114 (fun v9 hv9 hsv9 => ?_)
          obtain ⟨ad10, rfl, had10⟩ := tf_v1 hv9
          refine tf_iconst hx hb dX10_count_117 ?_
          refine tf_iald (t0 := 0) hx hb hK hW had10 rfl rfl (by omega) (by omega) dX10_count_118 (fun v11 hv11 hsv11 => ?_)
          obtain ⟨z12, rfl, hz12⟩ := tf_v0 hv11
          have hg13 := tf_rd1 (tf_ROof hW had10) hsv11 ⟨by omega, by omega⟩ (by omega)
          exact tf_reti (z := z12) hx hb hr hlocks hQ hW (show (-2147483648) ≤ (z12) ∧ (z12) ≤ 2147483647 by omega) dX10_count_119
        · refine tf_tableIn (tgt := 120) hx hb dX10_count_39 h3 (by decide) (by decide) (by decide) rfl (by decide) ?_
          refine lv_aload_n hx hb dX10_count_120 rfl (lv_at hl 0 rfl) ?_
          refine tf_get hx hb hts inlX10 hown hK (ci := 10) rfl hW ha0 rfl 3 rfl (by decide) (hts _ fl_X10_13) dX10_count_121 (fun v14 hv14 hsv14 => ?_)
          obtain ⟨ad15, rfl, had15⟩ := tf_v1 hv14
          refine tf_iconst hx hb dX10_count_124 ?_
          refine tf_iald (t0 := 0) hx hb hK hW had15 rfl rfl (by omega) (by omega) dX10_count_125 (fun v16 hv16 hsv16 => ?_)
          obtain ⟨z17, rfl, hz17⟩ := tf_v0 hv16
          have hg18 := tf_rd3 (tf_ROof hW had15) hsv16 ⟨by omega, by omega⟩ (by omega)
          exact tf_reti (z := z17) hx hb hr hlocks hQ hW (show (-2147483648) ≤ (z17) ∧ (z17) ≤ 2147483647 by omega) dX10_count_126
        · refine tf_tableIn (tgt := 127) hx hb dX10_count_39 h3 (by decide) (by decide) (by decide) rfl (by decide) ?_
          refine lv_aload_n hx hb dX10_count_127 rfl (lv_at hl 0 rfl) ?_
          refine tf_get hx hb hts inlX10 hown hK (ci := 10) rfl hW ha0 rfl 3 rfl (by decide) (hts _ fl_X10_13) dX10_count_128 (fun v19 hv19 hsv19 => ?_)
          obtain ⟨ad20, rfl, had20⟩ := tf_v1 hv19
          refine tf_iconst hx hb dX10_count_131 ?_
          refine tf_iald (t0 := 0) hx hb hK hW had20 rfl rfl (by omega) (by omega) dX10_count_132 (fun v21 hv21 hsv21 => ?_)
          obtain ⟨z22, rfl, hz22⟩ := tf_v0 hv21
          have hg23 := tf_rd4 (tf_ROof hW had20) hsv21 ⟨by omega, by omega⟩ (by omega)
          have hg24 := tf_rdM (tf_ROof hW had20) hsv21 ⟨by omega, by omega⟩ (by omega)
          exact tf_reti (z := z22) hx hb hr hlocks hQ hW (show (-2147483648) ≤ (z22) ∧ (z22) ≤ 2147483647 by omega) dX10_count_133
        · refine tf_tableIn (tgt := 134) hx hb dX10_count_39 h3 (by decide) (by decide) (by decide) rfl (by decide) ?_
          refine lv_aload_n hx hb dX10_count_134 rfl (lv_at hl 0 rfl) ?_
          obtain ⟨pv25, hpv25, hok25⟩ := tf_peek hW ha0 (ci := 10) rfl 3 rfl
          obtain ⟨ad26, rfl, had26⟩ := tf_v1 hok25
          obtain ⟨r27, hr27⟩ := tf_rname hW ad26
          have hro27 : tf_RO r27 := hr27 ▸ tf_ROof hW had26
          refine tf_calli (va_runV (As := []) (rest := []) ⟨hx, hb, hml, hown, hts⟩ (c_X10_allHours l g T a0 ha0 ad26 had26 r27) (cwV 0 hts gv_X10_189 rfl rfl rfl hd_X10_allHours ⟨Nat.le_trans (by decide) hR1, Nat.le_trans (by decide) hR2⟩) (tf_preV hk hW ha0 (ci := 10) rfl rfl ⟨hpv25, hr27⟩) rfl rfl hl.1 rfl (lv_room (Nat.le_of_ble_eq_true rfl)) dX10_count_135 ⟨Nat.zero_le _, Nat.zero_le _⟩) hW (by decide) (fun z28 H28 locs28 hW hF28 hp28 => ?_)
          have hs29 := tf_keepF hF28 ha0 rfl rfl (by decide) hpv25
          have hs30 := tf_keepC hF28 had26 rfl (by decide) hr27
          obtain ⟨hp28_0, hp28_1, hp28_2, hp28_3⟩ := hp28
          exact tf_reti (z := z28) hx hb hr hlocks hQ hW (show (-2147483648) ≤ (z28) ∧ (z28) ≤ 2147483647 by omega) dX10_count_138
        · refine tf_tableIn (tgt := 139) hx hb dX10_count_39 h3 (by decide) (by decide) (by decide) rfl (by decide) ?_
          refine lv_aload_n hx hb dX10_count_139 rfl (lv_at hl 0 rfl) ?_
          refine tf_get hx hb hts inlX10 hown hK (ci := 10) rfl hW ha0 rfl 8 rfl (by decide) (hts _ fl_X10_183) dX10_count_140 (fun v31 hv31 hsv31 => ?_)
          obtain ⟨z32, rfl, hz32⟩ := tf_v0 hv31
          exact tf_reti (z := z32) hx hb hr hlocks hQ hW (show (-2147483648) ≤ (z32) ∧ (z32) ≤ 2147483647 by omega) dX10_count_143
        · refine tf_tableIn (tgt := 144) hx hb dX10_count_39 h3 (by decide) (by decide) (by decide) rfl (by decide) ?_
          refine lv_aload_n hx hb dX10_count_144 rfl (lv_at hl 0 rfl) ?_
          refine tf_get hx hb hts inlX10 hown hK (ci := 10) rfl hW ha0 rfl 2 rfl (by decide) (hts _ fl_X10_7) dX10_count_145 (fun v33 hv33 hsv33 => ?_)
          obtain ⟨ad34, rfl, had34⟩ := tf_v1 hv33
          refine tf_iconst hx hb dX10_count_148 ?_
          refine tf_iald (t0 := 0) hx hb hK hW had34 rfl rfl (by omega) (by omega) dX10_count_149 (fun v35 hv35 hsv35 => ?_)
          obtain ⟨z36, rfl, hz36⟩ := tf_v0 hv35
          exact tf_reti (z := z36) hx hb hr hlocks hQ hW (show (-2147483648) ≤ (z36) ∧ (z36) ≤ 2147483647 by omega) dX10_count_150
        · refine tf_tableIn (tgt := 151) hx hb dX10_count_39 h3 (by decide) (by decide) (by decide) rfl (by decide) ?_
          refine lv_aload_n hx hb dX10_count_151 rfl (lv_at hl 0 rfl) ?_
          refine tf_get hx hb hts inlX10 hown hK (ci := 10) rfl hW ha0 rfl 2 rfl (by decide) (hts _ fl_X10_7) dX10_count_152 (fun v37 hv37 hsv37 => ?_)
          obtain ⟨ad38, rfl, had38⟩ := tf_v1 hv37
          refine tf_iconst hx hb dX10_count_155 ?_
          refine tf_iald (t0 := 0) hx hb hK hW had38 rfl rfl (by omega) (by omega) dX10_count_156 (fun v39 hv39 hsv39 => ?_)
          obtain ⟨z40, rfl, hz40⟩ := tf_v0 hv39
          exact tf_reti (z := z40) hx hb hr hlocks hQ hW (show (-2147483648) ≤ (z40) ∧ (z40) ≤ 2147483647 by omega) dX10_count_157
        · refine tf_tableIn (tgt := 158) hx hb dX10_count_39 h3 (by decide) (by decide) (by decide) rfl (by decide) ?_
          refine lv_aload_n hx hb dX10_count_158 rfl (lv_at hl 0 rfl) ?_
          refine tf_get hx hb hts inlX10 hown hK (ci := 10) rfl hW ha0 rfl 2 rfl (by decide) (hts _ fl_X10_7) dX10_count_159 (fun v41 hv41 hsv41 => ?_)
          obtain ⟨ad42, rfl, had42⟩ := tf_v1 hv41
          refine tf_iconst hx hb dX10_count_162 ?_
          refine tf_iald (t0 := 0) hx hb hK hW had42 rfl rfl (by omega) (by omega) dX10_count_163 (fun v43 hv43 hsv43 => ?_)
          obtain ⟨z44, rfl, hz44⟩ := tf_v0 hv43
          exact tf_reti (z := z44) hx hb hr hlocks hQ hW (show (-2147483648) ≤ (z44) ∧ (z44) ≤ 2147483647 by omega) dX10_count_164
        · refine tf_tableIn (tgt := 165) hx hb dX10_count_39 h3 (by decide) (by decide) (by decide) rfl (by decide) ?_
          refine lv_aload_n hx hb dX10_count_165 rfl (lv_at hl 0 rfl) ?_
          refine tf_get hx hb hts inlX10 hown hK (ci := 10) rfl hW ha0 rfl 2 rfl (by decide) (hts _ fl_X10_7) dX10_count_166 (fun v45 hv45 hsv45 => ?_)
          obtain ⟨ad46, rfl, had46⟩ := tf_v1 hv45
          refine tf_iconst hx hb dX10_count_169 ?_
          refine tf_iald (t0 := 0) hx hb hK hW had46 rfl rfl (by omega) (by omega) dX10_count_170 (fun v47 hv47 hsv47 => ?_)
          obtain ⟨z48, rfl, hz48⟩ := tf_v0 hv47
          exact tf_reti (z := z48) hx hb hr hlocks hQ hW (show (-2147483648) ≤ (z48) ∧ (z48) ≤ 2147483647 by omega) dX10_count_171
        · refine tf_tableIn (tgt := 172) hx hb dX10_count_39 h3 (by decide) (by decide) (by decide) rfl (by decide) ?_
          refine lv_aload_n hx hb dX10_count_172 rfl (lv_at hl 0 rfl) ?_
          refine tf_get hx hb hts inlX10 hown hK (ci := 10) rfl hW ha0 rfl 2 rfl (by decide) (hts _ fl_X10_7) dX10_count_173 (fun v49 hv49 hsv49 => ?_)
          obtain ⟨ad50, rfl, had50⟩ := tf_v1 hv49
          refine tf_bipush hx hb dX10_count_176 (by decide) ?_
          refine tf_iald (t0 := 0) hx hb hK hW had50 rfl rfl (by omega) (by omega) dX10_count_178 (fun v51 hv51 hsv51 => ?_)
          obtain ⟨z52, rfl, hz52⟩ := tf_v0 hv51
          exact tf_reti (z := z52) hx hb hr hlocks hQ hW (show (-2147483648) ≤ (z52) ∧ (z52) ≤ 2147483647 by omega) dX10_count_179
        · refine tf_tableIn (tgt := 180) hx hb dX10_count_39 h3 (by decide) (by decide) (by decide) rfl (by decide) ?_
          refine lv_aload_n hx hb dX10_count_180 rfl (lv_at hl 0 rfl) ?_
          refine tf_get hx hb hts inlX10 hown hK (ci := 10) rfl hW ha0 rfl 3 rfl (by decide) (hts _ fl_X10_13) dX10_count_181 (fun v53 hv53 hsv53 => ?_)
          obtain ⟨ad54, rfl, had54⟩ := tf_v1 hv53
          refine tf_iconst hx hb dX10_count_184 ?_
          refine tf_iald (t0 := 0) hx hb hK hW had54 rfl rfl (by omega) (by omega) dX10_count_185 (fun v55 hv55 hsv55 => ?_)
          obtain ⟨z56, rfl, hz56⟩ := tf_v0 hv55
          have hg57 := tf_rd2 (tf_ROof hW had54) hsv55 ⟨by omega, by omega⟩ (by omega)
          exact tf_reti (z := z56) hx hb hr hlocks hQ hW (show (-2147483648) ≤ (z56) ∧ (z56) ≤ 2147483647 by omega) dX10_count_186
        · refine tf_tableOut (tgt := 187) hx hb dX10_count_39 ⟨by omega, by omega⟩ (by omega) (by decide) ?_
          refine tf_iconst hx hb dX10_count_187 ?_
          exact tf_reti (z := (-1)) hx hb hr hlocks hQ hW (show (-2147483648) ≤ ((-1)) ∧ ((-1)) ≤ 2147483647 by omega) dX10_count_188
        · refine tf_tableOut (tgt := 187) hx hb dX10_count_39 ⟨by omega, by omega⟩ (by omega) (by decide) ?_
          refine tf_iconst hx hb dX10_count_187 ?_
          exact tf_reti (z := (-1)) hx hb hr hlocks hQ hW (show (-2147483648) ≤ ((-1)) ∧ ((-1)) ≤ 2147483647 by omega) dX10_count_188
      · refine lv_iload_n hx hb dX10_count_15 rfl (lv_at hl 2 rfl) ?_
        refine lv_aload_n hx hb dX10_count_16 rfl (lv_at hl 0 rfl) ?_
        refine lv_iload_n hx hb dX10_count_17 rfl (lv_at hl 3 rfl) ?_
        refine tf_calli (va_runV (As := [.int (Int32.ofInt x3_9)]) (rest := [.int (Int32.ofInt x2_9)]) ⟨hx, hb, hml, hown, hts⟩ (c_X10_towerOn l g T a0 ha0 (x3_9) ⟨by omega, by omega⟩) (cwV 1 hts gv_X10_136 rfl rfl rfl hd_X10_towerOn ⟨Nat.le_trans (by decide) hR1, Nat.le_trans (by decide) hR2⟩) (tf_preV hk hW ha0 (ci := 10) rfl rfl trivial) rfl rfl hl.1 rfl (lv_room (Nat.le_of_ble_eq_true rfl)) dX10_count_18 ⟨Nat.zero_le _, Nat.zero_le _⟩) hW (by decide) (fun z58 H58 locs58 hW hF58 hp58 => ?_)
        obtain ⟨hp58_0, hp58_1⟩ := hp58
        refine tf_iconst hx hb dX10_count_21 ?_
        refine tf_icmp_ne (tgt := 29) hx hb ⟨by omega, by omega⟩ ⟨by decide, by decide⟩ dX10_count_22 (by decide) (fun h59 => ?_) (fun h59 => ?_)
        · refine tf_iconst hx hb dX10_count_29 ?_
          exact j_30 ⟨by omega, by omega⟩ ⟨by omega, by omega⟩ ⟨by omega, by omega⟩ (0) ⟨by omega, by omega⟩ _ _ hW  _ (lv_sub hl [0, 1, 3] rfl)
        · refine tf_iconst hx hb dX10_count_25 ?_
          refine lv_goto (tgt := 30) hx hb dX10_count_26 (by decide) ?_
          exact j_30 ⟨by omega, by omega⟩ ⟨by omega, by omega⟩ ⟨by omega, by omega⟩ (1) ⟨by omega, by omega⟩ _ _ hW  _ (lv_sub hl [0, 1, 3] rfl)
  refine tf_enter (As := [.ref a0, .int (Int32.ofInt x1)]) hargs (Nat.le_of_ble_eq_true rfl) (fun ls hl => ?_)
  have hl : lv_has ls 4 [(0, .ref a0), (1, .int (Int32.ofInt x1))] := hl
  refine lv_aload_n hx hb dX10_count_0 rfl (lv_at hl 0 rfl) ?_
  refine tf_iconst hx hb dX10_count_1 ?_
  refine tf_put hx hb hts inlX10 tyX10 tyX10_ok nmX10 hown hK (ci := 10) rfl hW ha0 rfl rfl 0 rfl (by decide) (by decide) (hts _ fl_X10_103) rfl (tf_u0 (by omega) (by omega)) rfl rfl dX10_count_2 (fun H60 locs60 hW hs60 ht60 hq60 => ?_)
  refine tf_iconst hx hb dX10_count_5 ?_
  refine lv_istore_n (lv' := [(2, .int (Int32.ofInt 0)), (0, .ref a0), (1, .int (Int32.ofInt x1))]) hx hb dX10_count_6 rfl hl (by decide) rfl (fun ls hl => ?_)
  refine tf_iconst hx hb dX10_count_7 ?_
  refine lv_istore_n (lv' := [(3, .int (Int32.ofInt 0)), (2, .int (Int32.ofInt 0)), (0, .ref a0), (1, .int (Int32.ofInt x1))]) hx hb dX10_count_8 rfl hl (by decide) rfl (fun ls hl => ?_)
  exact j_9 ((100 - 0 + 1 : Int)).toNat ⟨by omega, by omega⟩ (0) ⟨by omega, by omega⟩ (0) ⟨by omega, by omega⟩ (by omega) _ _ hW  _ (lv_sub hl [2, 3, 1, 0] rfl)

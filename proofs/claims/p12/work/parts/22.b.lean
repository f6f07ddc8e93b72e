
abbrev M_X10_lay : List (Nat × Nat) := [(40, 0), (41, 0), (42, 0), (43, 0), (44, 0)]
set_option maxHeartbeats 4000000 in
set_option maxRecDepth 100000 in
theorem c_X10_lay (l : Launch) (g : tf_G) (T : tf_T) (a0 : Nat) (ha0 : T a0 = some (50, 0)) (x1 : Int) (hp1 : (-2147483648) ≤ x1 ∧ x1 ≤ 2147483647) : Met l yX10_lay (cd_X10_lay :: wsL_law) ({ frames := 4, cells := 0, slots := 0, locals := 96 }) (tf_P g T [.ref a0, .int (Int32.ofInt x1)] (fun H => True)) (tf_Qv g M_X10_lay T (fun _ H => True)) 0 0 (fun q => tf_B g ≤ q) := by
  refine Met.ofW (cc := cX10_lay) (maxL := 4) (ret := none) (by decide) rfl ?_
  intro p e s m args below meth c s₁ B hml hv
  obtain ⟨hargs, hk, hW0, hB, hpre⟩ := hv
  have hx := B.exec
  have hb := B.bytes
  have hr := B.returns
  have hts : ∀ w ∈ wsL_law, w.before args s = true := fun w h => atoms_spec (ws := cd_X10_lay :: wsL_law) B.pre w (List.mem_cons_of_mem _ h)
  have hown : s.vm.findClass RX10 = some m.cls := findClass_of_methodNamed B.named
  have hlocks := B.notSynchronized
  have hK := hk.1
  have hW := tf_n.start (M := M_X10_lay) hW0 hB
  obtain ⟨Q, hQ⟩ : ∃ q, q = MQ below (tf_Qv g M_X10_lay T (fun _ H => True)) args s 0 0 (fun q => tf_B g ≤ q) := ⟨_, rfl⟩
  rw [← hQ]
  obtain ⟨R, hR⟩ : ∃ q, q = (headSpec (cd_X10_lay :: wsL_law) ({ frames := 4, cells := 0, slots := 0, locals := 96 })).room := ⟨_, rfl⟩
  rw [← hR]
  have hR1 : 4 ≤ R.frames := by rw [hR]; exact Nat.le_refl _
  have hR2 : 96 ≤ R.locals := by rw [hR]; exact Nat.le_refl _
  have hR3 : 0 ≤ R.cells := by rw [hR]; exact Nat.le_refl _
  have hR4 : 0 ≤ R.slots := by rw [hR]; exact Nat.le_refl _
  have hin := (name_of_methodNamed B.named B.method).1
  clear hR B
  have j_102 : ∀ (n_102 : Nat), ∀ (x2_102 : Int), 0 ≤ x2_102 ∧ x2_102 ≤ 6 → (6 - x2_102 + 1 ≤ (n_102 : Int)) → ∀ (H : Heap) (locs : List Loc), tf_n tf_kt g M_X10_lay T s.heap T H locs → ∀ (ls : Array Slot), lv_has ls 4 [(0, .ref a0), (2, .int (Int32.ofInt x2_102))] → W p l e R s m args below meth c H locs 0 0 Q (F0 m 102 ls []) := by
    intro n_102
    induction n_102 with
    | zero =>
      intro x2_102 hx2_102 hm_102
      exfalso; omega
    | succ n_102 ih_102 =>
      intro x2_102 hx2_102 hm_102 H locs hW  ls hl
      refine lv_iload_n hx hb dX10_lay_102 rfl (lv_at hl 1 rfl) ?_
      refine lv_aload_n hx hb dX10_lay_103 rfl (lv_at hl 0 rfl) ?_
      refine tf_get hx hb hts inlX10 hown hK (ci := 10) rfl hW ha0 rfl 3 rfl (by decide) (hts _ fl_X10_13) dX10_lay_104 (fun v1 hv1 hsv1 => ?_)
      obtain ⟨ad2, rfl, had2⟩ := tf_v1 hv1
      refine tf_iconst hx hb dX10_lay_107 ?_
      refine tf_iald (t0 := 0) hx hb hK hW had2 rfl rfl (by omega) (by omega) dX10_lay_108 (fun v3 hv3 hsv3 => ?_)
      obtain ⟨z4, rfl, hz4⟩ := tf_v0 hv3
      have hg5 := tf_rd0 (tf_ROof hW had2) hsv3 ⟨by omega, by omega⟩ (by omega)
      refine tf_icmp_ge (tgt := 130) hx hb ⟨by omega, by omega⟩ ⟨by omega, by omega⟩ dX10_lay_109 (by decide) (fun h6 => ?_) (fun h6 => ?_)
      · exact tf_retv hx hb hr hlocks hQ hW trivial dX10_lay_130
      · refine lv_aload_n hx hb dX10_lay_112 rfl (lv_at hl 0 rfl) ?_
        refine tf_get hx hb hts inlX10 hown hK (ci := 10) rfl hW ha0 rfl 36 rfl (by decide) (hts _ fl_X10_85) dX10_lay_113 (fun v7 hv7 hsv7 => ?_)
        obtain ⟨ad8, rfl, had8⟩ := tf_v1 hv7
        refine lv_iload_n hx hb dX10_lay_116 rfl (lv_at hl 1 rfl) ?_
        refine lv_aload_n hx hb dX10_lay_117 rfl (lv_at hl 0 rfl) ?_
        refine lv_iload_n hx hb dX10_lay_118 rfl (lv_at hl 1 rfl) ?_
        refine tf_iconst hx hb dX10_lay_119 ?_
        refine tf_calli (va_runV (As := [.int (Int32.ofInt x2_102), .int (Int32.ofInt 4)]) (rest := [.int (Int32.ofInt x2_102), .ref ad8]) ⟨hx, hb, hml, hown, hts⟩ (c_X10_ofTower l g T a0 ha0 (x2_102) ⟨by omega, by omega⟩ (4) ⟨by omega, by omega⟩) (cwV 2 hts gv_X10_124 rfl rfl rfl hd_X10_ofTower ⟨Nat.le_trans (by decide) hR1, Nat.le_trans (by decide) hR2⟩) (tf_preV hk hW ha0 (ci := 10) rfl rfl trivial) rfl rfl hl.1 rfl (lv_room (Nat.le_of_ble_eq_true rfl)) dX10_lay_120 ⟨Nat.zero_le _, Nat.zero_le _⟩) hW (by decide) (fun z9 H9 locs9 hW hF9 hp9 => ?_)
        obtain ⟨hp9_0, hp9_1⟩ := hp9
        refine tf_iast (t0 := 0) hx hb hK hW had8 rfl rfl (by omega) (by omega) (by decide) (tf_u0 (by omega) (by omega)) dX10_lay_123 (fun H10 locs10 hW hs10 ht10 hq10 => ?_)
        refine lv_iinc (v := Int32.ofInt ((x2_102 + 1))) (lv' := [(2, .int (Int32.ofInt ((x2_102 + 1)))), (0, .ref a0)]) hx hb dX10_lay_124 hl (k := 1) rfl (Int32.ofInt_add _ _).symm (by decide) rfl (fun ls hl => ?_)
        refine lv_goto (tgt := 102) hx hb dX10_lay_127 (by decide) ?_
        exact ih_102 ((x2_102 + 1)) ⟨by omega, by omega⟩ (by omega) _ _ hW  _ (lv_sub hl [1, 0] rfl)
  have j_2 : ∀ (n_2 : Nat), (-2147483648) ≤ x1 ∧ x1 ≤ 2147483647 → ∀ (x2_2 : Int), 0 ≤ x2_2 ∧ x2_2 ≤ 100 → (100 - x2_2 + 1 ≤ (n_2 : Int)) → ∀ (H : Heap) (locs : List Loc), tf_n tf_kt g M_X10_lay T s.heap T H locs → ∀ (ls : Array Slot), lv_has ls 4 [(0, .ref a0), (1, .int (Int32.ofInt x1)), (2, .int (Int32.ofInt x2_2))] → W p l e R s m args below meth c H locs 0 0 Q (F0 m 2 ls []) := by
    intro n_2
    induction n_2 with
    | zero =>
      intro hx1_2 x2_2 hx2_2 hm_2
      exfalso; omega
    | succ n_2 ih_2 =>
      intro hx1_2 x2_2 hx2_2 hm_2 H locs hW  ls hl
      have j_46 : (-2147483648) ≤ x1 ∧ x1 ≤ 2147483647 → 0 ≤ x2_2 ∧ x2_2 ≤ 99 → ∀ (b0_46 : Nat), T b0_46 = some (40, 100) → 0 ≤ x2_2 ∧ x2_2 ≤ 99 → ∀ (y2_46 : Int), (-1) ≤ y2_46 ∧ y2_46 ≤ 5 → ∀ (H : Heap) (locs : List Loc), tf_n tf_kt g M_X10_lay T s.heap T H locs → ∀ (ls : Array Slot), lv_has ls 4 [(0, .ref a0), (1, .int (Int32.ofInt x1)), (2, .int (Int32.ofInt x2_2))] → W p l e R s m args below meth c H locs 0 0 Q (F0 m 46 ls [.int (Int32.ofInt y2_46), .int (Int32.ofInt x2_2), .ref b0_46]) := by
        intro hx1_46 hx2_46 b0_46 hb0_46 hy1_46 y2_46 hy2_46 H locs hW  ls hl
        refine tf_iast (t0 := 0) hx hb hK hW hb0_46 rfl rfl (by omega) (by omega) (by decide) (tf_u0 (by omega) (by omega)) dX10_lay_46 (fun H11 locs11 hW hs11 ht11 hq11 => ?_)
        refine lv_aload_n hx hb dX10_lay_47 rfl (lv_at hl 0 rfl) ?_
        refine tf_get hx hb hts inlX10 hown hK (ci := 10) rfl hW ha0 rfl 33 rfl (by decide) (hts _ fl_X10_76) dX10_lay_48 (fun v12 hv12 hsv12 => ?_)
        obtain ⟨ad13, rfl, had13⟩ := tf_v1 hv12
        refine lv_iload_n hx hb dX10_lay_51 rfl (lv_at hl 2 rfl) ?_
        refine lv_aload_n hx hb dX10_lay_52 rfl (lv_at hl 0 rfl) ?_
        refine tf_get hx hb hts inlX10 hown hK (ci := 10) rfl hW ha0 rfl 3 rfl (by decide) (hts _ fl_X10_13) dX10_lay_53 (fun v14 hv14 hsv14 => ?_)
        obtain ⟨ad15, rfl, had15⟩ := tf_v1 hv14
        refine tf_bipush hx hb dX10_lay_56 (by decide) ?_
        refine lv_iload_n hx hb dX10_lay_58 rfl (lv_at hl 2 rfl) ?_
        refine tf_iadd hx hb dX10_lay_59 ?_
        refine tf_iald (t0 := 0) hx hb hK hW had15 rfl rfl (by omega) (by omega) dX10_lay_60 (fun v16 hv16 hsv16 => ?_)
        obtain ⟨z17, rfl, hz17⟩ := tf_v0 hv16
        refine tf_iast (t0 := 0) hx hb hK hW had13 rfl rfl (by omega) (by omega) (by decide) (tf_u0 (by omega) (by omega)) dX10_lay_61 (fun H18 locs18 hW hs18 ht18 hq18 => ?_)
        have hs19 := tf_keepQ hsv14 (hq18 _ (tf_ne ha0 had13 (by decide)))
        refine lv_aload_n hx hb dX10_lay_62 rfl (lv_at hl 0 rfl) ?_
        refine tf_get hx hb hts inlX10 hown hK (ci := 10) rfl hW ha0 rfl 34 rfl (by decide) (hts _ fl_X10_79) dX10_lay_63 (fun v20 hv20 hsv20 => ?_)
        obtain ⟨ad21, rfl, had21⟩ := tf_v1 hv20
        refine lv_iload_n hx hb dX10_lay_66 rfl (lv_at hl 2 rfl) ?_
        refine lv_aload_n hx hb dX10_lay_67 rfl (lv_at hl 0 rfl) ?_
        refine tf_get hx hb hts inlX10 hown hK (ci := 10) rfl hW ha0 rfl 3 rfl (by decide) (hts _ fl_X10_13) dX10_lay_68 (fun v22 hv22 hsv22 => ?_)
        obtain rfl : v22 = .ref ad15 := Option.some.inj (hsv22.symm.trans hs19)
        refine tf_sipush hx hb dX10_lay_71 (by decide) ?_
        refine lv_iload_n hx hb dX10_lay_74 rfl (lv_at hl 2 rfl) ?_
        refine tf_iadd hx hb dX10_lay_75 ?_
        refine tf_iald (t0 := 0) hx hb hK hW had15 rfl rfl (by omega) (by omega) dX10_lay_76 (fun v23 hv23 hsv23 => ?_)
        obtain ⟨z24, rfl, hz24⟩ := tf_v0 hv23
        refine tf_iast (t0 := 0) hx hb hK hW had21 rfl rfl (by omega) (by omega) (by decide) (tf_u0 (by omega) (by omega)) dX10_lay_77 (fun H25 locs25 hW hs25 ht25 hq25 => ?_)
        have hs26 := tf_keepQ hs19 (hq25 _ (tf_ne ha0 had21 (by decide)))
        refine lv_aload_n hx hb dX10_lay_78 rfl (lv_at hl 0 rfl) ?_
        refine tf_get hx hb hts inlX10 hown hK (ci := 10) rfl hW ha0 rfl 35 rfl (by decide) (hts _ fl_X10_82) dX10_lay_79 (fun v27 hv27 hsv27 => ?_)
        obtain ⟨ad28, rfl, had28⟩ := tf_v1 hv27
        refine lv_iload_n hx hb dX10_lay_82 rfl (lv_at hl 2 rfl) ?_
        refine lv_aload_n hx hb dX10_lay_83 rfl (lv_at hl 0 rfl) ?_
        refine tf_get hx hb hts inlX10 hown hK (ci := 10) rfl hW ha0 rfl 3 rfl (by decide) (hts _ fl_X10_13) dX10_lay_84 (fun v29 hv29 hsv29 => ?_)
        obtain rfl : v29 = .ref ad15 := Option.some.inj (hsv29.symm.trans hs26)
        refine tf_sipush hx hb dX10_lay_87 (by decide) ?_
        refine lv_iload_n hx hb dX10_lay_90 rfl (lv_at hl 2 rfl) ?_
        refine tf_iadd hx hb dX10_lay_91 ?_
        refine tf_iald (t0 := 0) hx hb hK hW had15 rfl rfl (by omega) (by omega) dX10_lay_92 (fun v30 hv30 hsv30 => ?_)
        obtain ⟨z31, rfl, hz31⟩ := tf_v0 hv30
        have hg32 := tf_rdU (tf_ROof hW had15) hsv30 ⟨by omega, by omega⟩ (by omega)
        refine tf_iast (t0 := 0) hx hb hK hW had28 rfl rfl (by omega) (by omega) (by decide) (tf_u0 (by omega) (by omega)) dX10_lay_93 (fun H33 locs33 hW hs33 ht33 hq33 => ?_)
        have hs34 := tf_keepQ hs26 (hq33 _ (tf_ne ha0 had28 (by decide)))
        refine lv_iinc (v := Int32.ofInt ((x2_2 + 1))) (lv' := [(2, .int (Int32.ofInt ((x2_2 + 1)))), (0, .ref a0), (1, .int (Int32.ofInt x1))]) hx hb dX10_lay_94 hl (k := 2) rfl (Int32.ofInt_add _ _).symm (by decide) rfl (fun ls hl => ?_)
        refine lv_goto (tgt := 2) hx hb dX10_lay_97 (by decide) ?_
        exact ih_2 ⟨by omega, by omega⟩ ((x2_2 + 1)) ⟨by omega, by omega⟩ (by omega) _ _ hW  _ (lv_sub hl [1, 2, 0] rfl)
      have j_45 : (-2147483648) ≤ x1 ∧ x1 ≤ 2147483647 → 0 ≤ x2_2 ∧ x2_2 ≤ 99 → ∀ (b0_45 : Nat), T b0_45 = some (40, 100) → 0 ≤ x2_2 ∧ x2_2 ≤ 99 → ∀ (H : Heap) (locs : List Loc), tf_n tf_kt g M_X10_lay T s.heap T H locs → ∀ (ls : Array Slot), lv_has ls 4 [(0, .ref a0), (1, .int (Int32.ofInt x1)), (2, .int (Int32.ofInt x2_2))] → W p l e R s m args below meth c H locs 0 0 Q (F0 m 45 ls [.int (Int32.ofInt x2_2), .ref b0_45]) := by
        intro hx1_45 hx2_45 b0_45 hb0_45 hy1_45 H locs hW  ls hl
        refine tf_iconst hx hb dX10_lay_45 ?_
        exact j_46 ⟨by omega, by omega⟩ ⟨by omega, by omega⟩ b0_45 hb0_45 ⟨by omega, by omega⟩ ((-1)) ⟨by omega, by omega⟩ _ _ hW  _ (lv_sub hl [0, 1, 2] rfl)
      have j_35 : (-2147483648) ≤ x1 ∧ x1 ≤ 2147483647 → 0 ≤ x2_2 ∧ x2_2 ≤ 99 → ∀ (x3_35 : Int), 0 ≤ x3_35 ∧ x3_35 ≤ 5 → ∀ (b0_35 : Nat), T b0_35 = some (40, 100) → 0 ≤ x2_2 ∧ x2_2 ≤ 99 → (-2147483648) ≤ x1 ∧ x1 ≤ 2147483647 → ∀ (y3_35 : Int), 0 ≤ y3_35 ∧ y3_35 ≤ 5 → ∀ (H : Heap) (locs : List Loc), tf_n tf_kt g M_X10_lay T s.heap T H locs → ∀ (ls : Array Slot), lv_has ls 4 [(0, .ref a0), (1, .int (Int32.ofInt x1)), (2, .int (Int32.ofInt x2_2)), (3, .int (Int32.ofInt x3_35))] → W p l e R s m args below meth c H locs 0 0 Q (F0 m 35 ls [.int (Int32.ofInt y3_35), .int (Int32.ofInt x1), .int (Int32.ofInt x2_2), .ref b0_35]) := by
        intro hx1_35 hx2_35 x3_35 hx3_35 b0_35 hb0_35 hy1_35 hy2_35 y3_35 hy3_35 H locs hW  ls hl
        refine tf_calli (va_runS (As := [.int (Int32.ofInt x1), .int (Int32.ofInt y3_35)]) (rest := [.int (Int32.ofInt x2_2), .ref b0_35]) ⟨hx, hb, hml, hown, hts⟩ (c_X10_is l g T (x1) ⟨by omega, by omega⟩ (y3_35) ⟨by omega, by omega⟩) ⟨callB_of 2 hts (gw_ws cm_X10_is) rfl rfl rfl (hts _ (tw1 (i := 5) rfl)) (hts _ (tw35 (i := 16) rfl)) hd_X10_is.2 ⟨Nat.le_trans (by decide) hR1, Nat.le_trans (by decide) hR2⟩, hts _ (tw35 (i := 17) rfl)⟩ (tf_preS hk hW trivial) rfl rfl hl.1 rfl (lv_room (Nat.le_of_ble_eq_true rfl)) dX10_lay_35 ⟨Nat.zero_le _, Nat.zero_le _⟩) hW (by decide) (fun z35 H35 locs35 hW hF35 hp35 => ?_)
        rcases hp35 with ⟨rfl, h36⟩ | ⟨rfl⟩
        · refine tf_if_eq (tgt := 45) hx hb ⟨by decide, by decide⟩ dX10_lay_38 (by decide) (fun h37 => ?_) (fun h37 => ?_)
          · exfalso; omega
          · refine lv_iload_n hx hb dX10_lay_41 rfl (lv_at hl 3 rfl) ?_
            refine lv_goto (tgt := 46) hx hb dX10_lay_42 (by decide) ?_
            exact j_46 ⟨by omega, by omega⟩ ⟨by omega, by omega⟩ b0_35 hb0_35 ⟨by omega, by omega⟩ (x3_35) ⟨by omega, by omega⟩ _ _ hW  _ (lv_sub hl [0, 1, 2] rfl)
        · refine tf_if_eq (tgt := 45) hx hb ⟨by decide, by decide⟩ dX10_lay_38 (by decide) (fun h38 => ?_) (fun h38 => ?_)
          · exact j_45 ⟨by omega, by omega⟩ ⟨by omega, by omega⟩ b0_35 hb0_35 ⟨by omega, by omega⟩ _ _ hW  _ (lv_sub hl [0, 1, 2] rfl)
          · exfalso; omega
      refine lv_iload_n hx hb dX10_lay_2 rfl (lv_at hl 2 rfl) ?_
      refine tf_bipush hx hb dX10_lay_3 (by decide) ?_
      refine tf_icmp_ge (tgt := 100) hx hb ⟨by omega, by omega⟩ ⟨by decide, by decide⟩ dX10_lay_5 (by decide) (fun h39 => ?_) (fun h39 => ?_)
      · refine tf_iconst hx hb dX10_lay_100 ?_
        refine lv_istore_n (lv' := [(2, .int (Int32.ofInt 0)), (0, .ref a0), (1, .int (Int32.ofInt x1))]) hx hb dX10_lay_101 rfl hl (by decide) rfl (fun ls hl => ?_)
        exact j_102 ((6 - 0 + 1 : Int)).toNat (0) ⟨by omega, by omega⟩ (by omega) _ _ hW  _ (lv_sub hl [1, 0] rfl)
      · refine lv_aload_n hx hb dX10_lay_8 rfl (lv_at hl 0 rfl) ?_
        refine lv_iload_n hx hb dX10_lay_9 rfl (lv_at hl 2 rfl) ?_
        refine tf_calli (va_runV (As := [.int (Int32.ofInt x2_2)]) (rest := []) ⟨hx, hb, hml, hown, hts⟩ (c_X10_towerOn l g T a0 ha0 (x2_2) ⟨by omega, by omega⟩) (cwV 1 hts gv_X10_136 rfl rfl rfl hd_X10_towerOn ⟨Nat.le_trans (by decide) hR1, Nat.le_trans (by decide) hR2⟩) (tf_preV hk hW ha0 (ci := 10) rfl rfl trivial) rfl rfl hl.1 rfl (lv_room (Nat.le_of_ble_eq_true rfl)) dX10_lay_10 ⟨Nat.zero_le _, Nat.zero_le _⟩) hW (by decide) (fun z40 H40 locs40 hW hF40 hp40 => ?_)
        obtain ⟨hp40_0, hp40_1⟩ := hp40
        refine lv_istore_n (lv' := [(3, .int (Int32.ofInt z40)), (0, .ref a0), (1, .int (Int32.ofInt x1)), (2, .int (Int32.ofInt x2_2))]) hx hb dX10_lay_13 rfl hl (by decide) rfl (fun ls hl => ?_)
        refine lv_aload_n hx hb dX10_lay_14 rfl (lv_at hl 1 rfl) ?_
        refine tf_get hx hb hts inlX10 hown hK (ci := 10) rfl hW ha0 rfl 32 rfl (by decide) (hts _ fl_X10_73) dX10_lay_15 (fun v41 hv41 hsv41 => ?_)
        obtain ⟨ad42, rfl, had42⟩ := tf_v1 hv41
        refine lv_iload_n hx hb dX10_lay_18 rfl (lv_at hl 3 rfl) ?_
        refine lv_iload_n hx hb dX10_lay_19 rfl (lv_at hl 0 rfl) ?_
        refine tf_iconst hx hb dX10_lay_20 ?_
        refine tf_icmp_eq (tgt := 45) hx hb ⟨by omega, by omega⟩ ⟨by decide, by decide⟩ dX10_lay_21 (by decide) (fun h43 => ?_) (fun h43 => ?_)
        · exact j_45 ⟨by omega, by omega⟩ ⟨by omega, by omega⟩ ad42 had42 ⟨by omega, by omega⟩ _ _ hW  _ (lv_sub hl [1, 2, 3] rfl)
        · refine lv_iload_n hx hb dX10_lay_24 rfl (lv_at hl 2 rfl) ?_
          refine lv_iload_n hx hb dX10_lay_25 rfl (lv_at hl 0 rfl) ?_
          refine tf_iconst hx hb dX10_lay_26 ?_
          refine tf_icmp_ne (tgt := 34) hx hb ⟨by omega, by omega⟩ ⟨by decide, by decide⟩ dX10_lay_27 (by decide) (fun h44 => ?_) (fun h44 => ?_)
          · refine lv_iload_n hx hb dX10_lay_34 rfl (lv_at hl 0 rfl) ?_
            exact j_35 ⟨by omega, by omega⟩ ⟨by omega, by omega⟩ (z40) ⟨by omega, by omega⟩ ad42 had42 ⟨by omega, by omega⟩ ⟨by omega, by omega⟩ (z40) ⟨by omega, by omega⟩ _ _ hW  _ (lv_sub hl [1, 2, 3, 0] rfl)
          · exfalso; omega
  refine tf_enter (As := [.ref a0, .int (Int32.ofInt x1)]) hargs (Nat.le_of_ble_eq_true rfl) (fun ls hl => ?_)
  have hl : lv_has ls 4 [(0, .ref a0), (1, .int (Int32.ofInt x1))] := hl
  refine tf_iconst hx hb dX10_lay_0 ?_
  refine lv_istore_n (lv' := [(2, .int (Int32.ofInt 0)), (0, .ref a0), (1, .int (Int32.ofInt x1))]) hx hb dX10_lay_1 rfl hl (by decide) rfl (fun ls hl => ?_)
  exact j_2 ((100 - 0 + 1 : Int)).toNat ⟨by omega, by omega⟩ (0) ⟨by omega, by omega⟩ (by omega) _ _ hW  _ (lv_sub hl [1, 2, 0] rfl)

abbrev M_X10_layAll : List (Nat × Nat) := [(40, 0), (41, 0), (42, 0), (43, 0), (44, 0)]
set_option maxHeartbeats 4000000 in
set_option maxRecDepth 100000 in
theorem c_X10_layAll (l : Launch) (g : tf_G) (T : tf_T) (a0 : Nat) (ha0 : T a0 = some (50, 0)) : Met l yX10_layAll (cd_X10_layAll :: wsL_law) ({ frames := 5, cells := 0, slots := 0, locals := 119 }) (tf_P g T [.ref a0] (fun H => True)) (tf_Qv g M_X10_layAll T (fun _ H => True)) 0 0 (fun q => tf_B g ≤ q) := by
  refine Met.ofW (cc := cX10_layAll) (maxL := 1) (ret := none) (by decide) rfl ?_
  intro p e s m args below meth c s₁ B hml hv
  obtain ⟨hargs, hk, hW0, hB, hpre⟩ := hv
  have hx := B.exec
  have hb := B.bytes
  have hr := B.returns
  have hts : ∀ w ∈ wsL_law, w.before args s = true := fun w h => atoms_spec (ws := cd_X10_layAll :: wsL_law) B.pre w (List.mem_cons_of_mem _ h)
  have hown : s.vm.findClass RX10 = some m.cls := findClass_of_methodNamed B.named
  have hlocks := B.notSynchronized
  have hK := hk.1
  have hW := tf_n.start (M := M_X10_layAll) hW0 hB
  obtain ⟨Q, hQ⟩ : ∃ q, q = MQ below (tf_Qv g M_X10_layAll T (fun _ H => True)) args s 0 0 (fun q => tf_B g ≤ q) := ⟨_, rfl⟩
  rw [← hQ]
  obtain ⟨R, hR⟩ : ∃ q, q = (headSpec (cd_X10_layAll :: wsL_law) ({ frames := 5, cells := 0, slots := 0, locals := 119 })).room := ⟨_, rfl⟩
  rw [← hR]
  have hR1 : 5 ≤ R.frames := by rw [hR]; exact Nat.le_refl _
  have hR2 : 119 ≤ R.locals := by rw [hR]; exact Nat.le_refl _
  have hR3 : 0 ≤ R.cells := by rw [hR]; exact Nat.le_refl _
  have hR4 : 0 ≤ R.slots := by rw [hR]; exact Nat.le_refl _
  have hin := (name_of_methodNamed B.named B.method).1
  clear hR B
  refine tf_enter (As := [.ref a0]) hargs (Nat.le_of_ble_eq_true rfl) (fun ls hl => ?_)
  have hl : lv_has ls 1 [(0, .ref a0)] := hl
  refine lv_aload_n hx hb dX10_layAll_0 rfl (lv_at hl 0 rfl) ?_
  refine tf_bipush hx hb dX10_layAll_1 (by decide) ?_
  refine tf_callv (va_runV (As := [.int (Int32.ofInt 63)]) (rest := []) ⟨hx, hb, hml, hown, hts⟩ (c_X10_lay l g T a0 ha0 (63) ⟨by omega, by omega⟩) (cwV 1 hts gv_X10_357 rfl rfl rfl hd_X10_lay ⟨Nat.le_trans (by decide) hR1, Nat.le_trans (by decide) hR2⟩) (tf_preV hk hW ha0 (ci := 10) rfl rfl trivial) rfl rfl hl.1 rfl (lv_room (Nat.le_of_ble_eq_true rfl)) dX10_layAll_3 ⟨Nat.zero_le _, Nat.zero_le _⟩) hW (by decide) (fun H1 locs1 hW hF1 hp1 => ?_)
  exact tf_retv hx hb hr hlocks hQ hW trivial dX10_layAll_6

abbrev M_X10_cellAt : List (Nat × Nat) := []
set_option maxHeartbeats 4000000 in
set_option maxRecDepth 100000 in
theorem c_X10_cellAt (l : Launch) (g : tf_G) (T : tf_T) (x0 : Int) (hp0 : 0 ≤ x0 ∧ x0 ≤ 99) (x1 : Int) (hp1 : (-2147483648) ≤ x1 ∧ x1 ≤ 2147483647) (x2 : Int) (hp2 : (-2147483648) ≤ x2 ∧ x2 ≤ 2147483647) : Met l yX10_cellAt (cd_X10_cellAt :: wsL_law) ({ frames := 2, cells := 0, slots := 0, locals := 49 }) (tf_P g T [.int (Int32.ofInt x0), .int (Int32.ofInt x1), .int (Int32.ofInt x2)] (fun H => True)) (tf_Qi g M_X10_cellAt T (fun z _ _ => (-1) ≤ z ∧ z ≤ 99)) 0 0 (fun q => tf_B g ≤ q) := by
  refine Met.ofW (cc := cX10_cellAt) (maxL := 5) (ret := (some .int)) (by decide) rfl ?_
  intro p e s m args below meth c s₁ B hml hv
  obtain ⟨hargs, hk, hW0, hB, hpre⟩ := hv
  have hx := B.exec
  have hb := B.bytes
  have hr := B.returns
  have hts : ∀ w ∈ wsL_law, w.before args s = true := fun w h => atoms_spec (ws := cd_X10_cellAt :: wsL_law) B.pre w (List.mem_cons_of_mem _ h)
  have hown : s.vm.findClass RX10 = some m.cls := findClass_of_methodNamed B.named
  have hlocks := B.notSynchronized
  have hK := hk.1
  have hW := tf_n.start (M := M_X10_cellAt) hW0 hB
  obtain ⟨Q, hQ⟩ : ∃ q, q = MQ below (tf_Qi g M_X10_cellAt T (fun z _ _ => (-1) ≤ z ∧ z ≤ 99)) args s 0 0 (fun q => tf_B g ≤ q) := ⟨_, rfl⟩
  rw [← hQ]
  obtain ⟨R, hR⟩ : ∃ q, q = (headSpec (cd_X10_cellAt :: wsL_law) ({ frames := 2, cells := 0, slots := 0, locals := 49 })).room := ⟨_, rfl⟩
  rw [← hR]
  have hR1 : 2 ≤ R.frames := by rw [hR]; exact Nat.le_refl _
  have hR2 : 49 ≤ R.locals := by rw [hR]; exact Nat.le_refl _
  have hR3 : 0 ≤ R.cells := by rw [hR]; exact Nat.le_refl _
  have hR4 : 0 ≤ R.slots := by rw [hR]; exact Nat.le_refl _
  have hin := (name_of_methodNamed B.named B.method).1
  clear hR B
  refine tf_enter (As := [.int (Int32.ofInt x0), .int (Int32.ofInt x1), .int (Int32.ofInt x2)]) hargs (Nat.le_of_ble_eq_true rfl) (fun ls hl => ?_)
  have hl : lv_has ls 5 [(0, .int (Int32.ofInt x0)), (1, .int (Int32.ofInt x1)), (2, .int (Int32.ofInt x2))] := hl
  refine lv_iload_n hx hb dX10_cellAt_0 rfl (lv_at hl 0 rfl) ?_
  refine tf_bipush hx hb dX10_cellAt_1 (by decide) ?_
  refine tf_irem hx hb ⟨by omega, by omega⟩ (by omega) ⟨by decide, by decide⟩ (by decide) dX10_cellAt_3 ?_
  refine tf_name (fun z1 ez1 => ?_)
  refine lv_iload_n hx hb dX10_cellAt_4 rfl (lv_at hl 1 rfl) ?_
  refine tf_iadd_any hx hb dX10_cellAt_5 (fun z2 hz2 => ?_)
  refine lv_istore_n (lv' := [(3, .int (Int32.ofInt z2)), (0, .int (Int32.ofInt x0)), (1, .int (Int32.ofInt x1)), (2, .int (Int32.ofInt x2))]) hx hb dX10_cellAt_6 rfl hl (by decide) rfl (fun ls hl => ?_)
  refine lv_iload_n hx hb dX10_cellAt_7 rfl (lv_at hl 1 rfl) ?_
  refine tf_bipush hx hb dX10_cellAt_8 (by decide) ?_
  refine tf_idiv hx hb ⟨by omega, by omega⟩ (by omega) ⟨by decide, by decide⟩ (by decide) dX10_cellAt_10 ?_
  refine tf_name (fun z3 ez3 => ?_)
  refine lv_iload_n hx hb dX10_cellAt_11 rfl (lv_at hl 3 rfl) ?_
  refine tf_iadd_any hx hb dX10_cellAt_12 (fun z4 hz4 => ?_)
  refine lv_istore (lv' := [(4, .int (Int32.ofInt z4)), (3, .int (Int32.ofInt z2)), (0, .int (Int32.ofInt x0)), (1, .int (Int32.ofInt x1)), (2, .int (Int32.ofInt x2))]) hx hb dX10_cellAt_13 hl (by decide) rfl (fun ls hl => ?_)
  refine lv_iload_n hx hb dX10_cellAt_15 rfl (lv_at hl 1 rfl) ?_
  refine tf_i2l hx hb ⟨by omega, by omega⟩ dX10_cellAt_16 ?_
  refine tf_lconst (z := 0) hx hb dX10_cellAt_17 (by decide) ?_
  refine tf_ldc2 (z := 9) hx hb hown (hts _ kl_X10_142) (by decide) dX10_cellAt_18 ?_
  refine tf_calli (va_runS (As := [.long (Int64.ofInt z2), .long (Int64.ofInt 0), .long (Int64.ofInt 9)]) (rest := []) ⟨hx, hb, hml, hown, hts⟩ (c_X10_in l g T (z2) ⟨by omega, by omega⟩ (0) ⟨by omega, by omega⟩ (9) ⟨by omega, by omega⟩) ⟨callB_of 3 hts (gw_ws cm_X10_in) rfl rfl rfl (hts _ (tw1 (i := 5) rfl)) (hts _ (tw11 (i := 3) rfl)) hd_X10_in.2 ⟨Nat.le_trans (by decide) hR1, Nat.le_trans (by decide) hR2⟩, hts _ (tw11 (i := 4) rfl)⟩ (tf_preS hk hW trivial) rfl rfl hl.1 rfl (lv_room (Nat.le_of_ble_eq_true rfl)) dX10_cellAt_21 ⟨Nat.zero_le _, Nat.zero_le _⟩) hW (by decide) (fun z5 H5 locs5 hW hF5 hp5 => ?_)
  rcases hp5 with ⟨rfl, h6, h7⟩ | ⟨rfl, h8⟩
  · refine tf_if_eq (tgt := 50) hx hb ⟨by decide, by decide⟩ dX10_cellAt_24 (by decide) (fun h9 => ?_) (fun h9 => ?_)
    · exfalso; omega
    · refine lv_iload hx hb dX10_cellAt_27 (lv_at hl 0 rfl) ?_
      refine tf_i2l hx hb ⟨by omega, by omega⟩ dX10_cellAt_29 ?_
      refine tf_lconst (z := 0) hx hb dX10_cellAt_30 (by decide) ?_
      refine tf_ldc2 (z := 9) hx hb hown (hts _ kl_X10_142) (by decide) dX10_cellAt_31 ?_
      refine tf_calli (va_runS (As := [.long (Int64.ofInt z4), .long (Int64.ofInt 0), .long (Int64.ofInt 9)]) (rest := []) ⟨hx, hb, hml, hown, hts⟩ (c_X10_in l g T (z4) ⟨by omega, by omega⟩ (0) ⟨by omega, by omega⟩ (9) ⟨by omega, by omega⟩) ⟨callB_of 3 hts (gw_ws cm_X10_in) rfl rfl rfl (hts _ (tw1 (i := 5) rfl)) (hts _ (tw11 (i := 3) rfl)) hd_X10_in.2 ⟨Nat.le_trans (by decide) hR1, Nat.le_trans (by decide) hR2⟩, hts _ (tw11 (i := 4) rfl)⟩ (tf_preS hk hW trivial) rfl rfl hl.1 rfl (lv_room (Nat.le_of_ble_eq_true rfl)) dX10_cellAt_34 ⟨Nat.zero_le _, Nat.zero_le _⟩) hW (by decide) (fun z10 H10 locs10 hW hF10 hp10 => ?_)
      rcases hp10 with ⟨rfl, h11, h12⟩ | ⟨rfl, h13⟩
      · refine tf_if_eq (tgt := 50) hx hb ⟨by decide, by decide⟩ dX10_cellAt_37 (by decide) (fun h14 => ?_) (fun h14 => ?_)
        · exfalso; omega
        · refine tf_bipush hx hb dX10_cellAt_40 (by decide) ?_
          refine lv_iload hx hb dX10_cellAt_42 (lv_at hl 0 rfl) ?_
          refine tf_imul hx hb dX10_cellAt_44 ?_
          refine lv_iload_n hx hb dX10_cellAt_45 rfl (lv_at hl 1 rfl) ?_
          refine tf_iadd hx hb dX10_cellAt_46 ?_
          refine lv_goto (tgt := 51) hx hb dX10_cellAt_47 (by decide) ?_
          exact tf_reti (z := ((10 * z4) + z2)) hx hb hr hlocks hQ hW (show (-1) ≤ (((10 * z4) + z2)) ∧ (((10 * z4) + z2)) ≤ 99 by omega) dX10_cellAt_51
      · refine tf_if_eq (tgt := 50) hx hb ⟨by decide, by decide⟩ dX10_cellAt_37 (by decide) (fun h15 => ?_) (fun h15 => ?_)
        · refine tf_iconst hx hb dX10_cellAt_50 ?_
          exact tf_reti (z := (-1)) hx hb hr hlocks hQ hW (show (-1) ≤ ((-1)) ∧ ((-1)) ≤ 99 by omega) dX10_cellAt_51
        · exfalso; omega
  · refine tf_if_eq (tgt := 50) hx hb ⟨by decide, by decide⟩ dX10_cellAt_24 (by decide) (fun h16 => ?_) (fun h16 => ?_)
    · refine tf_iconst hx hb dX10_cellAt_50 ?_
      exact tf_reti (z := (-1)) hx hb hr hlocks hQ hW (show (-1) ≤ ((-1)) ∧ ((-1)) ≤ 99 by omega) dX10_cellAt_51
    · exfalso; omega

abbrev M_X10_upX : List (Nat × Nat) := []
set_option maxHeartbeats 4000000 in
set_option maxRecDepth 100000 in
theorem c_X10_upX (l : Launch) (g : tf_G) (T : tf_T) (x0 : Int) (hp0 : (-2147483648) ≤ x0 ∧ x0 ≤ 2147483647) : Met l yX10_upX (cd_X10_upX :: wsL_law) ({ frames := 1, cells := 0, slots := 0, locals := 24 }) (tf_P g T [.int (Int32.ofInt x0)] (fun H => True)) (tf_Qi g M_X10_upX T (fun z _ _ => (-1) ≤ z ∧ z ≤ 1)) 0 0 (fun q => tf_B g ≤ q) := by
  refine Met.ofW (cc := cX10_upX) (maxL := 1) (ret := (some .int)) (by decide) rfl ?_
  intro p e s m args below meth c s₁ B hml hv
  obtain ⟨hargs, hk, hW0, hB, hpre⟩ := hv
  have hx := B.exec
  have hb := B.bytes
  have hr := B.returns
  have hts : ∀ w ∈ wsL_law, w.before args s = true := fun w h => atoms_spec (ws := cd_X10_upX :: wsL_law) B.pre w (List.mem_cons_of_mem _ h)
  have hown : s.vm.findClass RX10 = some m.cls := findClass_of_methodNamed B.named
  have hlocks := B.notSynchronized
  have hK := hk.1
  have hW := tf_n.start (M := M_X10_upX) hW0 hB
  obtain ⟨Q, hQ⟩ : ∃ q, q = MQ below (tf_Qi g M_X10_upX T (fun z _ _ => (-1) ≤ z ∧ z ≤ 1)) args s 0 0 (fun q => tf_B g ≤ q) := ⟨_, rfl⟩
  rw [← hQ]
  obtain ⟨R, hR⟩ : ∃ q, q = (headSpec (cd_X10_upX :: wsL_law) ({ frames := 1, cells := 0, slots := 0, locals := 24 })).room := ⟨_, rfl⟩
  rw [← hR]
  have hR1 : 1 ≤ R.frames := by rw [hR]; exact Nat.le_refl _
  have hR2 : 24 ≤ R.locals := by rw [hR]; exact Nat.le_refl _
  have hR3 : 0 ≤ R.cells := by rw [hR]; exact Nat.le_refl _
  have hR4 : 0 ≤ R.slots := by rw [hR]; exact Nat.le_refl _
  have hin := (name_of_methodNamed B.named B.method).1
  clear hR B
  refine tf_enter (As := [.int (Int32.ofInt x0)]) hargs (Nat.le_of_ble_eq_true rfl) (fun ls hl => ?_)
  have hl : lv_has ls 1 [(0, .int (Int32.ofInt x0))] := hl
  refine lv_iload_n hx hb dX10_upX_0 rfl (lv_at hl 0 rfl) ?_
  refine tf_iconst hx hb dX10_upX_1 ?_
  refine tf_icmp_ne (tgt := 9) hx hb ⟨by omega, by omega⟩ ⟨by decide, by decide⟩ dX10_upX_2 (by decide) (fun h1 => ?_) (fun h1 => ?_)
  · refine lv_iload_n hx hb dX10_upX_9 rfl (lv_at hl 0 rfl) ?_
    refine tf_iconst hx hb dX10_upX_10 ?_
    refine tf_icmp_ne (tgt := 18) hx hb ⟨by omega, by omega⟩ ⟨by decide, by decide⟩ dX10_upX_11 (by decide) (fun h2 => ?_) (fun h2 => ?_)
    · refine tf_iconst hx hb dX10_upX_18 ?_
      exact tf_reti (z := 0) hx hb hr hlocks hQ hW (show (-1) ≤ (0) ∧ (0) ≤ 1 by omega) dX10_upX_19
    · refine tf_iconst hx hb dX10_upX_14 ?_
      refine lv_goto (tgt := 19) hx hb dX10_upX_15 (by decide) ?_
      exact tf_reti (z := (-1)) hx hb hr hlocks hQ hW (show (-1) ≤ ((-1)) ∧ ((-1)) ≤ 1 by omega) dX10_upX_19
  · refine tf_iconst hx hb dX10_upX_5 ?_
    refine lv_goto (tgt := 19) hx hb dX10_upX_6 (by decide) ?_
    exact tf_reti (z := 1) hx hb hr hlocks hQ hW (show (-1) ≤ (1) ∧ (1) ≤ 1 by omega) dX10_upX_19

abbrev M_X10_upY : List (Nat × Nat) := []
set_option maxHeartbeats 4000000 in
set_option maxRecDepth 100000 in
theorem c_X10_upY (l : Launch) (g : tf_G) (T : tf_T) (x0 : Int) (hp0 : (-2147483648) ≤ x0 ∧ x0 ≤ 2147483647) : Met l yX10_upY (cd_X10_upY :: wsL_law) ({ frames := 1, cells := 0, slots := 0, locals := 24 }) (tf_P g T [.int (Int32.ofInt x0)] (fun H => True)) (tf_Qi g M_X10_upY T (fun z _ _ => (-1) ≤ z ∧ z ≤ 1)) 0 0 (fun q => tf_B g ≤ q) := by
  refine Met.ofW (cc := cX10_upY) (maxL := 1) (ret := (some .int)) (by decide) rfl ?_
  intro p e s m args below meth c s₁ B hml hv
  obtain ⟨hargs, hk, hW0, hB, hpre⟩ := hv
  have hx := B.exec
  have hb := B.bytes
  have hr := B.returns
  have hts : ∀ w ∈ wsL_law, w.before args s = true := fun w h => atoms_spec (ws := cd_X10_upY :: wsL_law) B.pre w (List.mem_cons_of_mem _ h)
  have hown : s.vm.findClass RX10 = some m.cls := findClass_of_methodNamed B.named
  have hlocks := B.notSynchronized
  have hK := hk.1
  have hW := tf_n.start (M := M_X10_upY) hW0 hB
  obtain ⟨Q, hQ⟩ : ∃ q, q = MQ below (tf_Qi g M_X10_upY T (fun z _ _ => (-1) ≤ z ∧ z ≤ 1)) args s 0 0 (fun q => tf_B g ≤ q) := ⟨_, rfl⟩
  rw [← hQ]
  obtain ⟨R, hR⟩ : ∃ q, q = (headSpec (cd_X10_upY :: wsL_law) ({ frames := 1, cells := 0, slots := 0, locals := 24 })).room := ⟨_, rfl⟩
  rw [← hR]
  have hR1 : 1 ≤ R.frames := by rw [hR]; exact Nat.le_refl _
  have hR2 : 24 ≤ R.locals := by rw [hR]; exact Nat.le_refl _
  have hR3 : 0 ≤ R.cells := by rw [hR]; exact Nat.le_refl _
  have hR4 : 0 ≤ R.slots := by rw [hR]; exact Nat.le_refl _
  have hin := (name_of_methodNamed B.named B.method).1
  clear hR B
  refine tf_enter (As := [.int (Int32.ofInt x0)]) hargs (Nat.le_of_ble_eq_true rfl) (fun ls hl => ?_)
  have hl : lv_has ls 1 [(0, .int (Int32.ofInt x0))] := hl
  refine lv_iload_n hx hb dX10_upY_0 rfl (lv_at hl 0 rfl) ?_
  refine tf_if_ne (tgt := 8) hx hb ⟨by omega, by omega⟩ dX10_upY_1 (by decide) (fun h1 => ?_) (fun h1 => ?_)
  · refine lv_iload_n hx hb dX10_upY_8 rfl (lv_at hl 0 rfl) ?_
    refine tf_iconst hx hb dX10_upY_9 ?_
    refine tf_icmp_ne (tgt := 17) hx hb ⟨by omega, by omega⟩ ⟨by decide, by decide⟩ dX10_upY_10 (by decide) (fun h2 => ?_) (fun h2 => ?_)
    · refine tf_iconst hx hb dX10_upY_17 ?_
      exact tf_reti (z := 0) hx hb hr hlocks hQ hW (show (-1) ≤ (0) ∧ (0) ≤ 1 by omega) dX10_upY_18
    · refine tf_iconst hx hb dX10_upY_13 ?_
      refine lv_goto (tgt := 18) hx hb dX10_upY_14 (by decide) ?_
      exact tf_reti (z := 1) hx hb hr hlocks hQ hW (show (-1) ≤ (1) ∧ (1) ≤ 1 by omega) dX10_upY_18
  · refine tf_iconst hx hb dX10_upY_4 ?_
    refine lv_goto (tgt := 18) hx hb dX10_upY_5 (by decide) ?_
    exact tf_reti (z := (-1)) hx hb hr hlocks hQ hW (show (-1) ≤ ((-1)) ∧ ((-1)) ≤ 1 by omega) dX10_upY_18

abbrev M_X10_upFrom : List (Nat × Nat) := []
set_option maxHeartbeats 4000000 in
set_option maxRecDepth 100000 in
theorem c_X10_upFrom (l : Launch) (g : tf_G) (T : tf_T) (x0 : Int) (hp0 : (-1) ≤ x0 ∧ x0 ≤ 99) (x1 : Int) (hp1 : (-2147483648) ≤ x1 ∧ x1 ≤ 2147483647) (x2 : Int) (hp2 : (-2147483648) ≤ x2 ∧ x2 ≤ 2147483647) : Met l yX10_upFrom (cd_X10_upFrom :: wsL_law) ({ frames := 3, cells := 0, slots := 0, locals := 73 }) (tf_P g T [.int (Int32.ofInt x0), .int (Int32.ofInt x1), .int (Int32.ofInt x2)] (fun H => True)) (tf_Qi g M_X10_upFrom T (fun z _ _ => (-1) ≤ z ∧ z ≤ 99)) 0 0 (fun q => tf_B g ≤ q) := by
  refine Met.ofW (cc := cX10_upFrom) (maxL := 3) (ret := (some .int)) (by decide) rfl ?_
  intro p e s m args below meth c s₁ B hml hv
  obtain ⟨hargs, hk, hW0, hB, hpre⟩ := hv
  have hx := B.exec
  have hb := B.bytes
  have hr := B.returns
  have hts : ∀ w ∈ wsL_law, w.before args s = true := fun w h => atoms_spec (ws := cd_X10_upFrom :: wsL_law) B.pre w (List.mem_cons_of_mem _ h)
  have hown : s.vm.findClass RX10 = some m.cls := findClass_of_methodNamed B.named
  have hlocks := B.notSynchronized
  have hK := hk.1
  have hW := tf_n.start (M := M_X10_upFrom) hW0 hB
  obtain ⟨Q, hQ⟩ : ∃ q, q = MQ below (tf_Qi g M_X10_upFrom T (fun z _ _ => (-1) ≤ z ∧ z ≤ 99)) args s 0 0 (fun q => tf_B g ≤ q) := ⟨_, rfl⟩
  rw [← hQ]
  obtain ⟨R, hR⟩ : ∃ q, q = (headSpec (cd_X10_upFrom :: wsL_law) ({ frames := 3, cells := 0, slots := 0, locals := 73 })).room := ⟨_, rfl⟩
  rw [← hR]
  have hR1 : 3 ≤ R.frames := by rw [hR]; exact Nat.le_refl _
  have hR2 : 73 ≤ R.locals := by rw [hR]; exact Nat.le_refl _
  have hR3 : 0 ≤ R.cells := by rw [hR]; exact Nat.le_refl _
  have hR4 : 0 ≤ R.slots := by rw [hR]; exact Nat.le_refl _
  have hin := (name_of_methodNamed B.named B.method).1
  clear hR B
  refine tf_enter (As := [.int (Int32.ofInt x0), .int (Int32.ofInt x1), .int (Int32.ofInt x2)]) hargs (Nat.le_of_ble_eq_true rfl) (fun ls hl => ?_)
  have hl : lv_has ls 3 [(0, .int (Int32.ofInt x0)), (1, .int (Int32.ofInt x1)), (2, .int (Int32.ofInt x2))] := hl
  refine lv_iload_n hx hb dX10_upFrom_0 rfl (lv_at hl 0 rfl) ?_
  refine tf_iconst hx hb dX10_upFrom_1 ?_
  refine tf_icmp_ne (tgt := 9) hx hb ⟨by omega, by omega⟩ ⟨by decide, by decide⟩ dX10_upFrom_2 (by decide) (fun h1 => ?_) (fun h1 => ?_)
  · refine lv_iload_n hx hb dX10_upFrom_9 rfl (lv_at hl 0 rfl) ?_
    refine lv_iload_n hx hb dX10_upFrom_10 rfl (lv_at hl 2 rfl) ?_
    refine lv_iload_n hx hb dX10_upFrom_11 rfl (lv_at hl 1 rfl) ?_
    refine tf_calli (va_runS (As := [.int (Int32.ofInt x1)]) (rest := [.int (Int32.ofInt x2), .int (Int32.ofInt x0)]) ⟨hx, hb, hml, hown, hts⟩ (c_X10_upX l g T (x1) ⟨by omega, by omega⟩) ⟨callB_of 1 hts (gw_ws cm_X10_upX) rfl rfl rfl (hts _ (tw1 (i := 5) rfl)) (hts _ (tw36 (i := 8) rfl)) hd_X10_upX.2 ⟨Nat.le_trans (by decide) hR1, Nat.le_trans (by decide) hR2⟩, hts _ (tw36 (i := 9) rfl)⟩ (tf_preS hk hW trivial) rfl rfl hl.1 rfl (lv_room (Nat.le_of_ble_eq_true rfl)) dX10_upFrom_12 ⟨Nat.zero_le _, Nat.zero_le _⟩) hW (by decide) (fun z2 H2 locs2 hW hF2 hp2 => ?_)
    obtain ⟨hp2_0, hp2_1⟩ := hp2
    refine tf_imul_any hx hb dX10_upFrom_15 (fun z3 hz3 => ?_)
    refine lv_iload_n hx hb dX10_upFrom_16 rfl (lv_at hl 2 rfl) ?_
    refine lv_iload_n hx hb dX10_upFrom_17 rfl (lv_at hl 1 rfl) ?_
    refine tf_calli (va_runS (As := [.int (Int32.ofInt x1)]) (rest := [.int (Int32.ofInt x2), .int (Int32.ofInt z3), .int (Int32.ofInt x0)]) ⟨hx, hb, hml, hown, hts⟩ (c_X10_upY l g T (x1) ⟨by omega, by omega⟩) ⟨callB_of 1 hts (gw_ws cm_X10_upY) rfl rfl rfl (hts _ (tw1 (i := 5) rfl)) (hts _ (tw36 (i := 5) rfl)) hd_X10_upY.2 ⟨Nat.le_trans (by decide) hR1, Nat.le_trans (by decide) hR2⟩, hts _ (tw36 (i := 6) rfl)⟩ (tf_preS hk hW trivial) rfl rfl hl.1 rfl (lv_room (Nat.le_of_ble_eq_true rfl)) dX10_upFrom_18 ⟨Nat.zero_le _, Nat.zero_le _⟩) hW (by decide) (fun z4 H4 locs4 hW hF4 hp4 => ?_)
    obtain ⟨hp4_0, hp4_1⟩ := hp4
    refine tf_imul_any hx hb dX10_upFrom_21 (fun z5 hz5 => ?_)
    refine tf_calli (va_runS (As := [.int (Int32.ofInt x0), .int (Int32.ofInt z3), .int (Int32.ofInt z5)]) (rest := []) ⟨hx, hb, hml, hown, hts⟩ (c_X10_cellAt l g T (x0) ⟨by omega, by omega⟩ (z3) ⟨by omega, by omega⟩ (z5) ⟨by omega, by omega⟩) ⟨callB_of 3 hts (gw_ws cm_X10_cellAt) rfl rfl rfl (hts _ (tw1 (i := 5) rfl)) (hts _ (tw36 (i := 11) rfl)) hd_X10_cellAt.2 ⟨Nat.le_trans (by decide) hR1, Nat.le_trans (by decide) hR2⟩, hts _ (tw36 (i := 12) rfl)⟩ (tf_preS hk hW trivial) rfl rfl hl.1 rfl (lv_room (Nat.le_of_ble_eq_true rfl)) dX10_upFrom_22 ⟨Nat.zero_le _, Nat.zero_le _⟩) hW (by decide) (fun z6 H6 locs6 hW hF6 hp6 => ?_)
    obtain ⟨hp6_0, hp6_1⟩ := hp6
    exact tf_reti (z := z6) hx hb hr hlocks hQ hW (show (-1) ≤ (z6) ∧ (z6) ≤ 99 by omega) dX10_upFrom_25
  · refine tf_iconst hx hb dX10_upFrom_5 ?_
    refine lv_goto (tgt := 25) hx hb dX10_upFrom_6 (by decide) ?_
    exact tf_reti (z := (-1)) hx hb hr hlocks hQ hW (show (-1) ≤ ((-1)) ∧ ((-1)) ≤ 99 by omega) dX10_upFrom_25

abbrev M_X10_standing : List (Nat × Nat) := []
set_option maxHeartbeats 4000000 in
set_option maxRecDepth 100000 in
theorem c_X10_standing (l : Launch) (g : tf_G) (T : tf_T) (a0 : Nat) (ha0 : T a0 = some (50, 0)) (x1 : Int) (hp1 : (-1) ≤ x1 ∧ x1 ≤ 99) : Met l yX10_standing (cd_X10_standing :: wsL_law) ({ frames := 1, cells := 0, slots := 0, locals := 24 }) (tf_P g T [.ref a0, .int (Int32.ofInt x1)] (fun H => True)) (tf_Qi g M_X10_standing T (fun z _ _ => (-1) ≤ z ∧ z ≤ 6)) 0 0 (fun q => tf_B g ≤ q) := by
  refine Met.ofW (cc := cX10_standing) (maxL := 2) (ret := (some .int)) (by decide) rfl ?_
  intro p e s m args below meth c s₁ B hml hv
  obtain ⟨hargs, hk, hW0, hB, hpre⟩ := hv
  have hx := B.exec
  have hb := B.bytes
  have hr := B.returns
  have hts : ∀ w ∈ wsL_law, w.before args s = true := fun w h => atoms_spec (ws := cd_X10_standing :: wsL_law) B.pre w (List.mem_cons_of_mem _ h)
  have hown : s.vm.findClass RX10 = some m.cls := findClass_of_methodNamed B.named
  have hlocks := B.notSynchronized
  have hK := hk.1
  have hW := tf_n.start (M := M_X10_standing) hW0 hB
  obtain ⟨Q, hQ⟩ : ∃ q, q = MQ below (tf_Qi g M_X10_standing T (fun z _ _ => (-1) ≤ z ∧ z ≤ 6)) args s 0 0 (fun q => tf_B g ≤ q) := ⟨_, rfl⟩
  rw [← hQ]
  obtain ⟨R, hR⟩ : ∃ q, q = (headSpec (cd_X10_standing :: wsL_law) ({ frames := 1, cells := 0, slots := 0, locals := 24 })).room := ⟨_, rfl⟩
  rw [← hR]
  have hR1 : 1 ≤ R.frames := by rw [hR]; exact Nat.le_refl _
  have hR2 : 24 ≤ R.locals := by rw [hR]; exact Nat.le_refl _
  have hR3 : 0 ≤ R.cells := by rw [hR]; exact Nat.le_refl _
  have hR4 : 0 ≤ R.slots := by rw [hR]; exact Nat.le_refl _
  have hin := (name_of_methodNamed B.named B.method).1
  clear hR B
  refine tf_enter (As := [.ref a0, .int (Int32.ofInt x1)]) hargs (Nat.le_of_ble_eq_true rfl) (fun ls hl => ?_)
  have hl : lv_has ls 2 [(0, .ref a0), (1, .int (Int32.ofInt x1))] := hl
  refine lv_iload_n hx hb dX10_standing_0 rfl (lv_at hl 1 rfl) ?_
  refine tf_iconst hx hb dX10_standing_1 ?_
  refine tf_icmp_ne (tgt := 9) hx hb ⟨by omega, by omega⟩ ⟨by decide, by decide⟩ dX10_standing_2 (by decide) (fun h1 => ?_) (fun h1 => ?_)
  · refine lv_aload_n hx hb dX10_standing_9 rfl (lv_at hl 0 rfl) ?_
    refine tf_get hx hb hts inlX10 hown hK (ci := 10) rfl hW ha0 rfl 32 rfl (by decide) (hts _ fl_X10_73) dX10_standing_10 (fun v2 hv2 hsv2 => ?_)
    obtain ⟨ad3, rfl, had3⟩ := tf_v1 hv2
    refine lv_iload_n hx hb dX10_standing_13 rfl (lv_at hl 1 rfl) ?_
    refine tf_iald (t0 := 0) hx hb hK hW had3 rfl rfl (by omega) (by omega) dX10_standing_14 (fun v4 hv4 hsv4 => ?_)
    obtain ⟨z5, rfl, hz5⟩ := tf_v0 hv4
    exact tf_reti (z := z5) hx hb hr hlocks hQ hW (show (-1) ≤ (z5) ∧ (z5) ≤ 6 by omega) dX10_standing_15
  · refine tf_iconst hx hb dX10_standing_5 ?_
    refine lv_goto (tgt := 15) hx hb dX10_standing_6 (by decide) ?_
    exact tf_reti (z := (-1)) hx hb hr hlocks hQ hW (show (-1) ≤ ((-1)) ∧ ((-1)) ≤ 6 by omega) dX10_standing_15

abbrev M_X10_highAt : List (Nat × Nat) := []
set_option maxHeartbeats 4000000 in
set_option maxRecDepth 100000 in
theorem c_X10_highAt (l : Launch) (g : tf_G) (T : tf_T) (a0 : Nat) (ha0 : T a0 = some (50, 0)) (x1 : Int) (hp1 : (-1) ≤ x1 ∧ x1 ≤ 99) : Met l yX10_highAt (cd_X10_highAt :: wsL_law) ({ frames := 2, cells := 0, slots := 0, locals := 45 }) (tf_P g T [.ref a0, .int (Int32.ofInt x1)] (fun H => True)) (tf_Qi g M_X10_highAt T (fun z _ _ => (-2147483648) ≤ z ∧ z ≤ 2147483647)) 0 0 (fun q => tf_B g ≤ q) := by
  refine Met.ofW (cc := cX10_highAt) (maxL := 3) (ret := (some .int)) (by decide) rfl ?_
  intro p e s m args below meth c s₁ B hml hv
  obtain ⟨hargs, hk, hW0, hB, hpre⟩ := hv
  have hx := B.exec
  have hb := B.bytes
  have hr := B.returns
  have hts : ∀ w ∈ wsL_law, w.before args s = true := fun w h => atoms_spec (ws := cd_X10_highAt :: wsL_law) B.pre w (List.mem_cons_of_mem _ h)
  have hown : s.vm.findClass RX10 = some m.cls := findClass_of_methodNamed B.named
  have hlocks := B.notSynchronized
  have hK := hk.1
  have hW := tf_n.start (M := M_X10_highAt) hW0 hB
  obtain ⟨Q, hQ⟩ : ∃ q, q = MQ below (tf_Qi g M_X10_highAt T (fun z _ _ => (-2147483648) ≤ z ∧ z ≤ 2147483647)) args s 0 0 (fun q => tf_B g ≤ q) := ⟨_, rfl⟩
  rw [← hQ]
  obtain ⟨R, hR⟩ : ∃ q, q = (headSpec (cd_X10_highAt :: wsL_law) ({ frames := 2, cells := 0, slots := 0, locals := 45 })).room := ⟨_, rfl⟩
  rw [← hR]
  have hR1 : 2 ≤ R.frames := by rw [hR]; exact Nat.le_refl _
  have hR2 : 45 ≤ R.locals := by rw [hR]; exact Nat.le_refl _
  have hR3 : 0 ≤ R.cells := by rw [hR]; exact Nat.le_refl _
  have hR4 : 0 ≤ R.slots := by rw [hR]; exact Nat.le_refl _
  have hin := (name_of_methodNamed B.named B.method).1
  clear hR B
  refine tf_enter (As := [.ref a0, .int (Int32.ofInt x1)]) hargs (Nat.le_of_ble_eq_true rfl) (fun ls hl => ?_)
  have hl : lv_has ls 3 [(0, .ref a0), (1, .int (Int32.ofInt x1))] := hl
  refine lv_aload_n hx hb dX10_highAt_0 rfl (lv_at hl 0 rfl) ?_
  refine lv_iload_n hx hb dX10_highAt_1 rfl (lv_at hl 1 rfl) ?_
  refine tf_calli (va_runV (As := [.int (Int32.ofInt x1)]) (rest := []) ⟨hx, hb, hml, hown, hts⟩ (c_X10_standing l g T a0 ha0 (x1) ⟨by omega, by omega⟩) (cwV 1 hts gv_X10_370 rfl rfl rfl hd_X10_standing ⟨Nat.le_trans (by decide) hR1, Nat.le_trans (by decide) hR2⟩) (tf_preV hk hW ha0 (ci := 10) rfl rfl trivial) rfl rfl hl.1 rfl (lv_room (Nat.le_of_ble_eq_true rfl)) dX10_highAt_2 ⟨Nat.zero_le _, Nat.zero_le _⟩) hW (by decide) (fun z1 H1 locs1 hW hF1 hp1 => ?_)
  obtain ⟨hp1_0, hp1_1⟩ := hp1
  refine lv_istore_n (lv' := [(2, .int (Int32.ofInt z1)), (0, .ref a0), (1, .int (Int32.ofInt x1))]) hx hb dX10_highAt_5 rfl hl (by decide) rfl (fun ls hl => ?_)
  refine lv_iload_n hx hb dX10_highAt_6 rfl (lv_at hl 0 rfl) ?_
  refine tf_iconst hx hb dX10_highAt_7 ?_
  refine tf_icmp_ne (tgt := 15) hx hb ⟨by omega, by omega⟩ ⟨by decide, by decide⟩ dX10_highAt_8 (by decide) (fun h2 => ?_) (fun h2 => ?_)
  · refine lv_aload_n hx hb dX10_highAt_15 rfl (lv_at hl 1 rfl) ?_
    refine tf_get hx hb hts inlX10 hown hK (ci := 10) rfl hW ha0 rfl 36 rfl (by decide) (hts _ fl_X10_85) dX10_highAt_16 (fun v3 hv3 hsv3 => ?_)
    obtain ⟨ad4, rfl, had4⟩ := tf_v1 hv3
    refine lv_iload_n hx hb dX10_highAt_19 rfl (lv_at hl 0 rfl) ?_
    refine tf_iald (t0 := 0) hx hb hK hW had4 rfl rfl (by omega) (by omega) dX10_highAt_20 (fun v5 hv5 hsv5 => ?_)
    obtain ⟨z6, rfl, hz6⟩ := tf_v0 hv5
    exact tf_reti (z := z6) hx hb hr hlocks hQ hW (show (-2147483648) ≤ (z6) ∧ (z6) ≤ 2147483647 by omega) dX10_highAt_21
  · refine tf_iconst hx hb dX10_highAt_11 ?_
    refine lv_goto (tgt := 21) hx hb dX10_highAt_12 (by decide) ?_
    exact tf_reti (z := 0) hx hb hr hlocks hQ hW (show (-2147483648) ≤ (0) ∧ (0) ≤ 2147483647 by omega) dX10_highAt_21

abbrev M_X10_find : List (Nat × Nat) := [(50, 37), (50, 38), (50, 39), (50, 40), (50, 41), (50, 42)]
set_option maxHeartbeats 4000000 in
set_option maxRecDepth 100000 in
theorem c_X10_find (l : Launch) (g : tf_G) (T : tf_T) (a0 : Nat) (ha0 : T a0 = some (50, 0)) (x1 : Int) (hp1 : 0 ≤ x1 ∧ x1 ≤ 99) (x2 : Int) (hp2 : (-2147483648) ≤ x2 ∧ x2 ≤ 2147483647) : Met l yX10_find (cd_X10_find :: wsL_law) ({ frames := 4, cells := 0, slots := 0, locals := 95 }) (tf_P g T [.ref a0, .int (Int32.ofInt x1), .int (Int32.ofInt x2)] (fun H => True)) (tf_Qv g M_X10_find T (fun _ H => True)) 0 0 (fun q => tf_B g ≤ q) := by
  refine Met.ofW (cc := cX10_find) (maxL := 12) (ret := none) (by decide) rfl ?_
  intro p e s m args below meth c s₁ B hml hv
  obtain ⟨hargs, hk, hW0, hB, hpre⟩ := hv
  have hx := B.exec
  have hb := B.bytes
  have hr := B.returns
  have hts : ∀ w ∈ wsL_law, w.before args s = true := fun w h => atoms_spec (ws := cd_X10_find :: wsL_law) B.pre w (List.mem_cons_of_mem _ h)
  have hown : s.vm.findClass RX10 = some m.cls := findClass_of_methodNamed B.named
  have hlocks := B.notSynchronized
  have hK := hk.1
  have hW := tf_n.start (M := M_X10_find) hW0 hB
  obtain ⟨Q, hQ⟩ : ∃ q, q = MQ below (tf_Qv g M_X10_find T (fun _ H => True)) args s 0 0 (fun q => tf_B g ≤ q) := ⟨_, rfl⟩
  rw [← hQ]
  obtain ⟨R, hR⟩ : ∃ q, q = (headSpec (cd_X10_find :: wsL_law) ({ frames := 4, cells := 0, slots := 0, locals := 95 })).room := ⟨_, rfl⟩
  rw [← hR]
  have hR1 : 4 ≤ R.frames := by rw [hR]; exact Nat.le_refl _
  have hR2 : 95 ≤ R.locals := by rw [hR]; exact Nat.le_refl _
  have hR3 : 0 ≤ R.cells := by rw [hR]; exact Nat.le_refl _
  have hR4 : 0 ≤ R.slots := by rw [hR]; exact Nat.le_refl _
  have hin := (name_of_methodNamed B.named B.method).1
  clear hR B
  have j_450 : ∀ (x8_450 : Int), (-2147483648) ≤ x8_450 ∧ x8_450 ≤ 2147483647 → ∀ (y0_450 : Int), (-2147483648) ≤ y0_450 ∧ y0_450 ≤ 2147483647 → ∀ (f38_450 : Int), (-1) ≤ f38_450 ∧ f38_450 ≤ 6 → ∀ (H : Heap) (locs : List Loc), tf_n tf_kt g M_X10_find T s.heap T H locs → tf_s H a0 (g.1.2 10 38) = some (.int (Int32.ofInt f38_450)) → ∀ (ls : Array Slot), lv_has ls 12 [(0, .ref a0), (8, .int (Int32.ofInt x8_450))] → W p l e R s m args below meth c H locs 0 0 Q (F0 m 450 ls [.int (Int32.ofInt y0_450)]) := by
    intro x8_450 hx8_450 y0_450 hy0_450 f38_450 hf38_450 H locs hW hs38_450 ls hl
    refine lv_istore (lv' := [(9, .int (Int32.ofInt y0_450)), (0, .ref a0), (8, .int (Int32.ofInt x8_450))]) hx hb dX10_find_450 hl (by decide) rfl (fun ls hl => ?_)
    refine lv_aload_n hx hb dX10_find_452 rfl (lv_at hl 1 rfl) ?_
    refine lv_aload_n hx hb dX10_find_453 rfl (lv_at hl 1 rfl) ?_
    refine tf_get hx hb hts inlX10 hown hK (ci := 10) rfl hW ha0 rfl 38 rfl (by decide) (hts _ fl_X10_379) dX10_find_454 (fun v1 hv1 hsv1 => ?_)
    obtain rfl : v1 = .int (Int32.ofInt f38_450) := Option.some.inj (hsv1.symm.trans hs38_450)
    refine tf_iconst hx hb dX10_find_457 ?_
    refine tf_icmp_eq (tgt := 468) hx hb ⟨by omega, by omega⟩ ⟨by decide, by decide⟩ dX10_find_458 (by decide) (fun h2 => ?_) (fun h2 => ?_)
    · refine tf_iconst hx hb dX10_find_468 ?_
      refine lv_goto (tgt := 477) hx hb dX10_find_469 (by decide) ?_
      refine tf_put hx hb hts inlX10 tyX10 tyX10_ok nmX10 hown hK (ci := 10) rfl hW ha0 rfl rfl 40 rfl (by decide) (by decide) (hts _ fl_X10_394) rfl (tf_u0 (by omega) (by omega)) rfl rfl dX10_find_477 (fun H3 locs3 hW hs3 ht3 hq3 => ?_)
      have hs4 := (ht3 38 (by decide) (by decide)).trans hs38_450
      exact tf_retv hx hb hr hlocks hQ hW trivial dX10_find_480
    · refine lv_iload hx hb dX10_find_461 (lv_at hl 0 rfl) ?_
      refine lv_iload hx hb dX10_find_463 (lv_at hl 2 rfl) ?_
      refine tf_icmp_ge (tgt := 472) hx hb ⟨by omega, by omega⟩ ⟨by omega, by omega⟩ dX10_find_465 (by decide) (fun h5 => ?_) (fun h5 => ?_)
      · refine lv_iload hx hb dX10_find_472 (lv_at hl 0 rfl) ?_
        refine lv_iload hx hb dX10_find_474 (lv_at hl 2 rfl) ?_
        refine tf_isub_any hx hb dX10_find_476 (fun z6 hz6 => ?_)
        refine tf_put hx hb hts inlX10 tyX10 tyX10_ok nmX10 hown hK (ci := 10) rfl hW ha0 rfl rfl 40 rfl (by decide) (by decide) (hts _ fl_X10_394) rfl (tf_u0 (by omega) (by omega)) rfl rfl dX10_find_477 (fun H7 locs7 hW hs7 ht7 hq7 => ?_)
        have hs8 := (ht7 38 (by decide) (by decide)).trans hs38_450
        exact tf_retv hx hb hr hlocks hQ hW trivial dX10_find_480
      · refine tf_iconst hx hb dX10_find_468 ?_
        refine lv_goto (tgt := 477) hx hb dX10_find_469 (by decide) ?_
        refine tf_put hx hb hts inlX10 tyX10 tyX10_ok nmX10 hown hK (ci := 10) rfl hW ha0 rfl rfl 40 rfl (by decide) (by decide) (hts _ fl_X10_394) rfl (tf_u0 (by omega) (by omega)) rfl rfl dX10_find_477 (fun H9 locs9 hW hs9 ht9 hq9 => ?_)
        have hs10 := (ht9 38 (by decide) (by decide)).trans hs38_450
        exact tf_retv hx hb hr hlocks hQ hW trivial dX10_find_480
  have j_311 : ∀ (n_311 : Nat), 0 ≤ x1 ∧ x1 ≤ 99 → (-2147483648) ≤ x2 ∧ x2 ≤ 2147483647 → ∀ (x8_311 : Int), (-2147483648) ≤ x8_311 ∧ x8_311 ≤ 2147483647 → ∀ (x9_311 : Int), 1 ≤ x9_311 ∧ x9_311 ≤ 4 → ∀ (f38_311 : Int), (-1) ≤ f38_311 ∧ f38_311 ≤ 6 → ∀ (f41_311 : Int), (-2147483648) ≤ f41_311 ∧ f41_311 ≤ 2147483647 → ∀ (f42_311 : Int), 0 ≤ f42_311 ∧ f42_311 ≤ 2147483647 → (4 - x9_311 + 1 ≤ (n_311 : Int)) → ∀ (H : Heap) (locs : List Loc), tf_n tf_kt g M_X10_find T s.heap T H locs → tf_s H a0 (g.1.2 10 38) = some (.int (Int32.ofInt f38_311)) → tf_s H a0 (g.1.2 10 41) = some (.int (Int32.ofInt f41_311)) → tf_s H a0 (g.1.2 10 42) = some (.int (Int32.ofInt f42_311)) → ∀ (ls : Array Slot), lv_has ls 12 [(0, .ref a0), (1, .int (Int32.ofInt x1)), (2, .int (Int32.ofInt x2)), (8, .int (Int32.ofInt x8_311)), (9, .int (Int32.ofInt x9_311))] → W p l e R s m args below meth c H locs 0 0 Q (F0 m 311 ls []) := by
    intro n_311
    induction n_311 with
    | zero =>
      intro hx1_311 hx2_311 x8_311 hx8_311 x9_311 hx9_311 f38_311 hf38_311 f41_311 hf41_311 f42_311 hf42_311 hm_311
      exfalso; omega
    | succ n_311 ih_311 =>
      intro hx1_311 hx2_311 x8_311 hx8_311 x9_311 hx9_311 f38_311 hf38_311 f41_311 hf41_311 f42_311 hf42_311 hm_311 H locs hW hs38_311 hs41_311 hs42_311 ls hl
      have j_420 : 0 ≤ x1 ∧ x1 ≤ 99 → (-2147483648) ≤ x2 ∧ x2 ≤ 2147483647 → ∀ (x8_420 : Int), (-2147483648) ≤ x8_420 ∧ x8_420 ≤ 2147483647 → 1 ≤ x9_311 ∧ x9_311 ≤ 3 → ∀ (y1_420 : Int), 0 ≤ y1_420 ∧ y1_420 ≤ 2147483647 → ∀ (f38_420 : Int), (-1) ≤ f38_420 ∧ f38_420 ≤ 6 → ∀ (f41_420 : Int), (-2147483648) ≤ f41_420 ∧ f41_420 ≤ 2147483647 → ∀ (H : Heap) (locs : List Loc), tf_n tf_kt g M_X10_find T s.heap T H locs → tf_s H a0 (g.1.2 10 38) = some (.int (Int32.ofInt f38_420)) → tf_s H a0 (g.1.2 10 41) = some (.int (Int32.ofInt f41_420)) → ∀ (ls : Array Slot), lv_has ls 12 [(0, .ref a0), (1, .int (Int32.ofInt x1)), (2, .int (Int32.ofInt x2)), (8, .int (Int32.ofInt x8_420)), (9, .int (Int32.ofInt x9_311))] → W p l e R s m args below meth c H locs 0 0 Q (F0 m 420 ls [.int (Int32.ofInt y1_420), .ref a0]) := by
        intro hx1_420 hx2_420 x8_420 hx8_420 hx9_420 y1_420 hy1_420 f38_420 hf38_420 f41_420 hf41_420 H locs hW hs38_420 hs41_420 ls hl
        refine tf_put hx hb hts inlX10 tyX10 tyX10_ok nmX10 hown hK (ci := 10) rfl hW ha0 rfl rfl 42 rfl (by decide) (by decide) (hts _ fl_X10_388) rfl (tf_u0 (by omega) (by omega)) rfl rfl dX10_find_420 (fun H11 locs11 hW hs11 ht11 hq11 => ?_)
        have hs12 := (ht11 38 (by decide) (by decide)).trans hs38_420
        have hs13 := (ht11 41 (by decide) (by decide)).trans hs41_420
        refine lv_iinc (v := Int32.ofInt ((x9_311 + 1))) (lv' := [(9, .int (Int32.ofInt ((x9_311 + 1)))), (0, .ref a0), (1, .int (Int32.ofInt x1)), (2, .int (Int32.ofInt x2)), (8, .int (Int32.ofInt x8_420))]) hx hb dX10_find_423 hl (k := 4) rfl (Int32.ofInt_add _ _).symm (by decide) rfl (fun ls hl => ?_)
        refine lv_goto (tgt := 311) hx hb dX10_find_426 (by decide) ?_
        exact ih_311 ⟨by omega, by omega⟩ ⟨by omega, by omega⟩ (x8_420) ⟨by omega, by omega⟩ ((x9_311 + 1)) ⟨by omega, by omega⟩ (f38_420) ⟨by omega, by omega⟩ (f41_420) ⟨by omega, by omega⟩ (y1_420) ⟨by omega, by omega⟩ (by omega) _ _ hW hs12 hs13 hs11 _ (lv_sub hl [1, 2, 3, 4, 0] rfl)
      have j_399 : 0 ≤ x1 ∧ x1 ≤ 99 → (-2147483648) ≤ x2 ∧ x2 ≤ 2147483647 → ∀ (x8_399 : Int), (-2147483648) ≤ x8_399 ∧ x8_399 ≤ 2147483647 → 1 ≤ x9_311 ∧ x9_311 ≤ 3 → ∀ (y0_399 : Int), (-2147483648) ≤ y0_399 ∧ y0_399 ≤ 2147483647 → ∀ (f38_399 : Int), (-1) ≤ f38_399 ∧ f38_399 ≤ 6 → ∀ (f42_399 : Int), 0 ≤ f42_399 ∧ f42_399 ≤ 2147483647 → ∀ (f41_399 : Int), (-2147483648) ≤ f41_399 ∧ f41_399 ≤ 2147483647 → ∀ (H : Heap) (locs : List Loc), tf_n tf_kt g M_X10_find T s.heap T H locs → tf_s H a0 (g.1.2 10 38) = some (.int (Int32.ofInt f38_399)) → tf_s H a0 (g.1.2 10 42) = some (.int (Int32.ofInt f42_399)) → tf_s H a0 (g.1.2 10 41) = some (.int (Int32.ofInt f41_399)) → ∀ (ls : Array Slot), lv_has ls 12 [(0, .ref a0), (1, .int (Int32.ofInt x1)), (2, .int (Int32.ofInt x2)), (8, .int (Int32.ofInt x8_399)), (9, .int (Int32.ofInt x9_311))] → W p l e R s m args below meth c H locs 0 0 Q (F0 m 399 ls [.int (Int32.ofInt y0_399)]) := by
        intro hx1_399 hx2_399 x8_399 hx8_399 hx9_399 y0_399 hy0_399 f38_399 hf38_399 f42_399 hf42_399 f41_399 hf41_399 H locs hW hs38_399 hs42_399 hs41_399 ls hl
        refine lv_istore (lv' := [(11, .int (Int32.ofInt y0_399)), (0, .ref a0), (1, .int (Int32.ofInt x1)), (2, .int (Int32.ofInt x2)), (8, .int (Int32.ofInt x8_399)), (9, .int (Int32.ofInt x9_311))]) hx hb dX10_find_399 hl (by decide) rfl (fun ls hl => ?_)
        refine lv_aload_n hx hb dX10_find_401 rfl (lv_at hl 1 rfl) ?_
        refine lv_iload hx hb dX10_find_402 (lv_at hl 0 rfl) ?_
        refine lv_aload_n hx hb dX10_find_404 rfl (lv_at hl 1 rfl) ?_
        refine tf_get hx hb hts inlX10 hown hK (ci := 10) rfl hW ha0 rfl 42 rfl (by decide) (hts _ fl_X10_388) dX10_find_405 (fun v14 hv14 hsv14 => ?_)
        obtain rfl : v14 = .int (Int32.ofInt f42_399) := Option.some.inj (hsv14.symm.trans hs42_399)
        refine tf_icmp_le (tgt := 416) hx hb ⟨by omega, by omega⟩ ⟨by omega, by omega⟩ dX10_find_408 (by decide) (fun h15 => ?_) (fun h15 => ?_)
        · refine lv_aload_n hx hb dX10_find_416 rfl (lv_at hl 1 rfl) ?_
          refine tf_get hx hb hts inlX10 hown hK (ci := 10) rfl hW ha0 rfl 42 rfl (by decide) (hts _ fl_X10_388) dX10_find_417 (fun v16 hv16 hsv16 => ?_)
          obtain rfl : v16 = .int (Int32.ofInt f42_399) := Option.some.inj (hsv16.symm.trans hs42_399)
          exact j_420 ⟨by omega, by omega⟩ ⟨by omega, by omega⟩ (x8_399) ⟨by omega, by omega⟩ ⟨by omega, by omega⟩ (f42_399) ⟨by omega, by omega⟩ (f38_399) ⟨by omega, by omega⟩ (f41_399) ⟨by omega, by omega⟩ _ _ hW hs38_399 hs41_399 _ (lv_sub hl [1, 2, 3, 4, 5] rfl)
        · refine lv_iload hx hb dX10_find_411 (lv_at hl 0 rfl) ?_
          refine lv_goto (tgt := 420) hx hb dX10_find_413 (by decide) ?_
          exact j_420 ⟨by omega, by omega⟩ ⟨by omega, by omega⟩ (x8_399) ⟨by omega, by omega⟩ ⟨by omega, by omega⟩ (y0_399) ⟨by omega, by omega⟩ (f38_399) ⟨by omega, by omega⟩ (f41_399) ⟨by omega, by omega⟩ _ _ hW hs38_399 hs41_399 _ (lv_sub hl [1, 2, 3, 4, 5] rfl)
      have j_378 : 0 ≤ x1 ∧ x1 ≤ 99 → (-2147483648) ≤ x2 ∧ x2 ≤ 2147483647 → ∀ (x8_378 : Int), (-2147483648) ≤ x8_378 ∧ x8_378 ≤ 2147483647 → 1 ≤ x9_311 ∧ x9_311 ≤ 3 → ∀ (x10_378 : Int), (-1) ≤ x10_378 ∧ x10_378 ≤ 99 → ∀ (y1_378 : Int), (-2147483648) ≤ y1_378 ∧ y1_378 ≤ 2147483647 → ∀ (y2_378 : Int), (-2147483648) ≤ y2_378 ∧ y2_378 ≤ 2147483647 → ∀ (f38_378 : Int), (-1) ≤ f38_378 ∧ f38_378 ≤ 6 → ∀ (f42_378 : Int), 0 ≤ f42_378 ∧ f42_378 ≤ 2147483647 → ∀ (H : Heap) (locs : List Loc), tf_n tf_kt g M_X10_find T s.heap T H locs → tf_s H a0 (g.1.2 10 38) = some (.int (Int32.ofInt f38_378)) → tf_s H a0 (g.1.2 10 42) = some (.int (Int32.ofInt f42_378)) → ∀ (ls : Array Slot), lv_has ls 12 [(0, .ref a0), (1, .int (Int32.ofInt x1)), (2, .int (Int32.ofInt x2)), (8, .int (Int32.ofInt x8_378)), (9, .int (Int32.ofInt x9_311)), (10, .int (Int32.ofInt x10_378))] → W p l e R s m args below meth c H locs 0 0 Q (F0 m 378 ls [.int (Int32.ofInt y2_378), .int (Int32.ofInt y1_378), .ref a0]) := by
        intro hx1_378 hx2_378 x8_378 hx8_378 hx9_378 x10_378 hx10_378 y1_378 hy1_378 y2_378 hy2_378 f38_378 hf38_378 f42_378 hf42_378 H locs hW hs38_378 hs42_378 ls hl
        refine tf_iadd_any hx hb dX10_find_378 (fun z17 hz17 => ?_)
        refine tf_put hx hb hts inlX10 tyX10 tyX10_ok nmX10 hown hK (ci := 10) rfl hW ha0 rfl rfl 41 rfl (by decide) (by decide) (hts _ fl_X10_385) rfl (tf_u0 (by omega) (by omega)) rfl rfl dX10_find_379 (fun H18 locs18 hW hs18 ht18 hq18 => ?_)
        have hs19 := (ht18 38 (by decide) (by decide)).trans hs38_378
        have hs20 := (ht18 42 (by decide) (by decide)).trans hs42_378
        refine lv_iload hx hb dX10_find_382 (lv_at hl 5 rfl) ?_
        refine tf_iconst hx hb dX10_find_384 ?_
        refine tf_icmp_ne (tgt := 392) hx hb ⟨by omega, by omega⟩ ⟨by decide, by decide⟩ dX10_find_385 (by decide) (fun h21 => ?_) (fun h21 => ?_)
        · refine lv_aload_n hx hb dX10_find_392 rfl (lv_at hl 0 rfl) ?_
          refine tf_get hx hb hts inlX10 hown hK (ci := 10) rfl hW ha0 rfl 34 rfl (by decide) (hts _ fl_X10_79) dX10_find_393 (fun v22 hv22 hsv22 => ?_)
          obtain ⟨ad23, rfl, had23⟩ := tf_v1 hv22
          refine lv_iload hx hb dX10_find_396 (lv_at hl 5 rfl) ?_
          refine tf_iald (t0 := 0) hx hb hK hW had23 rfl rfl (by omega) (by omega) dX10_find_398 (fun v24 hv24 hsv24 => ?_)
          obtain ⟨z25, rfl, hz25⟩ := tf_v0 hv24
          exact j_399 ⟨by omega, by omega⟩ ⟨by omega, by omega⟩ (x8_378) ⟨by omega, by omega⟩ ⟨by omega, by omega⟩ (z25) ⟨by omega, by omega⟩ (f38_378) ⟨by omega, by omega⟩ (f42_378) ⟨by omega, by omega⟩ (z17) ⟨by omega, by omega⟩ _ _ hW hs19 hs20 hs18 _ (lv_sub hl [0, 1, 2, 3, 4] rfl)
        · refine tf_iconst hx hb dX10_find_388 ?_
          refine lv_goto (tgt := 399) hx hb dX10_find_389 (by decide) ?_
          exact j_399 ⟨by omega, by omega⟩ ⟨by omega, by omega⟩ (x8_378) ⟨by omega, by omega⟩ ⟨by omega, by omega⟩ (0) ⟨by omega, by omega⟩ (f38_378) ⟨by omega, by omega⟩ (f42_378) ⟨by omega, by omega⟩ (z17) ⟨by omega, by omega⟩ _ _ hW hs19 hs20 hs18 _ (lv_sub hl [0, 1, 2, 3, 4] rfl)
      have j_377 : 0 ≤ x1 ∧ x1 ≤ 99 → (-2147483648) ≤ x2 ∧ x2 ≤ 2147483647 → ∀ (x8_377 : Int), (-2147483648) ≤ x8_377 ∧ x8_377 ≤ 2147483647 → 1 ≤ x9_311 ∧ x9_311 ≤ 3 → ∀ (x10_377 : Int), (-1) ≤ x10_377 ∧ x10_377 ≤ 99 → ∀ (y1_377 : Int), (-2147483648) ≤ y1_377 ∧ y1_377 ≤ 2147483647 → ∀ (f38_377 : Int), (-1) ≤ f38_377 ∧ f38_377 ≤ 6 → ∀ (f42_377 : Int), 0 ≤ f42_377 ∧ f42_377 ≤ 2147483647 → ∀ (H : Heap) (locs : List Loc), tf_n tf_kt g M_X10_find T s.heap T H locs → tf_s H a0 (g.1.2 10 38) = some (.int (Int32.ofInt f38_377)) → tf_s H a0 (g.1.2 10 42) = some (.int (Int32.ofInt f42_377)) → ∀ (ls : Array Slot), lv_has ls 12 [(0, .ref a0), (1, .int (Int32.ofInt x1)), (2, .int (Int32.ofInt x2)), (8, .int (Int32.ofInt x8_377)), (9, .int (Int32.ofInt x9_311)), (10, .int (Int32.ofInt x10_377))] → W p l e R s m args below meth c H locs 0 0 Q (F0 m 377 ls [.int (Int32.ofInt y1_377), .ref a0]) := by
        intro hx1_377 hx2_377 x8_377 hx8_377 hx9_377 x10_377 hx10_377 y1_377 hy1_377 f38_377 hf38_377 f42_377 hf42_377 H locs hW hs38_377 hs42_377 ls hl
        refine tf_iconst hx hb dX10_find_377 ?_
        exact j_378 ⟨by omega, by omega⟩ ⟨by omega, by omega⟩ (x8_377) ⟨by omega, by omega⟩ ⟨by omega, by omega⟩ (x10_377) ⟨by omega, by omega⟩ (y1_377) ⟨by omega, by omega⟩ (0) ⟨by omega, by omega⟩ (f38_377) ⟨by omega, by omega⟩ (f42_377) ⟨by omega, by omega⟩ _ _ hW hs38_377 hs42_377 _ (lv_sub hl [0, 1, 2, 3, 4, 5] rfl)
      have j_348 : 0 ≤ x1 ∧ x1 ≤ 99 → (-2147483648) ≤ x2 ∧ x2 ≤ 2147483647 → 1 ≤ x9_311 ∧ x9_311 ≤ 3 → ∀ (x10_348 : Int), (-1) ≤ x10_348 ∧ x10_348 ≤ 99 → ∀ (y0_348 : Int), (-2147483648) ≤ y0_348 ∧ y0_348 ≤ 2147483647 → ∀ (f38_348 : Int), (-1) ≤ f38_348 ∧ f38_348 ≤ 6 → ∀ (f41_348 : Int), (-2147483648) ≤ f41_348 ∧ f41_348 ≤ 2147483647 → ∀ (f42_348 : Int), 0 ≤ f42_348 ∧ f42_348 ≤ 2147483647 → ∀ (H : Heap) (locs : List Loc), tf_n tf_kt g M_X10_find T s.heap T H locs → tf_s H a0 (g.1.2 10 38) = some (.int (Int32.ofInt f38_348)) → tf_s H a0 (g.1.2 10 41) = some (.int (Int32.ofInt f41_348)) → tf_s H a0 (g.1.2 10 42) = some (.int (Int32.ofInt f42_348)) → ∀ (ls : Array Slot), lv_has ls 12 [(0, .ref a0), (1, .int (Int32.ofInt x1)), (2, .int (Int32.ofInt x2)), (9, .int (Int32.ofInt x9_311)), (10, .int (Int32.ofInt x10_348))] → W p l e R s m args below meth c H locs 0 0 Q (F0 m 348 ls [.int (Int32.ofInt y0_348)]) := by
        intro hx1_348 hx2_348 hx9_348 x10_348 hx10_348 y0_348 hy0_348 f38_348 hf38_348 f41_348 hf41_348 f42_348 hf42_348 H locs hW hs38_348 hs41_348 hs42_348 ls hl
        refine lv_istore (lv' := [(8, .int (Int32.ofInt y0_348)), (0, .ref a0), (1, .int (Int32.ofInt x1)), (2, .int (Int32.ofInt x2)), (9, .int (Int32.ofInt x9_311)), (10, .int (Int32.ofInt x10_348))]) hx hb dX10_find_348 hl (by decide) rfl (fun ls hl => ?_)
        refine lv_aload_n hx hb dX10_find_350 rfl (lv_at hl 1 rfl) ?_
        refine lv_dup hx hb dX10_find_351 rfl ?_
        refine tf_get hx hb hts inlX10 hown hK (ci := 10) rfl hW ha0 rfl 41 rfl (by decide) (hts _ fl_X10_385) dX10_find_352 (fun v26 hv26 hsv26 => ?_)
        obtain rfl : v26 = .int (Int32.ofInt f41_348) := Option.some.inj (hsv26.symm.trans hs41_348)
        refine lv_iload hx hb dX10_find_355 (lv_at hl 4 rfl) ?_
        refine tf_iconst hx hb dX10_find_357 ?_
        refine tf_icmp_ge (tgt := 377) hx hb ⟨by omega, by omega⟩ ⟨by decide, by decide⟩ dX10_find_358 (by decide) (fun h27 => ?_) (fun h27 => ?_)
        · exact j_377 ⟨by omega, by omega⟩ ⟨by omega, by omega⟩ (y0_348) ⟨by omega, by omega⟩ ⟨by omega, by omega⟩ (x10_348) ⟨by omega, by omega⟩ (f41_348) ⟨by omega, by omega⟩ (f38_348) ⟨by omega, by omega⟩ (f42_348) ⟨by omega, by omega⟩ _ _ hW hs38_348 hs42_348 _ (lv_sub hl [1, 2, 3, 0, 4, 5] rfl)
        · refine lv_iload hx hb dX10_find_361 (lv_at hl 5 rfl) ?_
          refine tf_iconst hx hb dX10_find_363 ?_
          refine tf_icmp_eq (tgt := 377) hx hb ⟨by omega, by omega⟩ ⟨by decide, by decide⟩ dX10_find_364 (by decide) (fun h28 => ?_) (fun h28 => ?_)
          · exact j_377 ⟨by omega, by omega⟩ ⟨by omega, by omega⟩ (y0_348) ⟨by omega, by omega⟩ ⟨by omega, by omega⟩ (x10_348) ⟨by omega, by omega⟩ (f41_348) ⟨by omega, by omega⟩ (f38_348) ⟨by omega, by omega⟩ (f42_348) ⟨by omega, by omega⟩ _ _ hW hs38_348 hs42_348 _ (lv_sub hl [1, 2, 3, 0, 4, 5] rfl)
          · refine lv_aload_n hx hb dX10_find_367 rfl (lv_at hl 1 rfl) ?_
            refine tf_get hx hb hts inlX10 hown hK (ci := 10) rfl hW ha0 rfl 33 rfl (by decide) (hts _ fl_X10_76) dX10_find_368 (fun v29 hv29 hsv29 => ?_)
            obtain ⟨ad30, rfl, had30⟩ := tf_v1 hv29
            refine lv_iload hx hb dX10_find_371 (lv_at hl 5 rfl) ?_
            refine tf_iald (t0 := 0) hx hb hK hW had30 rfl rfl (by omega) (by omega) dX10_find_373 (fun v31 hv31 hsv31 => ?_)
            obtain ⟨z32, rfl, hz32⟩ := tf_v0 hv31
            refine lv_goto (tgt := 378) hx hb dX10_find_374 (by decide) ?_
            exact j_378 ⟨by omega, by omega⟩ ⟨by omega, by omega⟩ (y0_348) ⟨by omega, by omega⟩ ⟨by omega, by omega⟩ (x10_348) ⟨by omega, by omega⟩ (f41_348) ⟨by omega, by omega⟩ (z32) ⟨by omega, by omega⟩ (f38_348) ⟨by omega, by omega⟩ (f42_348) ⟨by omega, by omega⟩ _ _ hW hs38_348 hs42_348 _ (lv_sub hl [1, 2, 3, 0, 4, 5] rfl)
      refine lv_iload hx hb dX10_find_311 (lv_at hl 4 rfl) ?_
      refine tf_iconst hx hb dX10_find_313 ?_
      refine tf_icmp_ge (tgt := 429) hx hb ⟨by omega, by omega⟩ ⟨by decide, by decide⟩ dX10_find_314 (by decide) (fun h33 => ?_) (fun h33 => ?_)
      · refine lv_aload_n hx hb dX10_find_429 rfl (lv_at hl 0 rfl) ?_
        refine tf_get hx hb hts inlX10 hown hK (ci := 10) rfl hW ha0 rfl 38 rfl (by decide) (hts _ fl_X10_379) dX10_find_430 (fun v34 hv34 hsv34 => ?_)
        obtain rfl : v34 = .int (Int32.ofInt f38_311) := Option.some.inj (hsv34.symm.trans hs38_311)
        refine tf_iconst hx hb dX10_find_433 ?_
        refine tf_icmp_ne (tgt := 441) hx hb ⟨by omega, by omega⟩ ⟨by decide, by decide⟩ dX10_find_434 (by decide) (fun h35 => ?_) (fun h35 => ?_)
        · refine lv_aload_n hx hb dX10_find_441 rfl (lv_at hl 0 rfl) ?_
          refine tf_get hx hb hts inlX10 hown hK (ci := 10) rfl hW ha0 rfl 36 rfl (by decide) (hts _ fl_X10_85) dX10_find_442 (fun v36 hv36 hsv36 => ?_)
          obtain ⟨ad37, rfl, had37⟩ := tf_v1 hv36
          refine lv_aload_n hx hb dX10_find_445 rfl (lv_at hl 0 rfl) ?_
          refine tf_get hx hb hts inlX10 hown hK (ci := 10) rfl hW ha0 rfl 38 rfl (by decide) (hts _ fl_X10_379) dX10_find_446 (fun v38 hv38 hsv38 => ?_)
          obtain rfl : v38 = .int (Int32.ofInt f38_311) := Option.some.inj (hsv38.symm.trans hs38_311)
          refine tf_iald (t0 := 0) hx hb hK hW had37 rfl rfl (by omega) (by omega) dX10_find_449 (fun v39 hv39 hsv39 => ?_)
          obtain ⟨z40, rfl, hz40⟩ := tf_v0 hv39
          exact j_450 (x8_311) ⟨by omega, by omega⟩ (z40) ⟨by omega, by omega⟩ (f38_311) ⟨by omega, by omega⟩ _ _ hW hs38_311 _ (lv_sub hl [0, 3] rfl)
        · refine tf_iconst hx hb dX10_find_437 ?_
          refine lv_goto (tgt := 450) hx hb dX10_find_438 (by decide) ?_
          exact j_450 (x8_311) ⟨by omega, by omega⟩ (0) ⟨by omega, by omega⟩ (f38_311) ⟨by omega, by omega⟩ _ _ hW hs38_311 _ (lv_sub hl [0, 3] rfl)
      · refine lv_iload_n hx hb dX10_find_317 rfl (lv_at hl 1 rfl) ?_
        refine lv_iload_n hx hb dX10_find_318 rfl (lv_at hl 2 rfl) ?_
        refine lv_iload hx hb dX10_find_319 (lv_at hl 4 rfl) ?_
        refine tf_calli (va_runS (As := [.int (Int32.ofInt x1), .int (Int32.ofInt x2), .int (Int32.ofInt x9_311)]) (rest := []) ⟨hx, hb, hml, hown, hts⟩ (c_X10_upFrom l g T (x1) ⟨by omega, by omega⟩ (x2) ⟨by omega, by omega⟩ (x9_311) ⟨by omega, by omega⟩) ⟨callB_of 3 hts (gw_ws cm_X10_upFrom) rfl rfl rfl (hts _ (tw1 (i := 5) rfl)) (hts _ (tw36 (i := 18) rfl)) hd_X10_upFrom.2 ⟨Nat.le_trans (by decide) hR1, Nat.le_trans (by decide) hR2⟩, hts _ (tw36 (i := 19) rfl)⟩ (tf_preS hk hW trivial) rfl rfl hl.1 rfl (lv_room (Nat.le_of_ble_eq_true rfl)) dX10_find_321 ⟨Nat.zero_le _, Nat.zero_le _⟩) hW (by decide) (fun z41 H41 locs41 hW hF41 hp41 => ?_)
        have hs42 := tf_keepF hF41 ha0 rfl rfl (by decide) hs38_311
        have hs43 := tf_keepF hF41 ha0 rfl rfl (by decide) hs41_311
        have hs44 := tf_keepF hF41 ha0 rfl rfl (by decide) hs42_311
        obtain ⟨hp41_0, hp41_1⟩ := hp41
        refine lv_istore (lv' := [(10, .int (Int32.ofInt z41)), (0, .ref a0), (1, .int (Int32.ofInt x1)), (2, .int (Int32.ofInt x2)), (8, .int (Int32.ofInt x8_311)), (9, .int (Int32.ofInt x9_311))]) hx hb dX10_find_324 hl (by decide) rfl (fun ls hl => ?_)
        refine lv_aload_n hx hb dX10_find_326 rfl (lv_at hl 1 rfl) ?_
        refine lv_iload hx hb dX10_find_327 (lv_at hl 0 rfl) ?_
        refine tf_calli (va_runV (As := [.int (Int32.ofInt z41)]) (rest := []) ⟨hx, hb, hml, hown, hts⟩ (c_X10_highAt l g T a0 ha0 (z41) ⟨by omega, by omega⟩) (cwV 1 hts gv_X10_391 rfl rfl rfl hd_X10_highAt ⟨Nat.le_trans (by decide) hR1, Nat.le_trans (by decide) hR2⟩) (tf_preV hk hW ha0 (ci := 10) rfl rfl trivial) rfl rfl hl.1 rfl (lv_room (Nat.le_of_ble_eq_true rfl)) dX10_find_329 ⟨Nat.zero_le _, Nat.zero_le _⟩) hW (by decide) (fun z45 H45 locs45 hW hF45 hp45 => ?_)
        have hs46 := tf_keepF hF45 ha0 rfl rfl (by decide) hs42
        have hs47 := tf_keepF hF45 ha0 rfl rfl (by decide) hs43
        have hs48 := tf_keepF hF45 ha0 rfl rfl (by decide) hs44
        obtain ⟨hp45_0, hp45_1⟩ := hp45
        refine lv_iload hx hb dX10_find_332 (lv_at hl 4 rfl) ?_
        refine tf_icmp_le (tgt := 346) hx hb ⟨by omega, by omega⟩ ⟨by omega, by omega⟩ dX10_find_334 (by decide) (fun h49 => ?_) (fun h49 => ?_)
        · refine lv_iload hx hb dX10_find_346 (lv_at hl 4 rfl) ?_
          exact j_348 ⟨by omega, by omega⟩ ⟨by omega, by omega⟩ ⟨by omega, by omega⟩ (z41) ⟨by omega, by omega⟩ (x8_311) ⟨by omega, by omega⟩ (f38_311) ⟨by omega, by omega⟩ (f41_311) ⟨by omega, by omega⟩ (f42_311) ⟨by omega, by omega⟩ _ _ hW hs46 hs47 hs48 _ (lv_sub hl [1, 2, 3, 5, 0] rfl)
        · refine lv_aload_n hx hb dX10_find_337 rfl (lv_at hl 1 rfl) ?_
          refine lv_iload hx hb dX10_find_338 (lv_at hl 0 rfl) ?_
          refine tf_calli (va_runV (As := [.int (Int32.ofInt z41)]) (rest := []) ⟨hx, hb, hml, hown, hts⟩ (c_X10_highAt l g T a0 ha0 (z41) ⟨by omega, by omega⟩) (cwV 1 hts gv_X10_391 rfl rfl rfl hd_X10_highAt ⟨Nat.le_trans (by decide) hR1, Nat.le_trans (by decide) hR2⟩) (tf_preV hk hW ha0 (ci := 10) rfl rfl trivial) rfl rfl hl.1 rfl (lv_room (Nat.le_of_ble_eq_true rfl)) dX10_find_340 ⟨Nat.zero_le _, Nat.zero_le _⟩) hW (by decide) (fun z50 H50 locs50 hW hF50 hp50 => ?_)
          have hs51 := tf_keepF hF50 ha0 rfl rfl (by decide) hs46
          have hs52 := tf_keepF hF50 ha0 rfl rfl (by decide) hs47
          have hs53 := tf_keepF hF50 ha0 rfl rfl (by decide) hs48
          obtain ⟨hp50_0, hp50_1⟩ := hp50
          refine lv_goto (tgt := 348) hx hb dX10_find_343 (by decide) ?_
          exact j_348 ⟨by omega, by omega⟩ ⟨by omega, by omega⟩ ⟨by omega, by omega⟩ (z41) ⟨by omega, by omega⟩ (z50) ⟨by omega, by omega⟩ (f38_311) ⟨by omega, by omega⟩ (f41_311) ⟨by omega, by omega⟩ (f42_311) ⟨by omega, by omega⟩ _ _ hW hs51 hs52 hs53 _ (lv_sub hl [1, 2, 3, 5, 0] rfl)
  have j_290 : 0 ≤ x1 ∧ x1 ≤ 99 → (-2147483648) ≤ x2 ∧ x2 ≤ 2147483647 → ∀ (f38_290 : Int), (-1) ≤ f38_290 ∧ f38_290 ≤ 6 → ∀ (H : Heap) (locs : List Loc), tf_n tf_kt g M_X10_find T s.heap T H locs → tf_s H a0 (g.1.2 10 38) = some (.int (Int32.ofInt f38_290)) → ∀ (ls : Array Slot), lv_has ls 12 [(0, .ref a0), (1, .int (Int32.ofInt x1)), (2, .int (Int32.ofInt x2))] → W p l e R s m args below meth c H locs 0 0 Q (F0 m 290 ls []) := by
    intro hx1_290 hx2_290 f38_290 hf38_290 H locs hW hs38_290 ls hl
    refine tf_iconst hx hb dX10_find_290 ?_
    refine lv_istore (lv' := [(8, .int (Int32.ofInt 0)), (0, .ref a0), (1, .int (Int32.ofInt x1)), (2, .int (Int32.ofInt x2))]) hx hb dX10_find_291 hl (by decide) rfl (fun ls hl => ?_)
    refine lv_aload_n hx hb dX10_find_293 rfl (lv_at hl 1 rfl) ?_
    refine lv_aload_n hx hb dX10_find_294 rfl (lv_at hl 1 rfl) ?_
    refine tf_get hx hb hts inlX10 hown hK (ci := 10) rfl hW ha0 rfl 33 rfl (by decide) (hts _ fl_X10_76) dX10_find_295 (fun v54 hv54 hsv54 => ?_)
    obtain ⟨ad55, rfl, had55⟩ := tf_v1 hv54
    refine lv_iload_n hx hb dX10_find_298 rfl (lv_at hl 2 rfl) ?_
    refine tf_iald (t0 := 0) hx hb hK hW had55 rfl rfl (by omega) (by omega) dX10_find_299 (fun v56 hv56 hsv56 => ?_)
    obtain ⟨z57, rfl, hz57⟩ := tf_v0 hv56
    refine tf_put hx hb hts inlX10 tyX10 tyX10_ok nmX10 hown hK (ci := 10) rfl hW ha0 rfl rfl 41 rfl (by decide) (by decide) (hts _ fl_X10_385) rfl (tf_u0 (by omega) (by omega)) rfl rfl dX10_find_300 (fun H58 locs58 hW hs58 ht58 hq58 => ?_)
    have hs59 := (ht58 38 (by decide) (by decide)).trans hs38_290
    refine lv_aload_n hx hb dX10_find_303 rfl (lv_at hl 1 rfl) ?_
    refine tf_iconst hx hb dX10_find_304 ?_
    refine tf_put hx hb hts inlX10 tyX10 tyX10_ok nmX10 hown hK (ci := 10) rfl hW ha0 rfl rfl 42 rfl (by decide) (by decide) (hts _ fl_X10_388) rfl (tf_u0 (by omega) (by omega)) rfl rfl dX10_find_305 (fun H60 locs60 hW hs60 ht60 hq60 => ?_)
    have hs61 := (ht60 38 (by decide) (by decide)).trans hs59
    have hs62 := (ht60 41 (by decide) (by decide)).trans hs58
    refine tf_iconst hx hb dX10_find_308 ?_
    refine lv_istore (lv' := [(9, .int (Int32.ofInt 1)), (8, .int (Int32.ofInt 0)), (0, .ref a0), (1, .int (Int32.ofInt x1)), (2, .int (Int32.ofInt x2))]) hx hb dX10_find_309 hl (by decide) rfl (fun ls hl => ?_)
    exact j_311 ((4 - 1 + 1 : Int)).toNat ⟨by omega, by omega⟩ ⟨by omega, by omega⟩ (0) ⟨by omega, by omega⟩ (1) ⟨by omega, by omega⟩ (f38_290) ⟨by omega, by omega⟩ (z57) ⟨by omega, by omega⟩ (0) ⟨by omega, by omega⟩ (by omega) _ _ hW hs61 hs62 hs60 _ (lv_sub hl [2, 3, 4, 1, 0] rfl)
  have j_243 : ∀ (n_243 : Nat), 0 ≤ x1 ∧ x1 ≤ 99 → (-2147483648) ≤ x2 ∧ x2 ≤ 2147483647 → ∀ (x8_243 : Int), 0 ≤ x8_243 ∧ x8_243 ≤ 3 → ∀ (f38_243 : Int), (-1) ≤ f38_243 ∧ f38_243 ≤ 6 → (x8_243 - 0 + 1 ≤ (n_243 : Int)) → ∀ (H : Heap) (locs : List Loc), tf_n tf_kt g M_X10_find T s.heap T H locs → tf_s H a0 (g.1.2 10 38) = some (.int (Int32.ofInt f38_243)) → ∀ (ls : Array Slot), lv_has ls 12 [(0, .ref a0), (1, .int (Int32.ofInt x1)), (2, .int (Int32.ofInt x2)), (8, .int (Int32.ofInt x8_243))] → W p l e R s m args below meth c H locs 0 0 Q (F0 m 243 ls []) := by
    intro n_243
    induction n_243 with
    | zero =>
      intro hx1_243 hx2_243 x8_243 hx8_243 f38_243 hf38_243 hm_243
      exfalso; omega
    | succ n_243 ih_243 =>
      intro hx1_243 hx2_243 x8_243 hx8_243 f38_243 hf38_243 hm_243 H locs hW hs38_243 ls hl
      have j_284 : 0 ≤ x1 ∧ x1 ≤ 99 → (-2147483648) ≤ x2 ∧ x2 ≤ 2147483647 → 1 ≤ x8_243 ∧ x8_243 ≤ 3 → ∀ (f38_284 : Int), (-1) ≤ f38_284 ∧ f38_284 ≤ 6 → ∀ (H : Heap) (locs : List Loc), tf_n tf_kt g M_X10_find T s.heap T H locs → tf_s H a0 (g.1.2 10 38) = some (.int (Int32.ofInt f38_284)) → ∀ (ls : Array Slot), lv_has ls 12 [(0, .ref a0), (1, .int (Int32.ofInt x1)), (2, .int (Int32.ofInt x2)), (8, .int (Int32.ofInt x8_243))] → W p l e R s m args below meth c H locs 0 0 Q (F0 m 284 ls []) := by
        intro hx1_284 hx2_284 hx8_284 f38_284 hf38_284 H locs hW hs38_284 ls hl
        refine lv_iinc (v := Int32.ofInt ((x8_243 + (-1)))) (lv' := [(8, .int (Int32.ofInt ((x8_243 + (-1))))), (0, .ref a0), (1, .int (Int32.ofInt x1)), (2, .int (Int32.ofInt x2))]) hx hb dX10_find_284 hl (k := 3) rfl (Int32.ofInt_add _ _).symm (by decide) rfl (fun ls hl => ?_)
        refine lv_goto (tgt := 243) hx hb dX10_find_287 (by decide) ?_
        exact ih_243 ⟨by omega, by omega⟩ ⟨by omega, by omega⟩ ((x8_243 + (-1))) ⟨by omega, by omega⟩ (f38_284) ⟨by omega, by omega⟩ (by omega) _ _ hW hs38_284 _ (lv_sub hl [1, 2, 3, 0] rfl)
      refine lv_iload hx hb dX10_find_243 (lv_at hl 3 rfl) ?_
      refine tf_if_le (tgt := 290) hx hb ⟨by omega, by omega⟩ dX10_find_245 (by decide) (fun h63 => ?_) (fun h63 => ?_)
      · exact j_290 ⟨by omega, by omega⟩ ⟨by omega, by omega⟩ (f38_243) ⟨by omega, by omega⟩ _ _ hW hs38_243 _ (lv_sub hl [0, 1, 2] rfl)
      · refine lv_aload_n hx hb dX10_find_248 rfl (lv_at hl 0 rfl) ?_
        refine lv_iload_n hx hb dX10_find_249 rfl (lv_at hl 1 rfl) ?_
        refine lv_iload_n hx hb dX10_find_250 rfl (lv_at hl 2 rfl) ?_
        refine lv_iload hx hb dX10_find_251 (lv_at hl 3 rfl) ?_
        refine tf_calli (va_runS (As := [.int (Int32.ofInt x1), .int (Int32.ofInt x2), .int (Int32.ofInt x8_243)]) (rest := [.ref a0]) ⟨hx, hb, hml, hown, hts⟩ (c_X10_upFrom l g T (x1) ⟨by omega, by omega⟩ (x2) ⟨by omega, by omega⟩ (x8_243) ⟨by omega, by omega⟩) ⟨callB_of 3 hts (gw_ws cm_X10_upFrom) rfl rfl rfl (hts _ (tw1 (i := 5) rfl)) (hts _ (tw36 (i := 18) rfl)) hd_X10_upFrom.2 ⟨Nat.le_trans (by decide) hR1, Nat.le_trans (by decide) hR2⟩, hts _ (tw36 (i := 19) rfl)⟩ (tf_preS hk hW trivial) rfl rfl hl.1 rfl (lv_room (Nat.le_of_ble_eq_true rfl)) dX10_find_253 ⟨Nat.zero_le _, Nat.zero_le _⟩) hW (by decide) (fun z64 H64 locs64 hW hF64 hp64 => ?_)
        have hs65 := tf_keepF hF64 ha0 rfl rfl (by decide) hs38_243
        obtain ⟨hp64_0, hp64_1⟩ := hp64
        refine tf_calli (va_runV (As := [.int (Int32.ofInt z64)]) (rest := []) ⟨hx, hb, hml, hown, hts⟩ (c_X10_standing l g T a0 ha0 (z64) ⟨by omega, by omega⟩) (cwV 1 hts gv_X10_370 rfl rfl rfl hd_X10_standing ⟨Nat.le_trans (by decide) hR1, Nat.le_trans (by decide) hR2⟩) (tf_preV hk hW ha0 (ci := 10) rfl rfl trivial) rfl rfl hl.1 rfl (lv_room (Nat.le_of_ble_eq_true rfl)) dX10_find_256 ⟨Nat.zero_le _, Nat.zero_le _⟩) hW (by decide) (fun z66 H66 locs66 hW hF66 hp66 => ?_)
        have hs67 := tf_keepF hF66 ha0 rfl rfl (by decide) hs65
        obtain ⟨hp66_0, hp66_1⟩ := hp66
        refine lv_istore (lv' := [(9, .int (Int32.ofInt z66)), (0, .ref a0), (1, .int (Int32.ofInt x1)), (2, .int (Int32.ofInt x2)), (8, .int (Int32.ofInt x8_243))]) hx hb dX10_find_259 hl (by decide) rfl (fun ls hl => ?_)
        refine lv_iload hx hb dX10_find_261 (lv_at hl 0 rfl) ?_
        refine tf_iconst hx hb dX10_find_263 ?_
        refine tf_icmp_eq (tgt := 284) hx hb ⟨by omega, by omega⟩ ⟨by decide, by decide⟩ dX10_find_264 (by decide) (fun h68 => ?_) (fun h68 => ?_)
        · exact j_284 ⟨by omega, by omega⟩ ⟨by omega, by omega⟩ ⟨by omega, by omega⟩ (f38_243) ⟨by omega, by omega⟩ _ _ hW hs67 _ (lv_sub hl [1, 2, 3, 4] rfl)
        · refine lv_aload_n hx hb dX10_find_267 rfl (lv_at hl 1 rfl) ?_
          refine tf_iconst hx hb dX10_find_268 ?_
          refine tf_put hx hb hts inlX10 tyX10 tyX10_ok nmX10 hown hK (ci := 10) rfl hW ha0 rfl rfl 37 rfl (by decide) (by decide) (hts _ fl_X10_376) rfl (tf_u0 (by omega) (by omega)) rfl rfl dX10_find_269 (fun H69 locs69 hW hs69 ht69 hq69 => ?_)
          have hs70 := (ht69 38 (by decide) (by decide)).trans hs67
          refine lv_aload_n hx hb dX10_find_272 rfl (lv_at hl 1 rfl) ?_
          refine lv_iload hx hb dX10_find_273 (lv_at hl 0 rfl) ?_
          refine tf_put hx hb hts inlX10 tyX10 tyX10_ok nmX10 hown hK (ci := 10) rfl hW ha0 rfl rfl 38 rfl (by decide) (by decide) (hts _ fl_X10_379) rfl (tf_u0 (by omega) (by omega)) rfl rfl dX10_find_275 (fun H71 locs71 hW hs71 ht71 hq71 => ?_)
          refine lv_aload_n hx hb dX10_find_278 rfl (lv_at hl 1 rfl) ?_
          refine lv_iload hx hb dX10_find_279 (lv_at hl 4 rfl) ?_
          refine tf_put hx hb hts inlX10 tyX10 tyX10_ok nmX10 hown hK (ci := 10) rfl hW ha0 rfl rfl 39 rfl (by decide) (by decide) (hts _ fl_X10_382) rfl (tf_u0 (by omega) (by omega)) rfl rfl dX10_find_281 (fun H72 locs72 hW hs72 ht72 hq72 => ?_)
          have hs73 := (ht72 38 (by decide) (by decide)).trans hs71
          exact j_284 ⟨by omega, by omega⟩ ⟨by omega, by omega⟩ ⟨by omega, by omega⟩ (z66) ⟨by omega, by omega⟩ _ _ hW hs73 _ (lv_sub hl [1, 2, 3, 4] rfl)
  have j_240 : 0 ≤ x1 ∧ x1 ≤ 99 → (-2147483648) ≤ x2 ∧ x2 ≤ 2147483647 → ∀ (f38_240 : Int), (-1) ≤ f38_240 ∧ f38_240 ≤ (-1) → ∀ (H : Heap) (locs : List Loc), tf_n tf_kt g M_X10_find T s.heap T H locs → tf_s H a0 (g.1.2 10 38) = some (.int (Int32.ofInt f38_240)) → ∀ (ls : Array Slot), lv_has ls 12 [(0, .ref a0), (1, .int (Int32.ofInt x1)), (2, .int (Int32.ofInt x2))] → W p l e R s m args below meth c H locs 0 0 Q (F0 m 240 ls []) := by
    intro hx1_240 hx2_240 f38_240 hf38_240 H locs hW hs38_240 ls hl
    refine tf_iconst hx hb dX10_find_240 ?_
    refine lv_istore (lv' := [(8, .int (Int32.ofInt 3)), (0, .ref a0), (1, .int (Int32.ofInt x1)), (2, .int (Int32.ofInt x2))]) hx hb dX10_find_241 hl (by decide) rfl (fun ls hl => ?_)
    exact j_243 ((3 - 0 + 1 : Int)).toNat ⟨by omega, by omega⟩ ⟨by omega, by omega⟩ (3) ⟨by omega, by omega⟩ (f38_240) ⟨by omega, by omega⟩ (by omega) _ _ hW hs38_240 _ (lv_sub hl [1, 2, 3, 0] rfl)
  have j_205 : 0 ≤ x1 ∧ x1 ≤ 99 → (-2147483648) ≤ x2 ∧ x2 ≤ 2147483647 → ∀ (x4_205 : Int), (-1) ≤ x4_205 ∧ x4_205 ≤ 99 → ∀ (x6_205 : Int), (-1) ≤ x6_205 ∧ x6_205 ≤ 6 → ∀ (f38_205 : Int), (-1) ≤ f38_205 ∧ f38_205 ≤ (-1) → ∀ (H : Heap) (locs : List Loc), tf_n tf_kt g M_X10_find T s.heap T H locs → tf_s H a0 (g.1.2 10 38) = some (.int (Int32.ofInt f38_205)) → ∀ (ls : Array Slot), lv_has ls 12 [(0, .ref a0), (1, .int (Int32.ofInt x1)), (2, .int (Int32.ofInt x2)), (4, .int (Int32.ofInt x4_205)), (6, .int (Int32.ofInt x6_205))] → W p l e R s m args below meth c H locs 0 0 Q (F0 m 205 ls []) := by
    intro hx1_205 hx2_205 x4_205 hx4_205 x6_205 hx6_205 f38_205 hf38_205 H locs hW hs38_205 ls hl
    refine lv_iload hx hb dX10_find_205 (lv_at hl 4 rfl) ?_
    refine tf_iconst hx hb dX10_find_207 ?_
    refine tf_icmp_eq (tgt := 240) hx hb ⟨by omega, by omega⟩ ⟨by decide, by decide⟩ dX10_find_208 (by decide) (fun h74 => ?_) (fun h74 => ?_)
    · exact j_240 ⟨by omega, by omega⟩ ⟨by omega, by omega⟩ (f38_205) ⟨by omega, by omega⟩ _ _ hW hs38_205 _ (lv_sub hl [0, 1, 2] rfl)
    · refine lv_aload_n hx hb dX10_find_211 rfl (lv_at hl 0 rfl) ?_
      refine lv_iload hx hb dX10_find_212 (lv_at hl 3 rfl) ?_
      refine lv_iload_n hx hb dX10_find_214 rfl (lv_at hl 2 rfl) ?_
      refine tf_iconst hx hb dX10_find_215 ?_
      refine tf_calli (va_runS (As := [.int (Int32.ofInt x4_205), .int (Int32.ofInt x2), .int (Int32.ofInt 1)]) (rest := [.ref a0]) ⟨hx, hb, hml, hown, hts⟩ (c_X10_upFrom l g T (x4_205) ⟨by omega, by omega⟩ (x2) ⟨by omega, by omega⟩ (1) ⟨by omega, by omega⟩) ⟨callB_of 3 hts (gw_ws cm_X10_upFrom) rfl rfl rfl (hts _ (tw1 (i := 5) rfl)) (hts _ (tw36 (i := 18) rfl)) hd_X10_upFrom.2 ⟨Nat.le_trans (by decide) hR1, Nat.le_trans (by decide) hR2⟩, hts _ (tw36 (i := 19) rfl)⟩ (tf_preS hk hW trivial) rfl rfl hl.1 rfl (lv_room (Nat.le_of_ble_eq_true rfl)) dX10_find_216 ⟨Nat.zero_le _, Nat.zero_le _⟩) hW (by decide) (fun z75 H75 locs75 hW hF75 hp75 => ?_)
      have hs76 := tf_keepF hF75 ha0 rfl rfl (by decide) hs38_205
      obtain ⟨hp75_0, hp75_1⟩ := hp75
      refine tf_calli (va_runV (As := [.int (Int32.ofInt z75)]) (rest := []) ⟨hx, hb, hml, hown, hts⟩ (c_X10_standing l g T a0 ha0 (z75) ⟨by omega, by omega⟩) (cwV 1 hts gv_X10_370 rfl rfl rfl hd_X10_standing ⟨Nat.le_trans (by decide) hR1, Nat.le_trans (by decide) hR2⟩) (tf_preV hk hW ha0 (ci := 10) rfl rfl trivial) rfl rfl hl.1 rfl (lv_room (Nat.le_of_ble_eq_true rfl)) dX10_find_219 ⟨Nat.zero_le _, Nat.zero_le _⟩) hW (by decide) (fun z77 H77 locs77 hW hF77 hp77 => ?_)
      have hs78 := tf_keepF hF77 ha0 rfl rfl (by decide) hs76
      obtain ⟨hp77_0, hp77_1⟩ := hp77
      refine tf_iconst hx hb dX10_find_222 ?_
      refine tf_icmp_ne (tgt := 240) hx hb ⟨by omega, by omega⟩ ⟨by decide, by decide⟩ dX10_find_223 (by decide) (fun h79 => ?_) (fun h79 => ?_)
      · exact j_240 ⟨by omega, by omega⟩ ⟨by omega, by omega⟩ (f38_205) ⟨by omega, by omega⟩ _ _ hW hs78 _ (lv_sub hl [0, 1, 2] rfl)
      · refine lv_aload_n hx hb dX10_find_226 rfl (lv_at hl 0 rfl) ?_
        refine tf_iconst hx hb dX10_find_227 ?_
        refine tf_put hx hb hts inlX10 tyX10 tyX10_ok nmX10 hown hK (ci := 10) rfl hW ha0 rfl rfl 37 rfl (by decide) (by decide) (hts _ fl_X10_376) rfl (tf_u0 (by omega) (by omega)) rfl rfl dX10_find_228 (fun H80 locs80 hW hs80 ht80 hq80 => ?_)
        have hs81 := (ht80 38 (by decide) (by decide)).trans hs78
        refine lv_aload_n hx hb dX10_find_231 rfl (lv_at hl 0 rfl) ?_
        refine lv_iload hx hb dX10_find_232 (lv_at hl 4 rfl) ?_
        refine tf_put hx hb hts inlX10 tyX10 tyX10_ok nmX10 hown hK (ci := 10) rfl hW ha0 rfl rfl 38 rfl (by decide) (by decide) (hts _ fl_X10_379) rfl (tf_u0 (by omega) (by omega)) rfl rfl dX10_find_234 (fun H82 locs82 hW hs82 ht82 hq82 => ?_)
        refine lv_goto (tgt := 290) hx hb dX10_find_237 (by decide) ?_
        exact j_290 ⟨by omega, by omega⟩ ⟨by omega, by omega⟩ (x6_205) ⟨by omega, by omega⟩ _ _ hW hs82 _ (lv_sub hl [0, 1, 2] rfl)
  have j_151 : 0 ≤ x1 ∧ x1 ≤ 99 → (-2147483648) ≤ x2 ∧ x2 ≤ 2147483647 → ∀ (x3_151 : Int), (-1) ≤ x3_151 ∧ x3_151 ≤ 99 → ∀ (x4_151 : Int), (-1) ≤ x4_151 ∧ x4_151 ≤ 99 → ∀ (x5_151 : Int), (-1) ≤ x5_151 ∧ x5_151 ≤ 6 → ∀ (x6_151 : Int), (-1) ≤ x6_151 ∧ x6_151 ≤ 6 → ∀ (x7_151 : Int), (-1) ≤ x7_151 ∧ x7_151 ≤ 6 → ∀ (f38_151 : Int), (-1) ≤ f38_151 ∧ f38_151 ≤ (-1) → ∀ (H : Heap) (locs : List Loc), tf_n tf_kt g M_X10_find T s.heap T H locs → tf_s H a0 (g.1.2 10 38) = some (.int (Int32.ofInt f38_151)) → ∀ (ls : Array Slot), lv_has ls 12 [(0, .ref a0), (1, .int (Int32.ofInt x1)), (2, .int (Int32.ofInt x2)), (3, .int (Int32.ofInt x3_151)), (4, .int (Int32.ofInt x4_151)), (5, .int (Int32.ofInt x5_151)), (6, .int (Int32.ofInt x6_151)), (7, .int (Int32.ofInt x7_151))] → W p l e R s m args below meth c H locs 0 0 Q (F0 m 151 ls []) := by
    intro hx1_151 hx2_151 x3_151 hx3_151 x4_151 hx4_151 x5_151 hx5_151 x6_151 hx6_151 x7_151 hx7_151 f38_151 hf38_151 H locs hW hs38_151 ls hl
    refine lv_iload hx hb dX10_find_151 (lv_at hl 7 rfl) ?_
    refine tf_iconst hx hb dX10_find_153 ?_
    refine tf_icmp_eq (tgt := 171) hx hb ⟨by omega, by omega⟩ ⟨by decide, by decide⟩ dX10_find_154 (by decide) (fun h83 => ?_) (fun h83 => ?_)
    · refine lv_iload hx hb dX10_find_171 (lv_at hl 5 rfl) ?_
      refine tf_iconst hx hb dX10_find_173 ?_
      refine tf_icmp_eq (tgt := 205) hx hb ⟨by omega, by omega⟩ ⟨by decide, by decide⟩ dX10_find_174 (by decide) (fun h84 => ?_) (fun h84 => ?_)
      · exact j_205 ⟨by omega, by omega⟩ ⟨by omega, by omega⟩ (x4_151) ⟨by omega, by omega⟩ (x6_151) ⟨by omega, by omega⟩ (f38_151) ⟨by omega, by omega⟩ _ _ hW hs38_151 _ (lv_sub hl [0, 1, 2, 4, 6] rfl)
      · refine lv_aload_n hx hb dX10_find_177 rfl (lv_at hl 0 rfl) ?_
        refine lv_iload_n hx hb dX10_find_178 rfl (lv_at hl 3 rfl) ?_
        refine lv_iload_n hx hb dX10_find_179 rfl (lv_at hl 2 rfl) ?_
        refine tf_iconst hx hb dX10_find_180 ?_
        refine tf_calli (va_runS (As := [.int (Int32.ofInt x3_151), .int (Int32.ofInt x2), .int (Int32.ofInt 1)]) (rest := [.ref a0]) ⟨hx, hb, hml, hown, hts⟩ (c_X10_upFrom l g T (x3_151) ⟨by omega, by omega⟩ (x2) ⟨by omega, by omega⟩ (1) ⟨by omega, by omega⟩) ⟨callB_of 3 hts (gw_ws cm_X10_upFrom) rfl rfl rfl (hts _ (tw1 (i := 5) rfl)) (hts _ (tw36 (i := 18) rfl)) hd_X10_upFrom.2 ⟨Nat.le_trans (by decide) hR1, Nat.le_trans (by decide) hR2⟩, hts _ (tw36 (i := 19) rfl)⟩ (tf_preS hk hW trivial) rfl rfl hl.1 rfl (lv_room (Nat.le_of_ble_eq_true rfl)) dX10_find_181 ⟨Nat.zero_le _, Nat.zero_le _⟩) hW (by decide) (fun z85 H85 locs85 hW hF85 hp85 => ?_)
        have hs86 := tf_keepF hF85 ha0 rfl rfl (by decide) hs38_151
        obtain ⟨hp85_0, hp85_1⟩ := hp85
        refine tf_calli (va_runV (As := [.int (Int32.ofInt z85)]) (rest := []) ⟨hx, hb, hml, hown, hts⟩ (c_X10_standing l g T a0 ha0 (z85) ⟨by omega, by omega⟩) (cwV 1 hts gv_X10_370 rfl rfl rfl hd_X10_standing ⟨Nat.le_trans (by decide) hR1, Nat.le_trans (by decide) hR2⟩) (tf_preV hk hW ha0 (ci := 10) rfl rfl trivial) rfl rfl hl.1 rfl (lv_room (Nat.le_of_ble_eq_true rfl)) dX10_find_184 ⟨Nat.zero_le _, Nat.zero_le _⟩) hW (by decide) (fun z87 H87 locs87 hW hF87 hp87 => ?_)
        have hs88 := tf_keepF hF87 ha0 rfl rfl (by decide) hs86
        obtain ⟨hp87_0, hp87_1⟩ := hp87
        refine tf_iconst hx hb dX10_find_187 ?_
        refine tf_icmp_ne (tgt := 205) hx hb ⟨by omega, by omega⟩ ⟨by decide, by decide⟩ dX10_find_188 (by decide) (fun h89 => ?_) (fun h89 => ?_)
        · exact j_205 ⟨by omega, by omega⟩ ⟨by omega, by omega⟩ (x4_151) ⟨by omega, by omega⟩ (x6_151) ⟨by omega, by omega⟩ (f38_151) ⟨by omega, by omega⟩ _ _ hW hs88 _ (lv_sub hl [0, 1, 2, 4, 6] rfl)
        · refine lv_aload_n hx hb dX10_find_191 rfl (lv_at hl 0 rfl) ?_
          refine tf_iconst hx hb dX10_find_192 ?_
          refine tf_put hx hb hts inlX10 tyX10 tyX10_ok nmX10 hown hK (ci := 10) rfl hW ha0 rfl rfl 37 rfl (by decide) (by decide) (hts _ fl_X10_376) rfl (tf_u0 (by omega) (by omega)) rfl rfl dX10_find_193 (fun H90 locs90 hW hs90 ht90 hq90 => ?_)
          have hs91 := (ht90 38 (by decide) (by decide)).trans hs88
          refine lv_aload_n hx hb dX10_find_196 rfl (lv_at hl 0 rfl) ?_
          refine lv_iload hx hb dX10_find_197 (lv_at hl 5 rfl) ?_
          refine tf_put hx hb hts inlX10 tyX10 tyX10_ok nmX10 hown hK (ci := 10) rfl hW ha0 rfl rfl 38 rfl (by decide) (by decide) (hts _ fl_X10_379) rfl (tf_u0 (by omega) (by omega)) rfl rfl dX10_find_199 (fun H92 locs92 hW hs92 ht92 hq92 => ?_)
          refine lv_goto (tgt := 290) hx hb dX10_find_202 (by decide) ?_
          exact j_290 ⟨by omega, by omega⟩ ⟨by omega, by omega⟩ (x5_151) ⟨by omega, by omega⟩ _ _ hW hs92 _ (lv_sub hl [0, 1, 2] rfl)
    · refine lv_aload_n hx hb dX10_find_157 rfl (lv_at hl 0 rfl) ?_
      refine tf_iconst hx hb dX10_find_158 ?_
      refine tf_put hx hb hts inlX10 tyX10 tyX10_ok nmX10 hown hK (ci := 10) rfl hW ha0 rfl rfl 37 rfl (by decide) (by decide) (hts _ fl_X10_376) rfl (tf_u0 (by omega) (by omega)) rfl rfl dX10_find_159 (fun H93 locs93 hW hs93 ht93 hq93 => ?_)
      have hs94 := (ht93 38 (by decide) (by decide)).trans hs38_151
      refine lv_aload_n hx hb dX10_find_162 rfl (lv_at hl 0 rfl) ?_
      refine lv_iload hx hb dX10_find_163 (lv_at hl 7 rfl) ?_
      refine tf_put hx hb hts inlX10 tyX10 tyX10_ok nmX10 hown hK (ci := 10) rfl hW ha0 rfl rfl 38 rfl (by decide) (by decide) (hts _ fl_X10_379) rfl (tf_u0 (by omega) (by omega)) rfl rfl dX10_find_165 (fun H95 locs95 hW hs95 ht95 hq95 => ?_)
      refine lv_goto (tgt := 290) hx hb dX10_find_168 (by decide) ?_
      exact j_290 ⟨by omega, by omega⟩ ⟨by omega, by omega⟩ (x7_151) ⟨by omega, by omega⟩ _ _ hW hs95 _ (lv_sub hl [0, 1, 2] rfl)
  have j_145 : 0 ≤ x1 ∧ x1 ≤ 99 → (-2147483648) ≤ x2 ∧ x2 ≤ 2147483647 → ∀ (y1_145 : Int), 0 ≤ y1_145 ∧ y1_145 ≤ 6 → ∀ (H : Heap) (locs : List Loc), tf_n tf_kt g M_X10_find T s.heap T H locs → ∀ (ls : Array Slot), lv_has ls 12 [(0, .ref a0), (1, .int (Int32.ofInt x1)), (2, .int (Int32.ofInt x2))] → W p l e R s m args below meth c H locs 0 0 Q (F0 m 145 ls [.int (Int32.ofInt y1_145), .ref a0]) := by
    intro hx1_145 hx2_145 y1_145 hy1_145 H locs hW  ls hl
    refine tf_put hx hb hts inlX10 tyX10 tyX10_ok nmX10 hown hK (ci := 10) rfl hW ha0 rfl rfl 38 rfl (by decide) (by decide) (hts _ fl_X10_379) rfl (tf_u0 (by omega) (by omega)) rfl rfl dX10_find_145 (fun H96 locs96 hW hs96 ht96 hq96 => ?_)
    refine lv_goto (tgt := 290) hx hb dX10_find_148 (by decide) ?_
    exact j_290 ⟨by omega, by omega⟩ ⟨by omega, by omega⟩ (y1_145) ⟨by omega, by omega⟩ _ _ hW hs96 _ (lv_sub hl [0, 1, 2] rfl)
  have j_118 : 0 ≤ x1 ∧ x1 ≤ 99 → (-2147483648) ≤ x2 ∧ x2 ≤ 2147483647 → ∀ (x8_118 : Int), 0 ≤ x8_118 ∧ x8_118 ≤ 6 → ∀ (y0_118 : Int), 0 ≤ y0_118 ∧ y0_118 ≤ 6 → ∀ (H : Heap) (locs : List Loc), tf_n tf_kt g M_X10_find T s.heap T H locs → ∀ (ls : Array Slot), lv_has ls 12 [(0, .ref a0), (1, .int (Int32.ofInt x1)), (2, .int (Int32.ofInt x2)), (8, .int (Int32.ofInt x8_118))] → W p l e R s m args below meth c H locs 0 0 Q (F0 m 118 ls [.int (Int32.ofInt y0_118)]) := by
    intro hx1_118 hx2_118 x8_118 hx8_118 y0_118 hy0_118 H locs hW  ls hl
    refine lv_istore (lv' := [(9, .int (Int32.ofInt y0_118)), (0, .ref a0), (1, .int (Int32.ofInt x1)), (2, .int (Int32.ofInt x2)), (8, .int (Int32.ofInt x8_118))]) hx hb dX10_find_118 hl (by decide) rfl (fun ls hl => ?_)
    refine lv_aload_n hx hb dX10_find_120 rfl (lv_at hl 1 rfl) ?_
    refine lv_aload_n hx hb dX10_find_121 rfl (lv_at hl 1 rfl) ?_
    refine tf_get hx hb hts inlX10 hown hK (ci := 10) rfl hW ha0 rfl 36 rfl (by decide) (hts _ fl_X10_85) dX10_find_122 (fun v97 hv97 hsv97 => ?_)
    obtain ⟨ad98, rfl, had98⟩ := tf_v1 hv97
    refine lv_iload hx hb dX10_find_125 (lv_at hl 0 rfl) ?_
    refine tf_iald (t0 := 0) hx hb hK hW had98 rfl rfl (by omega) (by omega) dX10_find_127 (fun v99 hv99 hsv99 => ?_)
    obtain ⟨z100, rfl, hz100⟩ := tf_v0 hv99
    refine lv_aload_n hx hb dX10_find_128 rfl (lv_at hl 1 rfl) ?_
    refine tf_get hx hb hts inlX10 hown hK (ci := 10) rfl hW ha0 rfl 36 rfl (by decide) (hts _ fl_X10_85) dX10_find_129 (fun v101 hv101 hsv101 => ?_)
    obtain rfl : v101 = .ref ad98 := Option.some.inj (hsv101.symm.trans hsv97)
    refine lv_iload hx hb dX10_find_132 (lv_at hl 4 rfl) ?_
    refine tf_iald (t0 := 0) hx hb hK hW had98 rfl rfl (by omega) (by omega) dX10_find_134 (fun v102 hv102 hsv102 => ?_)
    obtain ⟨z103, rfl, hz103⟩ := tf_v0 hv102
    refine tf_icmp_le (tgt := 143) hx hb ⟨by omega, by omega⟩ ⟨by omega, by omega⟩ dX10_find_135 (by decide) (fun h104 => ?_) (fun h104 => ?_)
    · refine lv_iload hx hb dX10_find_143 (lv_at hl 4 rfl) ?_
      exact j_145 ⟨by omega, by omega⟩ ⟨by omega, by omega⟩ (x8_118) ⟨by omega, by omega⟩ _ _ hW  _ (lv_sub hl [1, 2, 3] rfl)
    · refine lv_iload hx hb dX10_find_138 (lv_at hl 0 rfl) ?_
      refine lv_goto (tgt := 145) hx hb dX10_find_140 (by decide) ?_
      exact j_145 ⟨by omega, by omega⟩ ⟨by omega, by omega⟩ (y0_118) ⟨by omega, by omega⟩ _ _ hW  _ (lv_sub hl [1, 2, 3] rfl)
  have j_102 : 0 ≤ x1 ∧ x1 ≤ 99 → (-2147483648) ≤ x2 ∧ x2 ≤ 2147483647 → ∀ (x5_102 : Int), 0 ≤ x5_102 ∧ x5_102 ≤ 6 → ∀ (x6_102 : Int), 0 ≤ x6_102 ∧ x6_102 ≤ 6 → ∀ (y0_102 : Int), 0 ≤ y0_102 ∧ y0_102 ≤ 6 → ∀ (H : Heap) (locs : List Loc), tf_n tf_kt g M_X10_find T s.heap T H locs → ∀ (ls : Array Slot), lv_has ls 12 [(0, .ref a0), (1, .int (Int32.ofInt x1)), (2, .int (Int32.ofInt x2)), (5, .int (Int32.ofInt x5_102)), (6, .int (Int32.ofInt x6_102))] → W p l e R s m args below meth c H locs 0 0 Q (F0 m 102 ls [.int (Int32.ofInt y0_102)]) := by
    intro hx1_102 hx2_102 x5_102 hx5_102 x6_102 hx6_102 y0_102 hy0_102 H locs hW  ls hl
    refine lv_istore (lv' := [(8, .int (Int32.ofInt y0_102)), (0, .ref a0), (1, .int (Int32.ofInt x1)), (2, .int (Int32.ofInt x2)), (5, .int (Int32.ofInt x5_102)), (6, .int (Int32.ofInt x6_102))]) hx hb dX10_find_102 hl (by decide) rfl (fun ls hl => ?_)
    refine lv_iload hx hb dX10_find_104 (lv_at hl 4 rfl) ?_
    refine lv_iload hx hb dX10_find_106 (lv_at hl 5 rfl) ?_
    refine tf_icmp_ge (tgt := 116) hx hb ⟨by omega, by omega⟩ ⟨by omega, by omega⟩ dX10_find_108 (by decide) (fun h105 => ?_) (fun h105 => ?_)
    · refine lv_iload hx hb dX10_find_116 (lv_at hl 4 rfl) ?_
      exact j_118 ⟨by omega, by omega⟩ ⟨by omega, by omega⟩ (y0_102) ⟨by omega, by omega⟩ (x5_102) ⟨by omega, by omega⟩ _ _ hW  _ (lv_sub hl [1, 2, 3, 0] rfl)
    · refine lv_iload hx hb dX10_find_111 (lv_at hl 5 rfl) ?_
      refine lv_goto (tgt := 118) hx hb dX10_find_113 (by decide) ?_
      exact j_118 ⟨by omega, by omega⟩ ⟨by omega, by omega⟩ (y0_102) ⟨by omega, by omega⟩ (x6_102) ⟨by omega, by omega⟩ _ _ hW  _ (lv_sub hl [1, 2, 3, 0] rfl)
  refine tf_enter (As := [.ref a0, .int (Int32.ofInt x1), .int (Int32.ofInt x2)]) hargs (Nat.le_of_ble_eq_true rfl) (fun ls hl => ?_)
  have hl : lv_has ls 12 [(0, .ref a0), (1, .int (Int32.ofInt x1)), (2, .int (Int32.ofInt x2))] := hl
  refine lv_iload_n hx hb dX10_find_0 rfl (lv_at hl 1 rfl) ?_
  refine lv_iload_n hx hb dX10_find_1 rfl (lv_at hl 2 rfl) ?_
  refine tf_calli (va_runS (As := [.int (Int32.ofInt x2)]) (rest := [.int (Int32.ofInt x1)]) ⟨hx, hb, hml, hown, hts⟩ (c_X10_upY l g T (x2) ⟨by omega, by omega⟩) ⟨callB_of 1 hts (gw_ws cm_X10_upY) rfl rfl rfl (hts _ (tw1 (i := 5) rfl)) (hts _ (tw36 (i := 5) rfl)) hd_X10_upY.2 ⟨Nat.le_trans (by decide) hR1, Nat.le_trans (by decide) hR2⟩, hts _ (tw36 (i := 6) rfl)⟩ (tf_preS hk hW trivial) rfl rfl hl.1 rfl (lv_room (Nat.le_of_ble_eq_true rfl)) dX10_find_2 ⟨Nat.zero_le _, Nat.zero_le _⟩) hW (by decide) (fun z106 H106 locs106 hW hF106 hp106 => ?_)
  obtain ⟨hp106_0, hp106_1⟩ := hp106
  refine lv_iload_n hx hb dX10_find_5 rfl (lv_at hl 2 rfl) ?_
  refine tf_calli (va_runS (As := [.int (Int32.ofInt x2)]) (rest := [.int (Int32.ofInt z106), .int (Int32.ofInt x1)]) ⟨hx, hb, hml, hown, hts⟩ (c_X10_upX l g T (x2) ⟨by omega, by omega⟩) ⟨callB_of 1 hts (gw_ws cm_X10_upX) rfl rfl rfl (hts _ (tw1 (i := 5) rfl)) (hts _ (tw36 (i := 8) rfl)) hd_X10_upX.2 ⟨Nat.le_trans (by decide) hR1, Nat.le_trans (by decide) hR2⟩, hts _ (tw36 (i := 9) rfl)⟩ (tf_preS hk hW trivial) rfl rfl hl.1 rfl (lv_room (Nat.le_of_ble_eq_true rfl)) dX10_find_6 ⟨Nat.zero_le _, Nat.zero_le _⟩) hW (by decide) (fun z107 H107 locs107 hW hF107 hp107 => ?_)
  obtain ⟨hp107_0, hp107_1⟩ := hp107
  refine tf_calli (va_runS (As := [.int (Int32.ofInt x1), .int (Int32.ofInt z106), .int (Int32.ofInt z107)]) (rest := []) ⟨hx, hb, hml, hown, hts⟩ (c_X10_cellAt l g T (x1) ⟨by omega, by omega⟩ (z106) ⟨by omega, by omega⟩ (z107) ⟨by omega, by omega⟩) ⟨callB_of 3 hts (gw_ws cm_X10_cellAt) rfl rfl rfl (hts _ (tw1 (i := 5) rfl)) (hts _ (tw36 (i := 11) rfl)) hd_X10_cellAt.2 ⟨Nat.le_trans (by decide) hR1, Nat.le_trans (by decide) hR2⟩, hts _ (tw36 (i := 12) rfl)⟩ (tf_preS hk hW trivial) rfl rfl hl.1 rfl (lv_room (Nat.le_of_ble_eq_true rfl)) dX10_find_9 ⟨Nat.zero_le _, Nat.zero_le _⟩) hW (by decide) (fun z108 H108 locs108 hW hF108 hp108 => ?_)
  obtain ⟨hp108_0, hp108_1⟩ := hp108
  refine lv_istore_n (lv' := [(3, .int (Int32.ofInt z108)), (0, .ref a0), (1, .int (Int32.ofInt x1)), (2, .int (Int32.ofInt x2))]) hx hb dX10_find_12 rfl hl (by decide) rfl (fun ls hl => ?_)
  refine lv_iload_n hx hb dX10_find_13 rfl (lv_at hl 2 rfl) ?_
  refine lv_iload_n hx hb dX10_find_14 rfl (lv_at hl 3 rfl) ?_
  refine tf_calli (va_runS (As := [.int (Int32.ofInt x2)]) (rest := [.int (Int32.ofInt x1)]) ⟨hx, hb, hml, hown, hts⟩ (c_X10_upY l g T (x2) ⟨by omega, by omega⟩) ⟨callB_of 1 hts (gw_ws cm_X10_upY) rfl rfl rfl (hts _ (tw1 (i := 5) rfl)) (hts _ (tw36 (i := 5) rfl)) hd_X10_upY.2 ⟨Nat.le_trans (by decide) hR1, Nat.le_trans (by decide) hR2⟩, hts _ (tw36 (i := 6) rfl)⟩ (tf_preS hk hW trivial) rfl rfl hl.1 rfl (lv_room (Nat.le_of_ble_eq_true rfl)) dX10_find_15 ⟨Nat.zero_le _, Nat.zero_le _⟩) hW (by decide) (fun z109 H109 locs109 hW hF109 hp109 => ?_)
  obtain ⟨hp109_0, hp109_1⟩ := hp109
  refine tf_ineg hx hb dX10_find_18 ?_
  refine lv_iload_n hx hb dX10_find_19 rfl (lv_at hl 3 rfl) ?_
  refine tf_calli (va_runS (As := [.int (Int32.ofInt x2)]) (rest := [.int (Int32.ofInt ((-z109))), .int (Int32.ofInt x1)]) ⟨hx, hb, hml, hown, hts⟩ (c_X10_upX l g T (x2) ⟨by omega, by omega⟩) ⟨callB_of 1 hts (gw_ws cm_X10_upX) rfl rfl rfl (hts _ (tw1 (i := 5) rfl)) (hts _ (tw36 (i := 8) rfl)) hd_X10_upX.2 ⟨Nat.le_trans (by decide) hR1, Nat.le_trans (by decide) hR2⟩, hts _ (tw36 (i := 9) rfl)⟩ (tf_preS hk hW trivial) rfl rfl hl.1 rfl (lv_room (Nat.le_of_ble_eq_true rfl)) dX10_find_20 ⟨Nat.zero_le _, Nat.zero_le _⟩) hW (by decide) (fun z110 H110 locs110 hW hF110 hp110 => ?_)
  obtain ⟨hp110_0, hp110_1⟩ := hp110
  refine tf_ineg hx hb dX10_find_23 ?_
  refine tf_calli (va_runS (As := [.int (Int32.ofInt x1), .int (Int32.ofInt ((-z109))), .int (Int32.ofInt ((-z110)))]) (rest := []) ⟨hx, hb, hml, hown, hts⟩ (c_X10_cellAt l g T (x1) ⟨by omega, by omega⟩ ((-z109)) ⟨by omega, by omega⟩ ((-z110)) ⟨by omega, by omega⟩) ⟨callB_of 3 hts (gw_ws cm_X10_cellAt) rfl rfl rfl (hts _ (tw1 (i := 5) rfl)) (hts _ (tw36 (i := 11) rfl)) hd_X10_cellAt.2 ⟨Nat.le_trans (by decide) hR1, Nat.le_trans (by decide) hR2⟩, hts _ (tw36 (i := 12) rfl)⟩ (tf_preS hk hW trivial) rfl rfl hl.1 rfl (lv_room (Nat.le_of_ble_eq_true rfl)) dX10_find_24 ⟨Nat.zero_le _, Nat.zero_le _⟩) hW (by decide) (fun z111 H111 locs111 hW hF111 hp111 => ?_)
  obtain ⟨hp111_0, hp111_1⟩ := hp111
  refine lv_istore (lv' := [(4, .int (Int32.ofInt z111)), (3, .int (Int32.ofInt z108)), (0, .ref a0), (1, .int (Int32.ofInt x1)), (2, .int (Int32.ofInt x2))]) hx hb dX10_find_27 hl (by decide) rfl (fun ls hl => ?_)
  refine lv_aload_n hx hb dX10_find_29 rfl (lv_at hl 2 rfl) ?_
  refine lv_iload_n hx hb dX10_find_30 rfl (lv_at hl 1 rfl) ?_
  refine tf_calli (va_runV (As := [.int (Int32.ofInt z108)]) (rest := []) ⟨hx, hb, hml, hown, hts⟩ (c_X10_standing l g T a0 ha0 (z108) ⟨by omega, by omega⟩) (cwV 1 hts gv_X10_370 rfl rfl rfl hd_X10_standing ⟨Nat.le_trans (by decide) hR1, Nat.le_trans (by decide) hR2⟩) (tf_preV hk hW ha0 (ci := 10) rfl rfl trivial) rfl rfl hl.1 rfl (lv_room (Nat.le_of_ble_eq_true rfl)) dX10_find_31 ⟨Nat.zero_le _, Nat.zero_le _⟩) hW (by decide) (fun z112 H112 locs112 hW hF112 hp112 => ?_)
  obtain ⟨hp112_0, hp112_1⟩ := hp112
  refine lv_istore (lv' := [(5, .int (Int32.ofInt z112)), (4, .int (Int32.ofInt z111)), (3, .int (Int32.ofInt z108)), (0, .ref a0), (1, .int (Int32.ofInt x1)), (2, .int (Int32.ofInt x2))]) hx hb dX10_find_34 hl (by decide) rfl (fun ls hl => ?_)
  refine lv_aload_n hx hb dX10_find_36 rfl (lv_at hl 3 rfl) ?_
  refine lv_iload hx hb dX10_find_37 (lv_at hl 1 rfl) ?_
  refine tf_calli (va_runV (As := [.int (Int32.ofInt z111)]) (rest := []) ⟨hx, hb, hml, hown, hts⟩ (c_X10_standing l g T a0 ha0 (z111) ⟨by omega, by omega⟩) (cwV 1 hts gv_X10_370 rfl rfl rfl hd_X10_standing ⟨Nat.le_trans (by decide) hR1, Nat.le_trans (by decide) hR2⟩) (tf_preV hk hW ha0 (ci := 10) rfl rfl trivial) rfl rfl hl.1 rfl (lv_room (Nat.le_of_ble_eq_true rfl)) dX10_find_39 ⟨Nat.zero_le _, Nat.zero_le _⟩) hW (by decide) (fun z113 H113 locs113 hW hF113 hp113 => ?_)
  obtain ⟨hp113_0, hp113_1⟩ := hp113
  refine lv_istore (lv' := [(6, .int (Int32.ofInt z113)), (5, .int (Int32.ofInt z112)), (4, .int (Int32.ofInt z111)), (3, .int (Int32.ofInt z108)), (0, .ref a0), (1, .int (Int32.ofInt x1)), (2, .int (Int32.ofInt x2))]) hx hb dX10_find_42 hl (by decide) rfl (fun ls hl => ?_)
  refine lv_aload_n hx hb dX10_find_44 rfl (lv_at hl 4 rfl) ?_
  refine lv_iload_n hx hb dX10_find_45 rfl (lv_at hl 5 rfl) ?_
  refine lv_iload_n hx hb dX10_find_46 rfl (lv_at hl 6 rfl) ?_
  refine tf_iconst hx hb dX10_find_47 ?_
  refine tf_calli (va_runS (As := [.int (Int32.ofInt x1), .int (Int32.ofInt x2), .int (Int32.ofInt ((-1)))]) (rest := [.ref a0]) ⟨hx, hb, hml, hown, hts⟩ (c_X10_upFrom l g T (x1) ⟨by omega, by omega⟩ (x2) ⟨by omega, by omega⟩ ((-1)) ⟨by omega, by omega⟩) ⟨callB_of 3 hts (gw_ws cm_X10_upFrom) rfl rfl rfl (hts _ (tw1 (i := 5) rfl)) (hts _ (tw36 (i := 18) rfl)) hd_X10_upFrom.2 ⟨Nat.le_trans (by decide) hR1, Nat.le_trans (by decide) hR2⟩, hts _ (tw36 (i := 19) rfl)⟩ (tf_preS hk hW trivial) rfl rfl hl.1 rfl (lv_room (Nat.le_of_ble_eq_true rfl)) dX10_find_48 ⟨Nat.zero_le _, Nat.zero_le _⟩) hW (by decide) (fun z114 H114 locs114 hW hF114 hp114 => ?_)
  obtain ⟨hp114_0, hp114_1⟩ := hp114
  refine tf_calli (va_runV (As := [.int (Int32.ofInt z114)]) (rest := []) ⟨hx, hb, hml, hown, hts⟩ (c_X10_standing l g T a0 ha0 (z114) ⟨by omega, by omega⟩) (cwV 1 hts gv_X10_370 rfl rfl rfl hd_X10_standing ⟨Nat.le_trans (by decide) hR1, Nat.le_trans (by decide) hR2⟩) (tf_preV hk hW ha0 (ci := 10) rfl rfl trivial) rfl rfl hl.1 rfl (lv_room (Nat.le_of_ble_eq_true rfl)) dX10_find_51 ⟨Nat.zero_le _, Nat.zero_le _⟩) hW (by decide) (fun z115 H115 locs115 hW hF115 hp115 => ?_)
  obtain ⟨hp115_0, hp115_1⟩ := hp115
  refine lv_istore (lv' := [(7, .int (Int32.ofInt z115)), (6, .int (Int32.ofInt z113)), (5, .int (Int32.ofInt z112)), (4, .int (Int32.ofInt z111)), (3, .int (Int32.ofInt z108)), (0, .ref a0), (1, .int (Int32.ofInt x1)), (2, .int (Int32.ofInt x2))]) hx hb dX10_find_54 hl (by decide) rfl (fun ls hl => ?_)
  refine lv_aload_n hx hb dX10_find_56 rfl (lv_at hl 5 rfl) ?_
  refine tf_iconst hx hb dX10_find_57 ?_
  refine tf_put hx hb hts inlX10 tyX10 tyX10_ok nmX10 hown hK (ci := 10) rfl hW ha0 rfl rfl 37 rfl (by decide) (by decide) (hts _ fl_X10_376) rfl (tf_u0 (by omega) (by omega)) rfl rfl dX10_find_58 (fun H116 locs116 hW hs116 ht116 hq116 => ?_)
  refine lv_aload_n hx hb dX10_find_61 rfl (lv_at hl 5 rfl) ?_
  refine tf_iconst hx hb dX10_find_62 ?_
  refine tf_put hx hb hts inlX10 tyX10 tyX10_ok nmX10 hown hK (ci := 10) rfl hW ha0 rfl rfl 38 rfl (by decide) (by decide) (hts _ fl_X10_379) rfl (tf_u0 (by omega) (by omega)) rfl rfl dX10_find_63 (fun H117 locs117 hW hs117 ht117 hq117 => ?_)
  refine lv_aload_n hx hb dX10_find_66 rfl (lv_at hl 5 rfl) ?_
  refine tf_iconst hx hb dX10_find_67 ?_
  refine tf_put hx hb hts inlX10 tyX10 tyX10_ok nmX10 hown hK (ci := 10) rfl hW ha0 rfl rfl 39 rfl (by decide) (by decide) (hts _ fl_X10_382) rfl (tf_u0 (by omega) (by omega)) rfl rfl dX10_find_68 (fun H118 locs118 hW hs118 ht118 hq118 => ?_)
  have hs119 := (ht118 38 (by decide) (by decide)).trans hs117
  refine lv_iload hx hb dX10_find_71 (lv_at hl 2 rfl) ?_
  refine tf_iconst hx hb dX10_find_73 ?_
  refine tf_icmp_eq (tgt := 151) hx hb ⟨by omega, by omega⟩ ⟨by decide, by decide⟩ dX10_find_74 (by decide) (fun h120 => ?_) (fun h120 => ?_)
  · exact j_151 ⟨by omega, by omega⟩ ⟨by omega, by omega⟩ (z108) ⟨by omega, by omega⟩ (z111) ⟨by omega, by omega⟩ (z112) ⟨by omega, by omega⟩ (z113) ⟨by omega, by omega⟩ (z115) ⟨by omega, by omega⟩ ((-1)) ⟨by omega, by omega⟩ _ _ hW hs119 _ (lv_sub hl [5, 6, 7, 4, 3, 2, 1, 0] rfl)
  · refine lv_iload hx hb dX10_find_77 (lv_at hl 1 rfl) ?_
    refine tf_iconst hx hb dX10_find_79 ?_
    refine tf_icmp_eq (tgt := 151) hx hb ⟨by omega, by omega⟩ ⟨by decide, by decide⟩ dX10_find_80 (by decide) (fun h121 => ?_) (fun h121 => ?_)
    · exact j_151 ⟨by omega, by omega⟩ ⟨by omega, by omega⟩ (z108) ⟨by omega, by omega⟩ (z111) ⟨by omega, by omega⟩ (z112) ⟨by omega, by omega⟩ (z113) ⟨by omega, by omega⟩ (z115) ⟨by omega, by omega⟩ ((-1)) ⟨by omega, by omega⟩ _ _ hW hs119 _ (lv_sub hl [5, 6, 7, 4, 3, 2, 1, 0] rfl)
    · refine lv_aload_n hx hb dX10_find_83 rfl (lv_at hl 5 rfl) ?_
      refine tf_iconst hx hb dX10_find_84 ?_
      refine tf_put hx hb hts inlX10 tyX10 tyX10_ok nmX10 hown hK (ci := 10) rfl hW ha0 rfl rfl 37 rfl (by decide) (by decide) (hts _ fl_X10_376) rfl (tf_u0 (by omega) (by omega)) rfl rfl dX10_find_85 (fun H122 locs122 hW hs122 ht122 hq122 => ?_)
      have hs123 := (ht122 38 (by decide) (by decide)).trans hs119
      refine lv_iload hx hb dX10_find_88 (lv_at hl 2 rfl) ?_
      refine lv_iload hx hb dX10_find_90 (lv_at hl 1 rfl) ?_
      refine tf_icmp_ge (tgt := 100) hx hb ⟨by omega, by omega⟩ ⟨by omega, by omega⟩ dX10_find_92 (by decide) (fun h124 => ?_) (fun h124 => ?_)
      · refine lv_iload hx hb dX10_find_100 (lv_at hl 1 rfl) ?_
        exact j_102 ⟨by omega, by omega⟩ ⟨by omega, by omega⟩ (z112) ⟨by omega, by omega⟩ (z113) ⟨by omega, by omega⟩ (z113) ⟨by omega, by omega⟩ _ _ hW  _ (lv_sub hl [5, 6, 7, 2, 1] rfl)
      · refine lv_iload hx hb dX10_find_95 (lv_at hl 2 rfl) ?_
        refine lv_goto (tgt := 102) hx hb dX10_find_97 (by decide) ?_
        exact j_102 ⟨by omega, by omega⟩ ⟨by omega, by omega⟩ (z112) ⟨by omega, by omega⟩ (z113) ⟨by omega, by omega⟩ (z112) ⟨by omega, by omega⟩ _ _ hW  _ (lv_sub hl [5, 6, 7, 2, 1] rfl)

abbrev M_X10_paceOf : List (Nat × Nat) := []
set_option maxHeartbeats 4000000 in
set_option maxRecDepth 100000 in
theorem c_X10_paceOf (l : Launch) (g : tf_G) (T : tf_T) (a0 : Nat) (ha0 : T a0 = some (50, 0)) (x1 : Int) (hp1 : 0 ≤ x1 ∧ x1 ≤ 3) : Met l yX10_paceOf (cd_X10_paceOf :: wsL_law) ({ frames := 1, cells := 0, slots := 0, locals := 24 }) (tf_P g T [.ref a0, .int (Int32.ofInt x1)] (fun H => True)) (tf_Qi g M_X10_paceOf T (fun z _ _ => (-2147483648) ≤ z ∧ z ≤ 2147483647)) 0 0 (fun q => tf_B g ≤ q) := by
  refine Met.ofW (cc := cX10_paceOf) (maxL := 2) (ret := (some .int)) (by decide) rfl ?_
  intro p e s m args below meth c s₁ B hml hv
  obtain ⟨hargs, hk, hW0, hB, hpre⟩ := hv
  have hx := B.exec
  have hb := B.bytes
  have hr := B.returns
  have hts : ∀ w ∈ wsL_law, w.before args s = true := fun w h => atoms_spec (ws := cd_X10_paceOf :: wsL_law) B.pre w (List.mem_cons_of_mem _ h)
  have hown : s.vm.findClass RX10 = some m.cls := findClass_of_methodNamed B.named
  have hlocks := B.notSynchronized
  have hK := hk.1
  have hW := tf_n.start (M := M_X10_paceOf) hW0 hB
  obtain ⟨Q, hQ⟩ : ∃ q, q = MQ below (tf_Qi g M_X10_paceOf T (fun z _ _ => (-2147483648) ≤ z ∧ z ≤ 2147483647)) args s 0 0 (fun q => tf_B g ≤ q) := ⟨_, rfl⟩
  rw [← hQ]
  obtain ⟨R, hR⟩ : ∃ q, q = (headSpec (cd_X10_paceOf :: wsL_law) ({ frames := 1, cells := 0, slots := 0, locals := 24 })).room := ⟨_, rfl⟩
  rw [← hR]
  have hR1 : 1 ≤ R.frames := by rw [hR]; exact Nat.le_refl _
  have hR2 : 24 ≤ R.locals := by rw [hR]; exact Nat.le_refl _
  have hR3 : 0 ≤ R.cells := by rw [hR]; exact Nat.le_refl _
  have hR4 : 0 ≤ R.slots := by rw [hR]; exact Nat.le_refl _
  have hin := (name_of_methodNamed B.named B.method).1
  clear hR B
  refine tf_enter (As := [.ref a0, .int (Int32.ofInt x1)]) hargs (Nat.le_of_ble_eq_true rfl) (fun ls hl => ?_)
  have hl : lv_has ls 2 [(0, .ref a0), (1, .int (Int32.ofInt x1))] := hl
  refine lv_aload_n hx hb dX10_paceOf_0 rfl (lv_at hl 0 rfl) ?_
  refine tf_get hx hb hts inlX10 hown hK (ci := 10) rfl hW ha0 rfl 3 rfl (by decide) (hts _ fl_X10_13) dX10_paceOf_1 (fun v1 hv1 hsv1 => ?_)
  obtain ⟨ad2, rfl, had2⟩ := tf_v1 hv1
  refine tf_iconst hx hb dX10_paceOf_4 ?_
  refine tf_iconst hx hb dX10_paceOf_5 ?_
  refine lv_iload_n hx hb dX10_paceOf_6 rfl (lv_at hl 1 rfl) ?_
  refine tf_iconst hx hb dX10_paceOf_7 ?_
  refine tf_isub hx hb dX10_paceOf_8 ?_
  refine tf_imul hx hb dX10_paceOf_9 ?_
  refine tf_iadd hx hb dX10_paceOf_10 ?_
  refine tf_iald (t0 := 0) hx hb hK hW had2 rfl rfl (by omega) (by omega) dX10_paceOf_11 (fun v3 hv3 hsv3 => ?_)
  obtain ⟨z4, rfl, hz4⟩ := tf_v0 hv3
  exact tf_reti (z := z4) hx hb hr hlocks hQ hW (show (-2147483648) ≤ (z4) ∧ (z4) ≤ 2147483647 by omega) dX10_paceOf_12

abbrev M_X10_inOrder : List (Nat × Nat) := []
set_option maxHeartbeats 4000000 in
set_option maxRecDepth 100000 in
theorem c_X10_inOrder (l : Launch) (g : tf_G) (T : tf_T) (a0 : Nat) (ha0 : T a0 = some (50, 0)) (x1 : Int) (hp1 : (-2147483648) ≤ x1 ∧ x1 ≤ 2147483647) (x2 : Int) (hp2 : 0 ≤ x2 ∧ x2 ≤ 1) : Met l yX10_inOrder (cd_X10_inOrder :: wsL_law) ({ frames := 1, cells := 0, slots := 0, locals := 24 }) (tf_P g T [.ref a0, .int (Int32.ofInt x1), .int (Int32.ofInt x2)] (fun H => True)) (tf_Qi g M_X10_inOrder T (fun z _ _ => (-2147483648) ≤ z ∧ z ≤ 2147483647)) 0 0 (fun q => tf_B g ≤ q) := by
  refine Met.ofW (cc := cX10_inOrder) (maxL := 8) (ret := (some .int)) (by decide) rfl ?_
  intro p e s m args below meth c s₁ B hml hv
  obtain ⟨hargs, hk, hW0, hB, hpre⟩ := hv
  have hx := B.exec
  have hb := B.bytes
  have hr := B.returns
  have hts : ∀ w ∈ wsL_law, w.before args s = true := fun w h => atoms_spec (ws := cd_X10_inOrder :: wsL_law) B.pre w (List.mem_cons_of_mem _ h)
  have hown : s.vm.findClass RX10 = some m.cls := findClass_of_methodNamed B.named
  have hlocks := B.notSynchronized
  have hK := hk.1
  have hW := tf_n.start (M := M_X10_inOrder) hW0 hB
  obtain ⟨Q, hQ⟩ : ∃ q, q = MQ below (tf_Qi g M_X10_inOrder T (fun z _ _ => (-2147483648) ≤ z ∧ z ≤ 2147483647)) args s 0 0 (fun q => tf_B g ≤ q) := ⟨_, rfl⟩
  rw [← hQ]
  obtain ⟨R, hR⟩ : ∃ q, q = (headSpec (cd_X10_inOrder :: wsL_law) ({ frames := 1, cells := 0, slots := 0, locals := 24 })).room := ⟨_, rfl⟩
  rw [← hR]
  have hR1 : 1 ≤ R.frames := by rw [hR]; exact Nat.le_refl _
  have hR2 : 24 ≤ R.locals := by rw [hR]; exact Nat.le_refl _
  have hR3 : 0 ≤ R.cells := by rw [hR]; exact Nat.le_refl _
  have hR4 : 0 ≤ R.slots := by rw [hR]; exact Nat.le_refl _
  have hin := (name_of_methodNamed B.named B.method).1
  clear hR B
  have j_46 : ∀ (n_46 : Nat), (-2147483648) ≤ x1 ∧ x1 ≤ 2147483647 → 0 ≤ x2 ∧ x2 ≤ 1 → ∀ (x4_46 : Int), 0 ≤ x4_46 ∧ x4_46 ≤ 100 → (100 - x4_46 + 1 ≤ (n_46 : Int)) → ∀ (H : Heap) (locs : List Loc), tf_n tf_kt g M_X10_inOrder T s.heap T H locs → ∀ (ls : Array Slot), lv_has ls 8 [(0, .ref a0), (1, .int (Int32.ofInt x1)), (2, .int (Int32.ofInt x2)), (4, .int (Int32.ofInt x4_46))] → W p l e R s m args below meth c H locs 0 0 Q (F0 m 46 ls []) := by
    intro n_46
    induction n_46 with
    | zero =>
      intro hx1_46 hx2_46 x4_46 hx4_46 hm_46
      exfalso; omega
    | succ n_46 ih_46 =>
      intro hx1_46 hx2_46 x4_46 hx4_46 hm_46 H locs hW  ls hl
      have j_177 : (-2147483648) ≤ x1 ∧ x1 ≤ 2147483647 → 0 ≤ x2 ∧ x2 ≤ 1 → 0 ≤ x4_46 ∧ x4_46 ≤ 99 → ∀ (H : Heap) (locs : List Loc), tf_n tf_kt g M_X10_inOrder T s.heap T H locs → ∀ (ls : Array Slot), lv_has ls 8 [(0, .ref a0), (1, .int (Int32.ofInt x1)), (2, .int (Int32.ofInt x2)), (4, .int (Int32.ofInt x4_46))] → W p l e R s m args below meth c H locs 0 0 Q (F0 m 177 ls []) := by
        intro hx1_177 hx2_177 hx4_177 H locs hW  ls hl
        refine lv_iinc (v := Int32.ofInt ((x4_46 + 1))) (lv' := [(4, .int (Int32.ofInt ((x4_46 + 1)))), (0, .ref a0), (1, .int (Int32.ofInt x1)), (2, .int (Int32.ofInt x2))]) hx hb dX10_inOrder_177 hl (k := 3) rfl (Int32.ofInt_add _ _).symm (by decide) rfl (fun ls hl => ?_)
        refine lv_goto (tgt := 46) hx hb dX10_inOrder_180 (by decide) ?_
        exact ih_46 ⟨by omega, by omega⟩ ⟨by omega, by omega⟩ ((x4_46 + 1)) ⟨by omega, by omega⟩ (by omega) _ _ hW  _ (lv_sub hl [1, 2, 3, 0] rfl)
      have j_158 : (-2147483648) ≤ x1 ∧ x1 ≤ 2147483647 → 0 ≤ x2 ∧ x2 ≤ 1 → 0 ≤ x4_46 ∧ x4_46 ≤ 99 → ∀ (x5_158 : Int), (-2147483648) ≤ x5_158 ∧ x5_158 ≤ 2147483647 → ∀ (H : Heap) (locs : List Loc), tf_n tf_kt g M_X10_inOrder T s.heap T H locs → ∀ (ls : Array Slot), lv_has ls 8 [(0, .ref a0), (1, .int (Int32.ofInt x1)), (2, .int (Int32.ofInt x2)), (4, .int (Int32.ofInt x4_46)), (5, .int (Int32.ofInt x5_158))] → W p l e R s m args below meth c H locs 0 0 Q (F0 m 158 ls []) := by
        intro hx1_158 hx2_158 hx4_158 x5_158 hx5_158 H locs hW  ls hl
        refine lv_aload_n hx hb dX10_inOrder_158 rfl (lv_at hl 0 rfl) ?_
        refine tf_get hx hb hts inlX10 hown hK (ci := 10) rfl hW ha0 rfl 44 rfl (by decide) (hts _ fl_X10_91) dX10_inOrder_159 (fun v1 hv1 hsv1 => ?_)
        obtain ⟨ad2, rfl, had2⟩ := tf_v1 hv1
        refine lv_iload hx hb dX10_inOrder_162 (lv_at hl 3 rfl) ?_
        refine tf_zald (t0 := 2) hx hb hK hW had2 rfl rfl (by omega) (by omega) dX10_inOrder_164 (fun v3 hv3 hsv3 => ?_)
        obtain ⟨z4, rfl, hz4⟩ := tf_v0 hv3
        refine tf_if_eq (tgt := 177) hx hb ⟨by omega, by omega⟩ dX10_inOrder_165 (by decide) (fun h5 => ?_) (fun h5 => ?_)
        · exact j_177 ⟨by omega, by omega⟩ ⟨by omega, by omega⟩ ⟨by omega, by omega⟩ _ _ hW  _ (lv_sub hl [0, 1, 2, 3] rfl)
        · refine lv_iload hx hb dX10_inOrder_168 (lv_at hl 4 rfl) ?_
          refine lv_iload_n hx hb dX10_inOrder_170 rfl (lv_at hl 1 rfl) ?_
          refine tf_icmp_ne (tgt := 177) hx hb ⟨by omega, by omega⟩ ⟨by omega, by omega⟩ dX10_inOrder_171 (by decide) (fun h6 => ?_) (fun h6 => ?_)
          · exact j_177 ⟨by omega, by omega⟩ ⟨by omega, by omega⟩ ⟨by omega, by omega⟩ _ _ hW  _ (lv_sub hl [0, 1, 2, 3] rfl)
          · refine lv_iload hx hb dX10_inOrder_174 (lv_at hl 3 rfl) ?_
            exact tf_reti (z := x4_46) hx hb hr hlocks hQ hW (show (-2147483648) ≤ (x4_46) ∧ (x4_46) ≤ 2147483647 by omega) dX10_inOrder_176
      have j_59 : ∀ (n_59 : Nat), (-2147483648) ≤ x1 ∧ x1 ≤ 2147483647 → 0 ≤ x2 ∧ x2 ≤ 1 → 0 ≤ x4_46 ∧ x4_46 ≤ 99 → ∀ (x5_59 : Int), (-2147483648) ≤ x5_59 ∧ x5_59 ≤ 2147483647 → ∀ (x6_59 : Int), 0 ≤ x6_59 ∧ x6_59 ≤ 100 → (100 - x6_59 + 1 ≤ (n_59 : Int)) → ∀ (H : Heap) (locs : List Loc), tf_n tf_kt g M_X10_inOrder T s.heap T H locs → ∀ (ls : Array Slot), lv_has ls 8 [(0, .ref a0), (1, .int (Int32.ofInt x1)), (2, .int (Int32.ofInt x2)), (4, .int (Int32.ofInt x4_46)), (5, .int (Int32.ofInt x5_59)), (6, .int (Int32.ofInt x6_59))] → W p l e R s m args below meth c H locs 0 0 Q (F0 m 59 ls []) := by
        intro n_59
        induction n_59 with
        | zero =>
          intro hx1_59 hx2_59 hx4_59 x5_59 hx5_59 x6_59 hx6_59 hm_59
          exfalso; omega
        | succ n_59 ih_59 =>
          intro hx1_59 hx2_59 hx4_59 x5_59 hx5_59 x6_59 hx6_59 hm_59 H locs hW  ls hl
          have j_149 : (-2147483648) ≤ x1 ∧ x1 ≤ 2147483647 → 0 ≤ x2 ∧ x2 ≤ 1 → 0 ≤ x4_46 ∧ x4_46 ≤ 99 → 0 ≤ x6_59 ∧ x6_59 ≤ 99 → (-2147483648) ≤ x5_59 ∧ x5_59 ≤ 2147483647 → ∀ (y1_149 : Int), 0 ≤ y1_149 ∧ y1_149 ≤ 1 → ∀ (H : Heap) (locs : List Loc), tf_n tf_kt g M_X10_inOrder T s.heap T H locs → ∀ (ls : Array Slot), lv_has ls 8 [(0, .ref a0), (1, .int (Int32.ofInt x1)), (2, .int (Int32.ofInt x2)), (4, .int (Int32.ofInt x4_46)), (6, .int (Int32.ofInt x6_59))] → W p l e R s m args below meth c H locs 0 0 Q (F0 m 149 ls [.int (Int32.ofInt y1_149), .int (Int32.ofInt x5_59)]) := by
            intro hx1_149 hx2_149 hx4_149 hx6_149 hy0_149 y1_149 hy1_149 H locs hW  ls hl
            refine tf_iadd_any hx hb dX10_inOrder_149 (fun z7 hz7 => ?_)
            refine lv_istore (lv' := [(5, .int (Int32.ofInt z7)), (0, .ref a0), (1, .int (Int32.ofInt x1)), (2, .int (Int32.ofInt x2)), (4, .int (Int32.ofInt x4_46)), (6, .int (Int32.ofInt x6_59))]) hx hb dX10_inOrder_150 hl (by decide) rfl (fun ls hl => ?_)
            refine lv_iinc (v := Int32.ofInt ((x6_59 + 1))) (lv' := [(6, .int (Int32.ofInt ((x6_59 + 1)))), (5, .int (Int32.ofInt z7)), (0, .ref a0), (1, .int (Int32.ofInt x1)), (2, .int (Int32.ofInt x2)), (4, .int (Int32.ofInt x4_46))]) hx hb dX10_inOrder_152 hl (k := 5) rfl (Int32.ofInt_add _ _).symm (by decide) rfl (fun ls hl => ?_)
            refine lv_goto (tgt := 59) hx hb dX10_inOrder_155 (by decide) ?_
            exact ih_59 ⟨by omega, by omega⟩ ⟨by omega, by omega⟩ ⟨by omega, by omega⟩ (z7) ⟨by omega, by omega⟩ ((x6_59 + 1)) ⟨by omega, by omega⟩ (by omega) _ _ hW  _ (lv_sub hl [2, 3, 4, 5, 1, 0] rfl)
          have j_148 : (-2147483648) ≤ x1 ∧ x1 ≤ 2147483647 → 0 ≤ x2 ∧ x2 ≤ 1 → 0 ≤ x4_46 ∧ x4_46 ≤ 99 → 0 ≤ x6_59 ∧ x6_59 ≤ 99 → (-2147483648) ≤ x5_59 ∧ x5_59 ≤ 2147483647 → ∀ (H : Heap) (locs : List Loc), tf_n tf_kt g M_X10_inOrder T s.heap T H locs → ∀ (ls : Array Slot), lv_has ls 8 [(0, .ref a0), (1, .int (Int32.ofInt x1)), (2, .int (Int32.ofInt x2)), (4, .int (Int32.ofInt x4_46)), (6, .int (Int32.ofInt x6_59))] → W p l e R s m args below meth c H locs 0 0 Q (F0 m 148 ls [.int (Int32.ofInt x5_59)]) := by
            intro hx1_148 hx2_148 hx4_148 hx6_148 hy0_148 H locs hW  ls hl
            refine tf_iconst hx hb dX10_inOrder_148 ?_
            exact j_149 ⟨by omega, by omega⟩ ⟨by omega, by omega⟩ ⟨by omega, by omega⟩ ⟨by omega, by omega⟩ ⟨by omega, by omega⟩ (0) ⟨by omega, by omega⟩ _ _ hW  _ (lv_sub hl [0, 1, 2, 3, 4] rfl)
          have j_144 : (-2147483648) ≤ x1 ∧ x1 ≤ 2147483647 → 0 ≤ x2 ∧ x2 ≤ 1 → 0 ≤ x4_46 ∧ x4_46 ≤ 99 → 0 ≤ x6_59 ∧ x6_59 ≤ 99 → (-2147483648) ≤ x5_59 ∧ x5_59 ≤ 2147483647 → ∀ (H : Heap) (locs : List Loc), tf_n tf_kt g M_X10_inOrder T s.heap T H locs → ∀ (ls : Array Slot), lv_has ls 8 [(0, .ref a0), (1, .int (Int32.ofInt x1)), (2, .int (Int32.ofInt x2)), (4, .int (Int32.ofInt x4_46)), (6, .int (Int32.ofInt x6_59))] → W p l e R s m args below meth c H locs 0 0 Q (F0 m 144 ls [.int (Int32.ofInt x5_59)]) := by
            intro hx1_144 hx2_144 hx4_144 hx6_144 hy0_144 H locs hW  ls hl
            refine tf_iconst hx hb dX10_inOrder_144 ?_
            refine lv_goto (tgt := 149) hx hb dX10_inOrder_145 (by decide) ?_
            exact j_149 ⟨by omega, by omega⟩ ⟨by omega, by omega⟩ ⟨by omega, by omega⟩ ⟨by omega, by omega⟩ ⟨by omega, by omega⟩ (1) ⟨by omega, by omega⟩ _ _ hW  _ (lv_sub hl [0, 1, 2, 3, 4] rfl)
          have j_113 : (-2147483648) ≤ x1 ∧ x1 ≤ 2147483647 → 0 ≤ x2 ∧ x2 ≤ 1 → 0 ≤ x4_46 ∧ x4_46 ≤ 99 → (-2147483648) ≤ x5_59 ∧ x5_59 ≤ 2147483647 → 0 ≤ x6_59 ∧ x6_59 ≤ 99 → ∀ (y0_113 : Int), (-2147483648) ≤ y0_113 ∧ y0_113 ≤ 2147483647 → ∀ (H : Heap) (locs : List Loc), tf_n tf_kt g M_X10_inOrder T s.heap T H locs → ∀ (ls : Array Slot), lv_has ls 8 [(0, .ref a0), (1, .int (Int32.ofInt x1)), (2, .int (Int32.ofInt x2)), (4, .int (Int32.ofInt x4_46)), (5, .int (Int32.ofInt x5_59)), (6, .int (Int32.ofInt x6_59))] → W p l e R s m args below meth c H locs 0 0 Q (F0 m 113 ls [.int (Int32.ofInt y0_113)]) := by
            intro hx1_113 hx2_113 hx4_113 hx5_113 hx6_113 y0_113 hy0_113 H locs hW  ls hl
            refine lv_istore (lv' := [(7, .int (Int32.ofInt y0_113)), (0, .ref a0), (1, .int (Int32.ofInt x1)), (2, .int (Int32.ofInt x2)), (4, .int (Int32.ofInt x4_46)), (5, .int (Int32.ofInt x5_59)), (6, .int (Int32.ofInt x6_59))]) hx hb dX10_inOrder_113 hl (by decide) rfl (fun ls hl => ?_)
            refine lv_iload hx hb dX10_inOrder_115 (lv_at hl 5 rfl) ?_
            refine lv_aload_n hx hb dX10_inOrder_117 rfl (lv_at hl 1 rfl) ?_
            refine tf_get hx hb hts inlX10 hown hK (ci := 10) rfl hW ha0 rfl 44 rfl (by decide) (hts _ fl_X10_91) dX10_inOrder_118 (fun v8 hv8 hsv8 => ?_)
            obtain ⟨ad9, rfl, had9⟩ := tf_v1 hv8
            refine lv_iload hx hb dX10_inOrder_121 (lv_at hl 6 rfl) ?_
            refine tf_zald (t0 := 2) hx hb hK hW had9 rfl rfl (by omega) (by omega) dX10_inOrder_123 (fun v10 hv10 hsv10 => ?_)
            obtain ⟨z11, rfl, hz11⟩ := tf_v0 hv10
            refine tf_if_eq (tgt := 148) hx hb ⟨by omega, by omega⟩ dX10_inOrder_124 (by decide) (fun h12 => ?_) (fun h12 => ?_)
            · exact j_148 ⟨by omega, by omega⟩ ⟨by omega, by omega⟩ ⟨by omega, by omega⟩ ⟨by omega, by omega⟩ ⟨by omega, by omega⟩ _ _ hW  _ (lv_sub hl [1, 2, 3, 4, 6] rfl)
            · refine lv_iload hx hb dX10_inOrder_127 (lv_at hl 0 rfl) ?_
              refine tf_if_gt (tgt := 144) hx hb ⟨by omega, by omega⟩ dX10_inOrder_129 (by decide) (fun h13 => ?_) (fun h13 => ?_)
              · exact j_144 ⟨by omega, by omega⟩ ⟨by omega, by omega⟩ ⟨by omega, by omega⟩ ⟨by omega, by omega⟩ ⟨by omega, by omega⟩ _ _ hW  _ (lv_sub hl [1, 2, 3, 4, 6] rfl)
              · refine lv_iload hx hb dX10_inOrder_132 (lv_at hl 0 rfl) ?_
                refine tf_if_ne (tgt := 148) hx hb ⟨by omega, by omega⟩ dX10_inOrder_134 (by decide) (fun h14 => ?_) (fun h14 => ?_)
                · exact j_148 ⟨by omega, by omega⟩ ⟨by omega, by omega⟩ ⟨by omega, by omega⟩ ⟨by omega, by omega⟩ ⟨by omega, by omega⟩ _ _ hW  _ (lv_sub hl [1, 2, 3, 4, 6] rfl)
                · refine lv_iload hx hb dX10_inOrder_137 (lv_at hl 6 rfl) ?_
                  refine lv_iload hx hb dX10_inOrder_139 (lv_at hl 4 rfl) ?_
                  refine tf_icmp_ge (tgt := 148) hx hb ⟨by omega, by omega⟩ ⟨by omega, by omega⟩ dX10_inOrder_141 (by decide) (fun h15 => ?_) (fun h15 => ?_)
                  · exact j_148 ⟨by omega, by omega⟩ ⟨by omega, by omega⟩ ⟨by omega, by omega⟩ ⟨by omega, by omega⟩ ⟨by omega, by omega⟩ _ _ hW  _ (lv_sub hl [1, 2, 3, 4, 6] rfl)
                  · exact j_144 ⟨by omega, by omega⟩ ⟨by omega, by omega⟩ ⟨by omega, by omega⟩ ⟨by omega, by omega⟩ ⟨by omega, by omega⟩ _ _ hW  _ (lv_sub hl [1, 2, 3, 4, 6] rfl)
          refine lv_iload hx hb dX10_inOrder_59 (lv_at hl 5 rfl) ?_
          refine tf_bipush hx hb dX10_inOrder_61 (by decide) ?_
          refine tf_icmp_ge (tgt := 158) hx hb ⟨by omega, by omega⟩ ⟨by decide, by decide⟩ dX10_inOrder_63 (by decide) (fun h16 => ?_) (fun h16 => ?_)
          · exact j_158 ⟨by omega, by omega⟩ ⟨by omega, by omega⟩ ⟨by omega, by omega⟩ (x5_59) ⟨by omega, by omega⟩ _ _ hW  _ (lv_sub hl [0, 1, 2, 3, 4] rfl)
          · refine lv_aload_n hx hb dX10_inOrder_66 rfl (lv_at hl 0 rfl) ?_
            refine tf_get hx hb hts inlX10 hown hK (ci := 10) rfl hW ha0 rfl 44 rfl (by decide) (hts _ fl_X10_91) dX10_inOrder_67 (fun v17 hv17 hsv17 => ?_)
            obtain ⟨ad18, rfl, had18⟩ := tf_v1 hv17
            refine lv_iload hx hb dX10_inOrder_70 (lv_at hl 3 rfl) ?_
            refine tf_zald (t0 := 2) hx hb hK hW had18 rfl rfl (by omega) (by omega) dX10_inOrder_72 (fun v19 hv19 hsv19 => ?_)
            obtain ⟨z20, rfl, hz20⟩ := tf_v0 hv19
            refine tf_if_eq (tgt := 158) hx hb ⟨by omega, by omega⟩ dX10_inOrder_73 (by decide) (fun h21 => ?_) (fun h21 => ?_)
            · exact j_158 ⟨by omega, by omega⟩ ⟨by omega, by omega⟩ ⟨by omega, by omega⟩ (x5_59) ⟨by omega, by omega⟩ _ _ hW  _ (lv_sub hl [0, 1, 2, 3, 4] rfl)
            · refine lv_iload_n hx hb dX10_inOrder_76 rfl (lv_at hl 2 rfl) ?_
              refine tf_if_eq (tgt := 98) hx hb ⟨by omega, by omega⟩ dX10_inOrder_77 (by decide) (fun h22 => ?_) (fun h22 => ?_)
              · refine lv_aload_n hx hb dX10_inOrder_98 rfl (lv_at hl 0 rfl) ?_
                refine tf_get hx hb hts inlX10 hown hK (ci := 10) rfl hW ha0 rfl 43 rfl (by decide) (hts _ fl_X10_88) dX10_inOrder_99 (fun v23 hv23 hsv23 => ?_)
                obtain ⟨ad24, rfl, had24⟩ := tf_v1 hv23
                refine lv_iload hx hb dX10_inOrder_102 (lv_at hl 3 rfl) ?_
                refine tf_iald (t0 := 0) hx hb hK hW had24 rfl rfl (by omega) (by omega) dX10_inOrder_104 (fun v25 hv25 hsv25 => ?_)
                obtain ⟨z26, rfl, hz26⟩ := tf_v0 hv25
                refine lv_aload_n hx hb dX10_inOrder_105 rfl (lv_at hl 0 rfl) ?_
                refine tf_get hx hb hts inlX10 hown hK (ci := 10) rfl hW ha0 rfl 43 rfl (by decide) (hts _ fl_X10_88) dX10_inOrder_106 (fun v27 hv27 hsv27 => ?_)
                obtain rfl : v27 = .ref ad24 := Option.some.inj (hsv27.symm.trans hsv23)
                refine lv_iload hx hb dX10_inOrder_109 (lv_at hl 5 rfl) ?_
                refine tf_iald (t0 := 0) hx hb hK hW had24 rfl rfl (by omega) (by omega) dX10_inOrder_111 (fun v28 hv28 hsv28 => ?_)
                obtain ⟨z29, rfl, hz29⟩ := tf_v0 hv28
                refine tf_isub_any hx hb dX10_inOrder_112 (fun z30 hz30 => ?_)
                exact j_113 ⟨by omega, by omega⟩ ⟨by omega, by omega⟩ ⟨by omega, by omega⟩ ⟨by omega, by omega⟩ ⟨by omega, by omega⟩ (z30) ⟨by omega, by omega⟩ _ _ hW  _ (lv_sub hl [0, 1, 2, 3, 4, 5] rfl)
              · refine lv_aload_n hx hb dX10_inOrder_80 rfl (lv_at hl 0 rfl) ?_
                refine tf_get hx hb hts inlX10 hown hK (ci := 10) rfl hW ha0 rfl 43 rfl (by decide) (hts _ fl_X10_88) dX10_inOrder_81 (fun v31 hv31 hsv31 => ?_)
                obtain ⟨ad32, rfl, had32⟩ := tf_v1 hv31
                refine lv_iload hx hb dX10_inOrder_84 (lv_at hl 5 rfl) ?_
                refine tf_iald (t0 := 0) hx hb hK hW had32 rfl rfl (by omega) (by omega) dX10_inOrder_86 (fun v33 hv33 hsv33 => ?_)
                obtain ⟨z34, rfl, hz34⟩ := tf_v0 hv33
                refine lv_aload_n hx hb dX10_inOrder_87 rfl (lv_at hl 0 rfl) ?_
                refine tf_get hx hb hts inlX10 hown hK (ci := 10) rfl hW ha0 rfl 43 rfl (by decide) (hts _ fl_X10_88) dX10_inOrder_88 (fun v35 hv35 hsv35 => ?_)
                obtain rfl : v35 = .ref ad32 := Option.some.inj (hsv35.symm.trans hsv31)
                refine lv_iload hx hb dX10_inOrder_91 (lv_at hl 3 rfl) ?_
                refine tf_iald (t0 := 0) hx hb hK hW had32 rfl rfl (by omega) (by omega) dX10_inOrder_93 (fun v36 hv36 hsv36 => ?_)
                obtain ⟨z37, rfl, hz37⟩ := tf_v0 hv36
                refine tf_isub_any hx hb dX10_inOrder_94 (fun z38 hz38 => ?_)
                refine lv_goto (tgt := 113) hx hb dX10_inOrder_95 (by decide) ?_
                exact j_113 ⟨by omega, by omega⟩ ⟨by omega, by omega⟩ ⟨by omega, by omega⟩ ⟨by omega, by omega⟩ ⟨by omega, by omega⟩ (z38) ⟨by omega, by omega⟩ _ _ hW  _ (lv_sub hl [0, 1, 2, 3, 4, 5] rfl)
      refine lv_iload hx hb dX10_inOrder_46 (lv_at hl 3 rfl) ?_
      refine tf_bipush hx hb dX10_inOrder_48 (by decide) ?_
      refine tf_icmp_ge (tgt := 183) hx hb ⟨by omega, by omega⟩ ⟨by decide, by decide⟩ dX10_inOrder_50 (by decide) (fun h39 => ?_) (fun h39 => ?_)
      · refine tf_iconst hx hb dX10_inOrder_183 ?_
        exact tf_reti (z := (-1)) hx hb hr hlocks hQ hW (show (-2147483648) ≤ ((-1)) ∧ ((-1)) ≤ 2147483647 by omega) dX10_inOrder_184
      · refine tf_iconst hx hb dX10_inOrder_53 ?_
        refine lv_istore (lv' := [(5, .int (Int32.ofInt 0)), (0, .ref a0), (1, .int (Int32.ofInt x1)), (2, .int (Int32.ofInt x2)), (4, .int (Int32.ofInt x4_46))]) hx hb dX10_inOrder_54 hl (by decide) rfl (fun ls hl => ?_)
        refine tf_iconst hx hb dX10_inOrder_56 ?_
        refine lv_istore (lv' := [(6, .int (Int32.ofInt 0)), (5, .int (Int32.ofInt 0)), (0, .ref a0), (1, .int (Int32.ofInt x1)), (2, .int (Int32.ofInt x2)), (4, .int (Int32.ofInt x4_46))]) hx hb dX10_inOrder_57 hl (by decide) rfl (fun ls hl => ?_)
        exact j_59 ((100 - 0 + 1 : Int)).toNat ⟨by omega, by omega⟩ ⟨by omega, by omega⟩ ⟨by omega, by omega⟩ (0) ⟨by omega, by omega⟩ (0) ⟨by omega, by omega⟩ (by omega) _ _ hW  _ (lv_sub hl [2, 3, 4, 5, 1, 0] rfl)
  have j_5 : ∀ (n_5 : Nat), (-2147483648) ≤ x1 ∧ x1 ≤ 2147483647 → 0 ≤ x2 ∧ x2 ≤ 1 → ∀ (x3_5 : Int), (-2147483648) ≤ x3_5 ∧ x3_5 ≤ 2147483647 → ∀ (x4_5 : Int), 0 ≤ x4_5 ∧ x4_5 ≤ 100 → (100 - x4_5 + 1 ≤ (n_5 : Int)) → ∀ (H : Heap) (locs : List Loc), tf_n tf_kt g M_X10_inOrder T s.heap T H locs → ∀ (ls : Array Slot), lv_has ls 8 [(0, .ref a0), (1, .int (Int32.ofInt x1)), (2, .int (Int32.ofInt x2)), (3, .int (Int32.ofInt x3_5)), (4, .int (Int32.ofInt x4_5))] → W p l e R s m args below meth c H locs 0 0 Q (F0 m 5 ls []) := by
    intro n_5
    induction n_5 with
    | zero =>
      intro hx1_5 hx2_5 x3_5 hx3_5 x4_5 hx4_5 hm_5
      exfalso; omega
    | succ n_5 ih_5 =>
      intro hx1_5 hx2_5 x3_5 hx3_5 x4_5 hx4_5 hm_5 H locs hW  ls hl
      have j_28 : (-2147483648) ≤ x1 ∧ x1 ≤ 2147483647 → 0 ≤ x2 ∧ x2 ≤ 1 → 0 ≤ x4_5 ∧ x4_5 ≤ 99 → (-2147483648) ≤ x3_5 ∧ x3_5 ≤ 2147483647 → ∀ (y1_28 : Int), 0 ≤ y1_28 ∧ y1_28 ≤ 1 → ∀ (H : Heap) (locs : List Loc), tf_n tf_kt g M_X10_inOrder T s.heap T H locs → ∀ (ls : Array Slot), lv_has ls 8 [(0, .ref a0), (1, .int (Int32.ofInt x1)), (2, .int (Int32.ofInt x2)), (4, .int (Int32.ofInt x4_5))] → W p l e R s m args below meth c H locs 0 0 Q (F0 m 28 ls [.int (Int32.ofInt y1_28), .int (Int32.ofInt x3_5)]) := by
        intro hx1_28 hx2_28 hx4_28 hy0_28 y1_28 hy1_28 H locs hW  ls hl
        refine tf_iadd_any hx hb dX10_inOrder_28 (fun z40 hz40 => ?_)
        refine lv_istore_n (lv' := [(3, .int (Int32.ofInt z40)), (0, .ref a0), (1, .int (Int32.ofInt x1)), (2, .int (Int32.ofInt x2)), (4, .int (Int32.ofInt x4_5))]) hx hb dX10_inOrder_29 rfl hl (by decide) rfl (fun ls hl => ?_)
        refine lv_iinc (v := Int32.ofInt ((x4_5 + 1))) (lv' := [(4, .int (Int32.ofInt ((x4_5 + 1)))), (3, .int (Int32.ofInt z40)), (0, .ref a0), (1, .int (Int32.ofInt x1)), (2, .int (Int32.ofInt x2))]) hx hb dX10_inOrder_30 hl (k := 4) rfl (Int32.ofInt_add _ _).symm (by decide) rfl (fun ls hl => ?_)
        refine lv_goto (tgt := 5) hx hb dX10_inOrder_33 (by decide) ?_
        exact ih_5 ⟨by omega, by omega⟩ ⟨by omega, by omega⟩ (z40) ⟨by omega, by omega⟩ ((x4_5 + 1)) ⟨by omega, by omega⟩ (by omega) _ _ hW  _ (lv_sub hl [2, 3, 4, 1, 0] rfl)
      refine lv_iload hx hb dX10_inOrder_5 (lv_at hl 4 rfl) ?_
      refine tf_bipush hx hb dX10_inOrder_7 (by decide) ?_
      refine tf_icmp_ge (tgt := 36) hx hb ⟨by omega, by omega⟩ ⟨by decide, by decide⟩ dX10_inOrder_9 (by decide) (fun h41 => ?_) (fun h41 => ?_)
      · refine lv_iload_n hx hb dX10_inOrder_36 rfl (lv_at hl 1 rfl) ?_
        refine tf_iconst hx hb dX10_inOrder_37 ?_
        refine tf_icmp_ne (tgt := 43) hx hb ⟨by omega, by omega⟩ ⟨by decide, by decide⟩ dX10_inOrder_38 (by decide) (fun h42 => ?_) (fun h42 => ?_)
        · refine tf_iconst hx hb dX10_inOrder_43 ?_
          refine lv_istore (lv' := [(4, .int (Int32.ofInt 0)), (0, .ref a0), (1, .int (Int32.ofInt x1)), (2, .int (Int32.ofInt x2)), (3, .int (Int32.ofInt x3_5))]) hx hb dX10_inOrder_44 hl (by decide) rfl (fun ls hl => ?_)
          exact j_46 ((100 - 0 + 1 : Int)).toNat ⟨by omega, by omega⟩ ⟨by omega, by omega⟩ (0) ⟨by omega, by omega⟩ (by omega) _ _ hW  _ (lv_sub hl [1, 2, 3, 0] rfl)
        · refine lv_iload_n hx hb dX10_inOrder_41 rfl (lv_at hl 3 rfl) ?_
          exact tf_reti (z := x3_5) hx hb hr hlocks hQ hW (show (-2147483648) ≤ (x3_5) ∧ (x3_5) ≤ 2147483647 by omega) dX10_inOrder_42
      · refine lv_iload_n hx hb dX10_inOrder_12 rfl (lv_at hl 3 rfl) ?_
        refine lv_aload_n hx hb dX10_inOrder_13 rfl (lv_at hl 0 rfl) ?_
        refine tf_get hx hb hts inlX10 hown hK (ci := 10) rfl hW ha0 rfl 44 rfl (by decide) (hts _ fl_X10_91) dX10_inOrder_14 (fun v43 hv43 hsv43 => ?_)
        obtain ⟨ad44, rfl, had44⟩ := tf_v1 hv43
        refine lv_iload hx hb dX10_inOrder_17 (lv_at hl 4 rfl) ?_
        refine tf_zald (t0 := 2) hx hb hK hW had44 rfl rfl (by omega) (by omega) dX10_inOrder_19 (fun v45 hv45 hsv45 => ?_)
        obtain ⟨z46, rfl, hz46⟩ := tf_v0 hv45
        refine tf_if_eq (tgt := 27) hx hb ⟨by omega, by omega⟩ dX10_inOrder_20 (by decide) (fun h47 => ?_) (fun h47 => ?_)
        · refine tf_iconst hx hb dX10_inOrder_27 ?_
          exact j_28 ⟨by omega, by omega⟩ ⟨by omega, by omega⟩ ⟨by omega, by omega⟩ ⟨by omega, by omega⟩ (0) ⟨by omega, by omega⟩ _ _ hW  _ (lv_sub hl [0, 1, 2, 4] rfl)
        · refine tf_iconst hx hb dX10_inOrder_23 ?_
          refine lv_goto (tgt := 28) hx hb dX10_inOrder_24 (by decide) ?_
          exact j_28 ⟨by omega, by omega⟩ ⟨by omega, by omega⟩ ⟨by omega, by omega⟩ ⟨by omega, by omega⟩ (1) ⟨by omega, by omega⟩ _ _ hW  _ (lv_sub hl [0, 1, 2, 4] rfl)
  refine tf_enter (As := [.ref a0, .int (Int32.ofInt x1), .int (Int32.ofInt x2)]) hargs (Nat.le_of_ble_eq_true rfl) (fun ls hl => ?_)
  have hl : lv_has ls 8 [(0, .ref a0), (1, .int (Int32.ofInt x1)), (2, .int (Int32.ofInt x2))] := hl
  refine tf_iconst hx hb dX10_inOrder_0 ?_
  refine lv_istore_n (lv' := [(3, .int (Int32.ofInt 0)), (0, .ref a0), (1, .int (Int32.ofInt x1)), (2, .int (Int32.ofInt x2))]) hx hb dX10_inOrder_1 rfl hl (by decide) rfl (fun ls hl => ?_)
  refine tf_iconst hx hb dX10_inOrder_2 ?_
  refine lv_istore (lv' := [(4, .int (Int32.ofInt 0)), (3, .int (Int32.ofInt 0)), (0, .ref a0), (1, .int (Int32.ofInt x1)), (2, .int (Int32.ofInt x2))]) hx hb dX10_inOrder_3 hl (by decide) rfl (fun ls hl => ?_)
  exact j_5 ((100 - 0 + 1 : Int)).toNat ⟨by omega, by omega⟩ ⟨by omega, by omega⟩ (0) ⟨by omega, by omega⟩ (0) ⟨by omega, by omega⟩ (by omega) _ _ hW  _ (lv_sub hl [2, 3, 4, 1, 0] rfl)

abbrev M_X10_moveUse : List (Nat × Nat) := [(43, 0)]
set_option maxHeartbeats 4000000 in
set_option maxRecDepth 100000 in
theorem c_X10_moveUse (l : Launch) (g : tf_G) (T : tf_T) (a0 : Nat) (ha0 : T a0 = some (50, 0)) (x1 : Int) (hp1 : 0 ≤ x1 ∧ x1 ≤ 99) (x2 : Int) (hp2 : 0 ≤ x2 ∧ x2 ≤ 99) : Met l yX10_moveUse (cd_X10_moveUse :: wsL_law) ({ frames := 1, cells := 0, slots := 0, locals := 24 }) (tf_P g T [.ref a0, .int (Int32.ofInt x1), .int (Int32.ofInt x2)] (fun H => True)) (tf_Qv g M_X10_moveUse T (fun _ H => True)) 0 0 (fun q => tf_B g ≤ q) := by
  refine Met.ofW (cc := cX10_moveUse) (maxL := 4) (ret := none) (by decide) rfl ?_
  intro p e s m args below meth c s₁ B hml hv
  obtain ⟨hargs, hk, hW0, hB, hpre⟩ := hv
  have hx := B.exec
  have hb := B.bytes
  have hr := B.returns
  have hts : ∀ w ∈ wsL_law, w.before args s = true := fun w h => atoms_spec (ws := cd_X10_moveUse :: wsL_law) B.pre w (List.mem_cons_of_mem _ h)
  have hown : s.vm.findClass RX10 = some m.cls := findClass_of_methodNamed B.named
  have hlocks := B.notSynchronized
  have hK := hk.1
  have hW := tf_n.start (M := M_X10_moveUse) hW0 hB
  obtain ⟨Q, hQ⟩ : ∃ q, q = MQ below (tf_Qv g M_X10_moveUse T (fun _ H => True)) args s 0 0 (fun q => tf_B g ≤ q) := ⟨_, rfl⟩
  rw [← hQ]
  obtain ⟨R, hR⟩ : ∃ q, q = (headSpec (cd_X10_moveUse :: wsL_law) ({ frames := 1, cells := 0, slots := 0, locals := 24 })).room := ⟨_, rfl⟩
  rw [← hR]
  have hR1 : 1 ≤ R.frames := by rw [hR]; exact Nat.le_refl _
  have hR2 : 24 ≤ R.locals := by rw [hR]; exact Nat.le_refl _
  have hR3 : 0 ≤ R.cells := by rw [hR]; exact Nat.le_refl _
  have hR4 : 0 ≤ R.slots := by rw [hR]; exact Nat.le_refl _
  have hin := (name_of_methodNamed B.named B.method).1
  clear hR B
  refine tf_enter (As := [.ref a0, .int (Int32.ofInt x1), .int (Int32.ofInt x2)]) hargs (Nat.le_of_ble_eq_true rfl) (fun ls hl => ?_)
  have hl : lv_has ls 4 [(0, .ref a0), (1, .int (Int32.ofInt x1)), (2, .int (Int32.ofInt x2))] := hl
  refine lv_aload_n hx hb dX10_moveUse_0 rfl (lv_at hl 0 rfl) ?_
  refine tf_get hx hb hts inlX10 hown hK (ci := 10) rfl hW ha0 rfl 35 rfl (by decide) (hts _ fl_X10_82) dX10_moveUse_1 (fun v1 hv1 hsv1 => ?_)
  obtain ⟨ad2, rfl, had2⟩ := tf_v1 hv1
  refine lv_iload_n hx hb dX10_moveUse_4 rfl (lv_at hl 1 rfl) ?_
  refine tf_iald (t0 := 0) hx hb hK hW had2 rfl rfl (by omega) (by omega) dX10_moveUse_5 (fun v3 hv3 hsv3 => ?_)
  obtain ⟨z4, rfl, hz4⟩ := tf_v0 hv3
  refine lv_istore_n (lv' := [(3, .int (Int32.ofInt z4)), (0, .ref a0), (1, .int (Int32.ofInt x1)), (2, .int (Int32.ofInt x2))]) hx hb dX10_moveUse_6 rfl hl (by decide) rfl (fun ls hl => ?_)
  refine lv_aload_n hx hb dX10_moveUse_7 rfl (lv_at hl 1 rfl) ?_
  refine tf_get hx hb hts inlX10 hown hK (ci := 10) rfl hW ha0 rfl 35 rfl (by decide) (hts _ fl_X10_82) dX10_moveUse_8 (fun v5 hv5 hsv5 => ?_)
  obtain rfl : v5 = .ref ad2 := Option.some.inj (hsv5.symm.trans hsv1)
  refine lv_iload_n hx hb dX10_moveUse_11 rfl (lv_at hl 2 rfl) ?_
  refine tf_iconst hx hb dX10_moveUse_12 ?_
  refine tf_iast (t0 := 0) hx hb hK hW had2 rfl rfl (by omega) (by omega) (by decide) (tf_u0 (by omega) (by omega)) dX10_moveUse_13 (fun H6 locs6 hW hs6 ht6 hq6 => ?_)
  have hs7 := tf_keepQ hsv1 (hq6 _ (tf_ne ha0 had2 (by decide)))
  refine lv_aload_n hx hb dX10_moveUse_14 rfl (lv_at hl 1 rfl) ?_
  refine tf_get hx hb hts inlX10 hown hK (ci := 10) rfl hW ha0 rfl 35 rfl (by decide) (hts _ fl_X10_82) dX10_moveUse_15 (fun v8 hv8 hsv8 => ?_)
  obtain rfl : v8 = .ref ad2 := Option.some.inj (hsv8.symm.trans hs7)
  refine lv_iload_n hx hb dX10_moveUse_18 rfl (lv_at hl 3 rfl) ?_
  refine lv_iload_n hx hb dX10_moveUse_19 rfl (lv_at hl 0 rfl) ?_
  refine tf_iast (t0 := 0) hx hb hK hW had2 rfl rfl (by omega) (by omega) (by decide) (tf_u0 (by omega) (by omega)) dX10_moveUse_20 (fun H9 locs9 hW hs9 ht9 hq9 => ?_)
  have hs10 := tf_keepQ hs7 (hq9 _ (tf_ne ha0 had2 (by decide)))
  exact tf_retv hx hb hr hlocks hQ hW trivial dX10_moveUse_21

abbrev M_X10_isNear : List (Nat × Nat) := []
set_option maxHeartbeats 4000000 in
set_option maxRecDepth 100000 in
theorem c_X10_isNear (l : Launch) (g : tf_G) (T : tf_T) (x0 : Int) (hp0 : (-2147483648) ≤ x0 ∧ x0 ≤ 2147483647) (x1 : Int) (hp1 : (-2147483648) ≤ x1 ∧ x1 ≤ 2147483647) : Met l yX10_isNear (cd_X10_isNear :: wsL_law) ({ frames := 1, cells := 0, slots := 0, locals := 24 }) (tf_P g T [.int (Int32.ofInt x0), .int (Int32.ofInt x1)] (fun H => True)) (tf_Qi g M_X10_isNear T (fun z _ _ => z = 0 ∨ z = 1)) 0 0 (fun q => tf_B g ≤ q) := by
  refine Met.ofW (cc := cX10_isNear) (maxL := 4) (ret := (some .boolean)) (by decide) rfl ?_
  intro p e s m args below meth c s₁ B hml hv
  obtain ⟨hargs, hk, hW0, hB, hpre⟩ := hv
  have hx := B.exec
  have hb := B.bytes
  have hr := B.returns
  have hts : ∀ w ∈ wsL_law, w.before args s = true := fun w h => atoms_spec (ws := cd_X10_isNear :: wsL_law) B.pre w (List.mem_cons_of_mem _ h)
  have hown : s.vm.findClass RX10 = some m.cls := findClass_of_methodNamed B.named
  have hlocks := B.notSynchronized
  have hK := hk.1
  have hW := tf_n.start (M := M_X10_isNear) hW0 hB
  obtain ⟨Q, hQ⟩ : ∃ q, q = MQ below (tf_Qi g M_X10_isNear T (fun z _ _ => z = 0 ∨ z = 1)) args s 0 0 (fun q => tf_B g ≤ q) := ⟨_, rfl⟩
  rw [← hQ]
  obtain ⟨R, hR⟩ : ∃ q, q = (headSpec (cd_X10_isNear :: wsL_law) ({ frames := 1, cells := 0, slots := 0, locals := 24 })).room := ⟨_, rfl⟩
  rw [← hR]
  have hR1 : 1 ≤ R.frames := by rw [hR]; exact Nat.le_refl _
  have hR2 : 24 ≤ R.locals := by rw [hR]; exact Nat.le_refl _
  have hR3 : 0 ≤ R.cells := by rw [hR]; exact Nat.le_refl _
  have hR4 : 0 ≤ R.slots := by rw [hR]; exact Nat.le_refl _
  have hin := (name_of_methodNamed B.named B.method).1
  clear hR B
  have j_40 : ∀ (y0_40 : Int), (-2147483648) ≤ y0_40 ∧ y0_40 ≤ 2147483647 → ∀ (y1_40 : Int), 0 ≤ y1_40 ∧ y1_40 ≤ 429496728 → ∀ (H : Heap) (locs : List Loc), tf_n tf_kt g M_X10_isNear T s.heap T H locs → ∀ (ls : Array Slot), lv_has ls 4 [] → W p l e R s m args below meth c H locs 0 0 Q (F0 m 40 ls [.int (Int32.ofInt y1_40), .int (Int32.ofInt y0_40)]) := by
    intro y0_40 hy0_40 y1_40 hy1_40 H locs hW  ls hl
    refine tf_iadd_any hx hb dX10_isNear_40 (fun z1 hz1 => ?_)
    refine tf_iconst hx hb dX10_isNear_41 ?_
    refine tf_icmp_gt (tgt := 49) hx hb ⟨by omega, by omega⟩ ⟨by decide, by decide⟩ dX10_isNear_42 (by decide) (fun h2 => ?_) (fun h2 => ?_)
    · refine tf_iconst hx hb dX10_isNear_49 ?_
      exact tf_retz (z := 0) hx hb hr hlocks hQ hW (by omega) (show (0) = 0 ∨ (0) = 1 by omega) dX10_isNear_50
    · refine tf_iconst hx hb dX10_isNear_45 ?_
      refine lv_goto (tgt := 50) hx hb dX10_isNear_46 (by decide) ?_
      exact tf_retz (z := 1) hx hb hr hlocks hQ hW (by omega) (show (1) = 0 ∨ (1) = 1 by omega) dX10_isNear_50
  have j_30 : ∀ (x3_30 : Int), (-429496728) ≤ x3_30 ∧ x3_30 ≤ 429496728 → ∀ (y0_30 : Int), (-2147483648) ≤ y0_30 ∧ y0_30 ≤ 2147483647 → ∀ (H : Heap) (locs : List Loc), tf_n tf_kt g M_X10_isNear T s.heap T H locs → ∀ (ls : Array Slot), lv_has ls 4 [(3, .int (Int32.ofInt x3_30))] → W p l e R s m args below meth c H locs 0 0 Q (F0 m 30 ls [.int (Int32.ofInt y0_30)]) := by
    intro x3_30 hx3_30 y0_30 hy0_30 H locs hW  ls hl
    refine lv_iload_n hx hb dX10_isNear_30 rfl (lv_at hl 0 rfl) ?_
    refine tf_if_ge (tgt := 39) hx hb ⟨by omega, by omega⟩ dX10_isNear_31 (by decide) (fun h3 => ?_) (fun h3 => ?_)
    · refine lv_iload_n hx hb dX10_isNear_39 rfl (lv_at hl 0 rfl) ?_
      exact j_40 (y0_30) ⟨by omega, by omega⟩ (x3_30) ⟨by omega, by omega⟩ _ _ hW  _ (lv_sub hl [] rfl)
    · refine lv_iload_n hx hb dX10_isNear_34 rfl (lv_at hl 0 rfl) ?_
      refine tf_ineg hx hb dX10_isNear_35 ?_
      refine lv_goto (tgt := 40) hx hb dX10_isNear_36 (by decide) ?_
      exact j_40 (y0_30) ⟨by omega, by omega⟩ ((-x3_30)) ⟨by omega, by omega⟩ _ _ hW  _ (lv_sub hl [] rfl)
  refine tf_enter (As := [.int (Int32.ofInt x0), .int (Int32.ofInt x1)]) hargs (Nat.le_of_ble_eq_true rfl) (fun ls hl => ?_)
  have hl : lv_has ls 4 [(0, .int (Int32.ofInt x0)), (1, .int (Int32.ofInt x1))] := hl
  refine lv_iload_n hx hb dX10_isNear_0 rfl (lv_at hl 0 rfl) ?_
  refine tf_bipush hx hb dX10_isNear_1 (by decide) ?_
  refine tf_irem_any hx hb (by omega) ⟨by decide, by decide⟩ dX10_isNear_3 (fun z4 hz4 => ?_)
  refine lv_iload_n hx hb dX10_isNear_4 rfl (lv_at hl 1 rfl) ?_
  refine tf_bipush hx hb dX10_isNear_5 (by decide) ?_
  refine tf_irem_any hx hb (by omega) ⟨by decide, by decide⟩ dX10_isNear_7 (fun z5 hz5 => ?_)
  refine tf_isub_any hx hb dX10_isNear_8 (fun z6 hz6 => ?_)
  refine lv_istore_n (lv' := [(2, .int (Int32.ofInt z6)), (0, .int (Int32.ofInt x0)), (1, .int (Int32.ofInt x1))]) hx hb dX10_isNear_9 rfl hl (by decide) rfl (fun ls hl => ?_)
  refine lv_iload_n hx hb dX10_isNear_10 rfl (lv_at hl 1 rfl) ?_
  refine tf_bipush hx hb dX10_isNear_11 (by decide) ?_
  refine tf_idiv_c hx hb ⟨by omega, by omega⟩ ⟨by decide, by decide⟩ (by decide) dX10_isNear_13 (fun z7 hz7 => ?_)
  refine lv_iload_n hx hb dX10_isNear_14 rfl (lv_at hl 2 rfl) ?_
  refine tf_bipush hx hb dX10_isNear_15 (by decide) ?_
  refine tf_idiv_c hx hb ⟨by omega, by omega⟩ ⟨by decide, by decide⟩ (by decide) dX10_isNear_17 (fun z8 hz8 => ?_)
  refine tf_isub hx hb dX10_isNear_18 ?_
  refine lv_istore_n (lv' := [(3, .int (Int32.ofInt ((z7 - z8)))), (2, .int (Int32.ofInt z6)), (0, .int (Int32.ofInt x0)), (1, .int (Int32.ofInt x1))]) hx hb dX10_isNear_19 rfl hl (by decide) rfl (fun ls hl => ?_)
  refine lv_iload_n hx hb dX10_isNear_20 rfl (lv_at hl 1 rfl) ?_
  refine tf_if_ge (tgt := 29) hx hb ⟨by omega, by omega⟩ dX10_isNear_21 (by decide) (fun h9 => ?_) (fun h9 => ?_)
  · refine lv_iload_n hx hb dX10_isNear_29 rfl (lv_at hl 1 rfl) ?_
    exact j_30 ((z7 - z8)) ⟨by omega, by omega⟩ (z6) ⟨by omega, by omega⟩ _ _ hW  _ (lv_sub hl [0] rfl)
  · refine lv_iload_n hx hb dX10_isNear_24 rfl (lv_at hl 1 rfl) ?_
    refine tf_ineg_any hx hb dX10_isNear_25 (fun z10 hz10 => ?_)
    refine lv_goto (tgt := 30) hx hb dX10_isNear_26 (by decide) ?_
    exact j_30 ((z7 - z8)) ⟨by omega, by omega⟩ (z10) ⟨by omega, by omega⟩ _ _ hW  _ (lv_sub hl [0] rfl)

abbrev M_X10_isWatched : List (Nat × Nat) := []
set_option maxHeartbeats 4000000 in
set_option maxRecDepth 100000 in
theorem c_X10_isWatched (l : Launch) (g : tf_G) (T : tf_T) (a0 : Nat) (ha0 : T a0 = some (50, 0)) (x1 : Int) (hp1 : (-2147483648) ≤ x1 ∧ x1 ≤ 2147483647) : Met l yX10_isWatched (cd_X10_isWatched :: wsL_law) ({ frames := 2, cells := 0, slots := 0, locals := 47 }) (tf_P g T [.ref a0, .int (Int32.ofInt x1)] (fun H => True)) (tf_Qi g M_X10_isWatched T (fun z _ _ => z = 0 ∨ z = 1)) 0 0 (fun q => tf_B g ≤ q) := by
  refine Met.ofW (cc := cX10_isWatched) (maxL := 6) (ret := (some .boolean)) (by decide) rfl ?_
  intro p e s m args below meth c s₁ B hml hv
  obtain ⟨hargs, hk, hW0, hB, hpre⟩ := hv
  have hx := B.exec
  have hb := B.bytes
  have hr := B.returns
  have hts : ∀ w ∈ wsL_law, w.before args s = true := fun w h => atoms_spec (ws := cd_X10_isWatched :: wsL_law) B.pre w (List.mem_cons_of_mem _ h)
  have hown : s.vm.findClass RX10 = some m.cls := findClass_of_methodNamed B.named
  have hlocks := B.notSynchronized
  have hK := hk.1
  have hW := tf_n.start (M := M_X10_isWatched) hW0 hB
  obtain ⟨Q, hQ⟩ : ∃ q, q = MQ below (tf_Qi g M_X10_isWatched T (fun z _ _ => z = 0 ∨ z = 1)) args s 0 0 (fun q => tf_B g ≤ q) := ⟨_, rfl⟩
  rw [← hQ]
  obtain ⟨R, hR⟩ : ∃ q, q = (headSpec (cd_X10_isWatched :: wsL_law) ({ frames := 2, cells := 0, slots := 0, locals := 47 })).room := ⟨_, rfl⟩
  rw [← hR]
  have hR1 : 2 ≤ R.frames := by rw [hR]; exact Nat.le_refl _
  have hR2 : 47 ≤ R.locals := by rw [hR]; exact Nat.le_refl _
  have hR3 : 0 ≤ R.cells := by rw [hR]; exact Nat.le_refl _
  have hR4 : 0 ≤ R.slots := by rw [hR]; exact Nat.le_refl _
  have hin := (name_of_methodNamed B.named B.method).1
  clear hR B
  have j_4 : ∀ (n_4 : Nat), (-2147483648) ≤ x1 ∧ x1 ≤ 2147483647 → ∀ (x2_4 : Int), 0 ≤ x2_4 ∧ x2_4 ≤ 1 → ∀ (x3_4 : Int), 0 ≤ x3_4 ∧ x3_4 ≤ 100 → (100 - x3_4 + 1 ≤ (n_4 : Int)) → ∀ (H : Heap) (locs : List Loc), tf_n tf_kt g M_X10_isWatched T s.heap T H locs → ∀ (ls : Array Slot), lv_has ls 6 [(0, .ref a0), (1, .int (Int32.ofInt x1)), (2, .int (Int32.ofInt x2_4)), (3, .int (Int32.ofInt x3_4))] → W p l e R s m args below meth c H locs 0 0 Q (F0 m 4 ls []) := by
    intro n_4
    induction n_4 with
    | zero =>
      intro hx1_4 x2_4 hx2_4 x3_4 hx3_4 hm_4
      exfalso; omega
    | succ n_4 ih_4 =>
      intro hx1_4 x2_4 hx2_4 x3_4 hx3_4 hm_4 H locs hW  ls hl
      have j_33 : ∀ (n_33 : Nat), (-2147483648) ≤ x1 ∧ x1 ≤ 2147483647 → 0 ≤ x3_4 ∧ x3_4 ≤ 99 → ∀ (x4_33 : Int), 0 ≤ x4_33 ∧ x4_33 ≤ 1 → ∀ (x5_33 : Int), 0 ≤ x5_33 ∧ x5_33 ≤ 10000 → (10000 - x5_33 + 1 ≤ (n_33 : Int)) → ∀ (H : Heap) (locs : List Loc), tf_n tf_kt g M_X10_isWatched T s.heap T H locs → ∀ (ls : Array Slot), lv_has ls 6 [(0, .ref a0), (1, .int (Int32.ofInt x1)), (3, .int (Int32.ofInt x3_4)), (4, .int (Int32.ofInt x4_33)), (5, .int (Int32.ofInt x5_33))] → W p l e R s m args below meth c H locs 0 0 Q (F0 m 33 ls []) := by
        intro n_33
        induction n_33 with
        | zero =>
          intro hx1_33 hx3_33 x4_33 hx4_33 x5_33 hx5_33 hm_33
          exfalso; omega
        | succ n_33 ih_33 =>
          intro hx1_33 hx3_33 x4_33 hx4_33 x5_33 hx5_33 hm_33 H locs hW  ls hl
          have j_81 : (-2147483648) ≤ x1 ∧ x1 ≤ 2147483647 → 0 ≤ x3_4 ∧ x3_4 ≤ 99 → 0 ≤ x5_33 ∧ x5_33 ≤ 9999 → ∀ (y0_81 : Int), 0 ≤ y0_81 ∧ y0_81 ≤ 1 → ∀ (H : Heap) (locs : List Loc), tf_n tf_kt g M_X10_isWatched T s.heap T H locs → ∀ (ls : Array Slot), lv_has ls 6 [(0, .ref a0), (1, .int (Int32.ofInt x1)), (3, .int (Int32.ofInt x3_4)), (5, .int (Int32.ofInt x5_33))] → W p l e R s m args below meth c H locs 0 0 Q (F0 m 81 ls [.int (Int32.ofInt y0_81)]) := by
            intro hx1_81 hx3_81 hx5_81 y0_81 hy0_81 H locs hW  ls hl
            refine lv_istore (lv' := [(4, .int (Int32.ofInt y0_81)), (0, .ref a0), (1, .int (Int32.ofInt x1)), (3, .int (Int32.ofInt x3_4)), (5, .int (Int32.ofInt x5_33))]) hx hb dX10_isWatched_81 hl (by decide) rfl (fun ls hl => ?_)
            refine lv_iinc (v := Int32.ofInt ((x5_33 + 1))) (lv' := [(5, .int (Int32.ofInt ((x5_33 + 1)))), (4, .int (Int32.ofInt y0_81)), (0, .ref a0), (1, .int (Int32.ofInt x1)), (3, .int (Int32.ofInt x3_4))]) hx hb dX10_isWatched_83 hl (k := 4) rfl (Int32.ofInt_add _ _).symm (by decide) rfl (fun ls hl => ?_)
            refine lv_goto (tgt := 33) hx hb dX10_isWatched_86 (by decide) ?_
            exact ih_33 ⟨by omega, by omega⟩ ⟨by omega, by omega⟩ (y0_81) ⟨by omega, by omega⟩ ((x5_33 + 1)) ⟨by omega, by omega⟩ (by omega) _ _ hW  _ (lv_sub hl [2, 3, 4, 1, 0] rfl)
          have j_76 : (-2147483648) ≤ x1 ∧ x1 ≤ 2147483647 → 0 ≤ x3_4 ∧ x3_4 ≤ 99 → 0 ≤ x5_33 ∧ x5_33 ≤ 9999 → ∀ (H : Heap) (locs : List Loc), tf_n tf_kt g M_X10_isWatched T s.heap T H locs → ∀ (ls : Array Slot), lv_has ls 6 [(0, .ref a0), (1, .int (Int32.ofInt x1)), (3, .int (Int32.ofInt x3_4)), (5, .int (Int32.ofInt x5_33))] → W p l e R s m args below meth c H locs 0 0 Q (F0 m 76 ls []) := by
            intro hx1_76 hx3_76 hx5_76 H locs hW  ls hl
            refine tf_iconst hx hb dX10_isWatched_76 ?_
            refine lv_goto (tgt := 81) hx hb dX10_isWatched_77 (by decide) ?_
            exact j_81 ⟨by omega, by omega⟩ ⟨by omega, by omega⟩ ⟨by omega, by omega⟩ (1) ⟨by omega, by omega⟩ _ _ hW  _ (lv_sub hl [0, 1, 2, 3] rfl)
          have j_80 : (-2147483648) ≤ x1 ∧ x1 ≤ 2147483647 → 0 ≤ x3_4 ∧ x3_4 ≤ 99 → 0 ≤ x5_33 ∧ x5_33 ≤ 9999 → ∀ (H : Heap) (locs : List Loc), tf_n tf_kt g M_X10_isWatched T s.heap T H locs → ∀ (ls : Array Slot), lv_has ls 6 [(0, .ref a0), (1, .int (Int32.ofInt x1)), (3, .int (Int32.ofInt x3_4)), (5, .int (Int32.ofInt x5_33))] → W p l e R s m args below meth c H locs 0 0 Q (F0 m 80 ls []) := by
            intro hx1_80 hx3_80 hx5_80 H locs hW  ls hl
            refine tf_iconst hx hb dX10_isWatched_80 ?_
            exact j_81 ⟨by omega, by omega⟩ ⟨by omega, by omega⟩ ⟨by omega, by omega⟩ (0) ⟨by omega, by omega⟩ _ _ hW  _ (lv_sub hl [0, 1, 2, 3] rfl)
          refine lv_iload hx hb dX10_isWatched_33 (lv_at hl 4 rfl) ?_
          refine lv_aload_n hx hb dX10_isWatched_35 rfl (lv_at hl 0 rfl) ?_
          refine tf_get hx hb hts inlX10 hown hK (ci := 10) rfl hW ha0 rfl 3 rfl (by decide) (hts _ fl_X10_13) dX10_isWatched_36 (fun v1 hv1 hsv1 => ?_)
          obtain ⟨ad2, rfl, had2⟩ := tf_v1 hv1
          refine tf_iconst hx hb dX10_isWatched_39 ?_
          refine tf_iald (t0 := 0) hx hb hK hW had2 rfl rfl (by omega) (by omega) dX10_isWatched_40 (fun v3 hv3 hsv3 => ?_)
          obtain ⟨z4, rfl, hz4⟩ := tf_v0 hv3
          have hg5 := tf_rd4 (tf_ROof hW had2) hsv3 ⟨by omega, by omega⟩ (by omega)
          have hg6 := tf_rdM (tf_ROof hW had2) hsv3 ⟨by omega, by omega⟩ (by omega)
          refine tf_icmp_ge (tgt := 89) hx hb ⟨by omega, by omega⟩ ⟨by omega, by omega⟩ dX10_isWatched_41 (by decide) (fun h7 => ?_) (fun h7 => ?_)
          · refine lv_iload hx hb dX10_isWatched_89 (lv_at hl 3 rfl) ?_
            refine lv_istore_n (lv' := [(2, .int (Int32.ofInt x4_33)), (0, .ref a0), (1, .int (Int32.ofInt x1)), (3, .int (Int32.ofInt x3_4)), (4, .int (Int32.ofInt x4_33)), (5, .int (Int32.ofInt x5_33))]) hx hb dX10_isWatched_91 rfl hl (by decide) rfl (fun ls hl => ?_)
            refine lv_iinc (v := Int32.ofInt ((x3_4 + 1))) (lv' := [(3, .int (Int32.ofInt ((x3_4 + 1)))), (2, .int (Int32.ofInt x4_33)), (0, .ref a0), (1, .int (Int32.ofInt x1)), (4, .int (Int32.ofInt x4_33)), (5, .int (Int32.ofInt x5_33))]) hx hb dX10_isWatched_92 hl (k := 3) rfl (Int32.ofInt_add _ _).symm (by decide) rfl (fun ls hl => ?_)
            refine lv_goto (tgt := 4) hx hb dX10_isWatched_95 (by decide) ?_
            exact ih_4 ⟨by omega, by omega⟩ (x4_33) ⟨by omega, by omega⟩ ((x3_4 + 1)) ⟨by omega, by omega⟩ (by omega) _ _ hW  _ (lv_sub hl [2, 3, 1, 0] rfl)
          · refine lv_iload hx hb dX10_isWatched_44 (lv_at hl 3 rfl) ?_
            refine tf_if_ne (tgt := 76) hx hb ⟨by omega, by omega⟩ dX10_isWatched_46 (by decide) (fun h8 => ?_) (fun h8 => ?_)
            · exact j_76 ⟨by omega, by omega⟩ ⟨by omega, by omega⟩ ⟨by omega, by omega⟩ _ _ hW  _ (lv_sub hl [0, 1, 2, 4] rfl)
            · refine lv_iload_n hx hb dX10_isWatched_49 rfl (lv_at hl 1 rfl) ?_
              refine lv_iload hx hb dX10_isWatched_50 (lv_at hl 4 rfl) ?_
              refine tf_calli (va_runS (As := [.int (Int32.ofInt x1), .int (Int32.ofInt x5_33)]) (rest := []) ⟨hx, hb, hml, hown, hts⟩ (c_X10_is l g T (x1) ⟨by omega, by omega⟩ (x5_33) ⟨by omega, by omega⟩) ⟨callB_of 2 hts (gw_ws cm_X10_is) rfl rfl rfl (hts _ (tw1 (i := 5) rfl)) (hts _ (tw35 (i := 16) rfl)) hd_X10_is.2 ⟨Nat.le_trans (by decide) hR1, Nat.le_trans (by decide) hR2⟩, hts _ (tw35 (i := 17) rfl)⟩ (tf_preS hk hW trivial) rfl rfl hl.1 rfl (lv_room (Nat.le_of_ble_eq_true rfl)) dX10_isWatched_52 ⟨Nat.zero_le _, Nat.zero_le _⟩) hW (by decide) (fun z9 H9 locs9 hW hF9 hp9 => ?_)
              have hs10 := tf_keepF hF9 ha0 rfl rfl (by decide) hsv1
              rcases hp9 with ⟨rfl, h11⟩ | ⟨rfl⟩
              · refine tf_if_eq (tgt := 80) hx hb ⟨by decide, by decide⟩ dX10_isWatched_55 (by decide) (fun h12 => ?_) (fun h12 => ?_)
                · exfalso; omega
                · refine lv_aload_n hx hb dX10_isWatched_58 rfl (lv_at hl 0 rfl) ?_
                  refine tf_get hx hb hts inlX10 hown hK (ci := 10) rfl hW ha0 rfl 3 rfl (by decide) (hts _ fl_X10_13) dX10_isWatched_59 (fun v13 hv13 hsv13 => ?_)
                  obtain rfl : v13 = .ref ad2 := Option.some.inj (hsv13.symm.trans hs10)
                  refine tf_sipush hx hb dX10_isWatched_62 (by decide) ?_
                  refine lv_iload hx hb dX10_isWatched_65 (lv_at hl 4 rfl) ?_
                  refine tf_iadd hx hb dX10_isWatched_67 ?_
                  refine tf_iald (t0 := 0) hx hb hK hW had2 rfl rfl (by omega) (by omega) dX10_isWatched_68 (fun v14 hv14 hsv14 => ?_)
                  obtain ⟨z15, rfl, hz15⟩ := tf_v0 hv14
                  refine lv_iload_n hx hb dX10_isWatched_69 rfl (lv_at hl 2 rfl) ?_
                  refine tf_calli (va_runS (As := [.int (Int32.ofInt z15), .int (Int32.ofInt x3_4)]) (rest := []) ⟨hx, hb, hml, hown, hts⟩ (c_X10_isNear l g T (z15) ⟨by omega, by omega⟩ (x3_4) ⟨by omega, by omega⟩) ⟨callB_of 2 hts (gw_ws cm_X10_isNear) rfl rfl rfl (hts _ (tw1 (i := 5) rfl)) (hts _ (tw52 (i := 22) rfl)) hd_X10_isNear.2 ⟨Nat.le_trans (by decide) hR1, Nat.le_trans (by decide) hR2⟩, hts _ (tw52 (i := 23) rfl)⟩ (tf_preS hk hW trivial) rfl rfl hl.1 rfl (lv_room (Nat.le_of_ble_eq_true rfl)) dX10_isWatched_70 ⟨Nat.zero_le _, Nat.zero_le _⟩) hW (by decide) (fun z16 H16 locs16 hW hF16 hp16 => ?_)
                  have hs17 := tf_keepF hF16 ha0 rfl rfl (by decide) hs10
                  have hp16 : z16 = 0 ∨ z16 = 1 := hp16
                  refine tf_if_eq (tgt := 80) hx hb ⟨by omega, by omega⟩ dX10_isWatched_73 (by decide) (fun h18 => ?_) (fun h18 => ?_)
                  · exact j_80 ⟨by omega, by omega⟩ ⟨by omega, by omega⟩ ⟨by omega, by omega⟩ _ _ hW  _ (lv_sub hl [0, 1, 2, 4] rfl)
                  · exact j_76 ⟨by omega, by omega⟩ ⟨by omega, by omega⟩ ⟨by omega, by omega⟩ _ _ hW  _ (lv_sub hl [0, 1, 2, 4] rfl)
              · refine tf_if_eq (tgt := 80) hx hb ⟨by decide, by decide⟩ dX10_isWatched_55 (by decide) (fun h19 => ?_) (fun h19 => ?_)
                · exact j_80 ⟨by omega, by omega⟩ ⟨by omega, by omega⟩ ⟨by omega, by omega⟩ _ _ hW  _ (lv_sub hl [0, 1, 2, 4] rfl)
                · exfalso; omega
      have j_28 : (-2147483648) ≤ x1 ∧ x1 ≤ 2147483647 → 0 ≤ x3_4 ∧ x3_4 ≤ 99 → ∀ (y0_28 : Int), 0 ≤ y0_28 ∧ y0_28 ≤ 1 → ∀ (H : Heap) (locs : List Loc), tf_n tf_kt g M_X10_isWatched T s.heap T H locs → ∀ (ls : Array Slot), lv_has ls 6 [(0, .ref a0), (1, .int (Int32.ofInt x1)), (3, .int (Int32.ofInt x3_4))] → W p l e R s m args below meth c H locs 0 0 Q (F0 m 28 ls [.int (Int32.ofInt y0_28)]) := by
        intro hx1_28 hx3_28 y0_28 hy0_28 H locs hW  ls hl
        refine lv_istore (lv' := [(4, .int (Int32.ofInt y0_28)), (0, .ref a0), (1, .int (Int32.ofInt x1)), (3, .int (Int32.ofInt x3_4))]) hx hb dX10_isWatched_28 hl (by decide) rfl (fun ls hl => ?_)
        refine tf_iconst hx hb dX10_isWatched_30 ?_
        refine lv_istore (lv' := [(5, .int (Int32.ofInt 0)), (4, .int (Int32.ofInt y0_28)), (0, .ref a0), (1, .int (Int32.ofInt x1)), (3, .int (Int32.ofInt x3_4))]) hx hb dX10_isWatched_31 hl (by decide) rfl (fun ls hl => ?_)
        exact j_33 ((10000 - 0 + 1 : Int)).toNat ⟨by omega, by omega⟩ ⟨by omega, by omega⟩ (y0_28) ⟨by omega, by omega⟩ (0) ⟨by omega, by omega⟩ (by omega) _ _ hW  _ (lv_sub hl [2, 3, 4, 1, 0] rfl)
      refine lv_iload_n hx hb dX10_isWatched_4 rfl (lv_at hl 3 rfl) ?_
      refine tf_bipush hx hb dX10_isWatched_5 (by decide) ?_
      refine tf_icmp_ge (tgt := 98) hx hb ⟨by omega, by omega⟩ ⟨by decide, by decide⟩ dX10_isWatched_7 (by decide) (fun h20 => ?_) (fun h20 => ?_)
      · refine lv_iload_n hx hb dX10_isWatched_98 rfl (lv_at hl 2 rfl) ?_
        exact tf_retz (z := x2_4) hx hb hr hlocks hQ hW (by omega) (show (x2_4) = 0 ∨ (x2_4) = 1 by omega) dX10_isWatched_99
      · refine lv_iload_n hx hb dX10_isWatched_10 rfl (lv_at hl 2 rfl) ?_
        refine tf_if_eq (tgt := 98) hx hb ⟨by omega, by omega⟩ dX10_isWatched_11 (by decide) (fun h21 => ?_) (fun h21 => ?_)
        · refine lv_iload_n hx hb dX10_isWatched_98 rfl (lv_at hl 2 rfl) ?_
          exact tf_retz (z := x2_4) hx hb hr hlocks hQ hW (by omega) (show (x2_4) = 0 ∨ (x2_4) = 1 by omega) dX10_isWatched_99
        · refine lv_aload_n hx hb dX10_isWatched_14 rfl (lv_at hl 0 rfl) ?_
          refine tf_get hx hb hts inlX10 hown hK (ci := 10) rfl hW ha0 rfl 44 rfl (by decide) (hts _ fl_X10_91) dX10_isWatched_15 (fun v22 hv22 hsv22 => ?_)
          obtain ⟨ad23, rfl, had23⟩ := tf_v1 hv22
          refine lv_iload_n hx hb dX10_isWatched_18 rfl (lv_at hl 3 rfl) ?_
          refine tf_zald (t0 := 2) hx hb hK hW had23 rfl rfl (by omega) (by omega) dX10_isWatched_19 (fun v24 hv24 hsv24 => ?_)
          obtain ⟨z25, rfl, hz25⟩ := tf_v0 hv24
          refine tf_if_ne (tgt := 27) hx hb ⟨by omega, by omega⟩ dX10_isWatched_20 (by decide) (fun h26 => ?_) (fun h26 => ?_)
          · refine tf_iconst hx hb dX10_isWatched_27 ?_
            exact j_28 ⟨by omega, by omega⟩ ⟨by omega, by omega⟩ (0) ⟨by omega, by omega⟩ _ _ hW  _ (lv_sub hl [0, 1, 3] rfl)
          · refine tf_iconst hx hb dX10_isWatched_23 ?_
            refine lv_goto (tgt := 28) hx hb dX10_isWatched_24 (by decide) ?_
            exact j_28 ⟨by omega, by omega⟩ ⟨by omega, by omega⟩ (1) ⟨by omega, by omega⟩ _ _ hW  _ (lv_sub hl [0, 1, 3] rfl)
  refine tf_enter (As := [.ref a0, .int (Int32.ofInt x1)]) hargs (Nat.le_of_ble_eq_true rfl) (fun ls hl => ?_)
  have hl : lv_has ls 6 [(0, .ref a0), (1, .int (Int32.ofInt x1))] := hl
  refine tf_iconst hx hb dX10_isWatched_0 ?_
  refine lv_istore_n (lv' := [(2, .int (Int32.ofInt 1)), (0, .ref a0), (1, .int (Int32.ofInt x1))]) hx hb dX10_isWatched_1 rfl hl (by decide) rfl (fun ls hl => ?_)
  refine tf_iconst hx hb dX10_isWatched_2 ?_
  refine lv_istore_n (lv' := [(3, .int (Int32.ofInt 0)), (2, .int (Int32.ofInt 1)), (0, .ref a0), (1, .int (Int32.ofInt x1))]) hx hb dX10_isWatched_3 rfl hl (by decide) rfl (fun ls hl => ?_)
  exact j_4 ((100 - 0 + 1 : Int)).toNat ⟨by omega, by omega⟩ (1) ⟨by omega, by omega⟩ (0) ⟨by omega, by omega⟩ (by omega) _ _ hW  _ (lv_sub hl [2, 3, 1, 0] rfl)

abbrev M_X10_kinds : List (Nat × Nat) := [(40, 0), (41, 0), (42, 0), (43, 0), (44, 0), (50, 0), (50, 37), (50, 38), (50, 39), (50, 40), (50, 41), (50, 42)]
set_option maxHeartbeats 4000000 in
set_option maxRecDepth 100000 in
theorem c_X10_kinds (l : Launch) (g : tf_G) (T : tf_T) (a0 : Nat) (ha0 : T a0 = some (50, 0)) (x1 : Int) (hp1 : (-2147483648) ≤ x1 ∧ x1 ≤ 2147483647) (x2 : Int) (hp2 : (-2147483648) ≤ x2 ∧ x2 ≤ 2147483647) : Met l yX10_kinds (cd_X10_kinds :: wsL_law) ({ frames := 6, cells := 0, slots := 0, locals := 139 }) (tf_P g T [.ref a0, .int (Int32.ofInt x1), .int (Int32.ofInt x2)] (fun H => True)) (tf_Qi g M_X10_kinds T (fun z _ _ => (-2147483648) ≤ z ∧ z ≤ 2147483647)) 0 0 (fun q => tf_B g ≤ q) := by
  refine Met.ofW (cc := cX10_kinds) (maxL := 5) (ret := (some .int)) (by decide) rfl ?_
  intro p e s m args below meth c s₁ B hml hv
  obtain ⟨hargs, hk, hW0, hB, hpre⟩ := hv
  have hx := B.exec
  have hb := B.bytes
  have hr := B.returns
  have hts : ∀ w ∈ wsL_law, w.before args s = true := fun w h => atoms_spec (ws := cd_X10_kinds :: wsL_law) B.pre w (List.mem_cons_of_mem _ h)
  have hown : s.vm.findClass RX10 = some m.cls := findClass_of_methodNamed B.named
  have hlocks := B.notSynchronized
  have hK := hk.1
  have hW := tf_n.start (M := M_X10_kinds) hW0 hB
  obtain ⟨Q, hQ⟩ : ∃ q, q = MQ below (tf_Qi g M_X10_kinds T (fun z _ _ => (-2147483648) ≤ z ∧ z ≤ 2147483647)) args s 0 0 (fun q => tf_B g ≤ q) := ⟨_, rfl⟩
  rw [← hQ]
  obtain ⟨R, hR⟩ : ∃ q, q = (headSpec (cd_X10_kinds :: wsL_law) ({ frames := 6, cells := 0, slots := 0, locals := 139 })).room := ⟨_, rfl⟩
  rw [← hR]
  have hR1 : 6 ≤ R.frames := by rw [hR]; exact Nat.le_refl _
  have hR2 : 139 ≤ R.locals := by rw [hR]; exact Nat.le_refl _
  have hR3 : 0 ≤ R.cells := by rw [hR]; exact Nat.le_refl _
  have hR4 : 0 ≤ R.slots := by rw [hR]; exact Nat.le_refl _
  have hin := (name_of_methodNamed B.named B.method).1
  clear hR B
  have j_35 : ∀ (n_35 : Nat), 0 ≤ x1 ∧ x1 ≤ 4 → 0 ≤ x2 ∧ x2 ≤ 3 → ∀ (x3_35 : Int), (-2147483648) ≤ x3_35 ∧ x3_35 ≤ 2147483647 → ∀ (x4_35 : Int), 0 ≤ x4_35 ∧ x4_35 ≤ 100 → (100 - x4_35 + 1 ≤ (n_35 : Int)) → ∀ (H : Heap) (locs : List Loc), tf_n tf_kt g M_X10_kinds T s.heap T H locs → ∀ (ls : Array Slot), lv_has ls 5 [(0, .ref a0), (1, .int (Int32.ofInt x1)), (2, .int (Int32.ofInt x2)), (3, .int (Int32.ofInt x3_35)), (4, .int (Int32.ofInt x4_35))] → W p l e R s m args below meth c H locs 0 0 Q (F0 m 35 ls []) := by
    intro n_35
    induction n_35 with
    | zero =>
      intro hx1_35 hx2_35 x3_35 hx3_35 x4_35 hx4_35 hm_35
      exfalso; omega
    | succ n_35 ih_35 =>
      intro hx1_35 hx2_35 x3_35 hx3_35 x4_35 hx4_35 hm_35 H locs hW  ls hl
      have j_76 : 0 ≤ x1 ∧ x1 ≤ 4 → 0 ≤ x2 ∧ x2 ≤ 3 → ∀ (x3_76 : Int), (-2147483648) ≤ x3_76 ∧ x3_76 ≤ 2147483647 → 0 ≤ x4_35 ∧ x4_35 ≤ 99 → ∀ (H : Heap) (locs : List Loc), tf_n tf_kt g M_X10_kinds T s.heap T H locs → ∀ (ls : Array Slot), lv_has ls 5 [(0, .ref a0), (1, .int (Int32.ofInt x1)), (2, .int (Int32.ofInt x2)), (3, .int (Int32.ofInt x3_76)), (4, .int (Int32.ofInt x4_35))] → W p l e R s m args below meth c H locs 0 0 Q (F0 m 76 ls []) := by
        intro hx1_76 hx2_76 x3_76 hx3_76 hx4_76 H locs hW  ls hl
        refine lv_iinc (v := Int32.ofInt ((x4_35 + 1))) (lv' := [(4, .int (Int32.ofInt ((x4_35 + 1)))), (0, .ref a0), (1, .int (Int32.ofInt x1)), (2, .int (Int32.ofInt x2)), (3, .int (Int32.ofInt x3_76))]) hx hb dX10_kinds_76 hl (k := 4) rfl (Int32.ofInt_add _ _).symm (by decide) rfl (fun ls hl => ?_)
        refine lv_goto (tgt := 35) hx hb dX10_kinds_79 (by decide) ?_
        exact ih_35 ⟨by omega, by omega⟩ ⟨by omega, by omega⟩ (x3_76) ⟨by omega, by omega⟩ ((x4_35 + 1)) ⟨by omega, by omega⟩ (by omega) _ _ hW  _ (lv_sub hl [1, 2, 3, 4, 0] rfl)
      have j_74 : 0 ≤ x1 ∧ x1 ≤ 4 → 0 ≤ x2 ∧ x2 ≤ 3 → 0 ≤ x4_35 ∧ x4_35 ≤ 99 → (-2147483648) ≤ x3_35 ∧ x3_35 ≤ 2147483647 → ∀ (y1_74 : Int), 0 ≤ y1_74 ∧ y1_74 ≤ 1 → ∀ (H : Heap) (locs : List Loc), tf_n tf_kt g M_X10_kinds T s.heap T H locs → ∀ (ls : Array Slot), lv_has ls 5 [(0, .ref a0), (1, .int (Int32.ofInt x1)), (2, .int (Int32.ofInt x2)), (4, .int (Int32.ofInt x4_35))] → W p l e R s m args below meth c H locs 0 0 Q (F0 m 74 ls [.int (Int32.ofInt y1_74), .int (Int32.ofInt x3_35)]) := by
        intro hx1_74 hx2_74 hx4_74 hy0_74 y1_74 hy1_74 H locs hW  ls hl
        refine tf_iadd_any hx hb dX10_kinds_74 (fun z1 hz1 => ?_)
        refine lv_istore_n (lv' := [(3, .int (Int32.ofInt z1)), (0, .ref a0), (1, .int (Int32.ofInt x1)), (2, .int (Int32.ofInt x2)), (4, .int (Int32.ofInt x4_35))]) hx hb dX10_kinds_75 rfl hl (by decide) rfl (fun ls hl => ?_)
        exact j_76 ⟨by omega, by omega⟩ ⟨by omega, by omega⟩ (z1) ⟨by omega, by omega⟩ ⟨by omega, by omega⟩ _ _ hW  _ (lv_sub hl [1, 2, 3, 0, 4] rfl)
      refine lv_iload hx hb dX10_kinds_35 (lv_at hl 4 rfl) ?_
      refine tf_bipush hx hb dX10_kinds_37 (by decide) ?_
      refine tf_icmp_ge (tgt := 82) hx hb ⟨by omega, by omega⟩ ⟨by decide, by decide⟩ dX10_kinds_39 (by decide) (fun h2 => ?_) (fun h2 => ?_)
      · refine lv_iload_n hx hb dX10_kinds_82 rfl (lv_at hl 3 rfl) ?_
        exact tf_reti (z := x3_35) hx hb hr hlocks hQ hW (show (-2147483648) ≤ (x3_35) ∧ (x3_35) ≤ 2147483647 by omega) dX10_kinds_83
      · refine lv_aload_n hx hb dX10_kinds_42 rfl (lv_at hl 0 rfl) ?_
        refine tf_get hx hb hts inlX10 hown hK (ci := 10) rfl hW ha0 rfl 32 rfl (by decide) (hts _ fl_X10_73) dX10_kinds_43 (fun v3 hv3 hsv3 => ?_)
        obtain ⟨ad4, rfl, had4⟩ := tf_v1 hv3
        refine lv_iload hx hb dX10_kinds_46 (lv_at hl 4 rfl) ?_
        refine tf_iald (t0 := 0) hx hb hK hW had4 rfl rfl (by omega) (by omega) dX10_kinds_48 (fun v5 hv5 hsv5 => ?_)
        obtain ⟨z6, rfl, hz6⟩ := tf_v0 hv5
        refine tf_iconst hx hb dX10_kinds_49 ?_
        refine tf_icmp_ne (tgt := 76) hx hb ⟨by omega, by omega⟩ ⟨by decide, by decide⟩ dX10_kinds_50 (by decide) (fun h7 => ?_) (fun h7 => ?_)
        · exact j_76 ⟨by omega, by omega⟩ ⟨by omega, by omega⟩ (x3_35) ⟨by omega, by omega⟩ ⟨by omega, by omega⟩ _ _ hW  _ (lv_sub hl [0, 1, 2, 3, 4] rfl)
        · refine lv_aload_n hx hb dX10_kinds_53 rfl (lv_at hl 0 rfl) ?_
          refine lv_iload hx hb dX10_kinds_54 (lv_at hl 4 rfl) ?_
          refine lv_iload_n hx hb dX10_kinds_56 rfl (lv_at hl 2 rfl) ?_
          refine tf_callv (va_runV (As := [.int (Int32.ofInt x4_35), .int (Int32.ofInt x2)]) (rest := []) ⟨hx, hb, hml, hown, hts⟩ (c_X10_find l g T a0 ha0 (x4_35) ⟨by omega, by omega⟩ (x2) ⟨by omega, by omega⟩) (cwV 2 hts gv_X10_397 rfl rfl rfl hd_X10_find ⟨Nat.le_trans (by decide) hR1, Nat.le_trans (by decide) hR2⟩) (tf_preV hk hW ha0 (ci := 10) rfl rfl trivial) rfl rfl hl.1 rfl (lv_room (Nat.le_of_ble_eq_true rfl)) dX10_kinds_57 ⟨Nat.zero_le _, Nat.zero_le _⟩) hW (by decide) (fun H8 locs8 hW hF8 hp8 => ?_)
          refine lv_iload_n hx hb dX10_kinds_60 rfl (lv_at hl 3 rfl) ?_
          refine lv_aload_n hx hb dX10_kinds_61 rfl (lv_at hl 0 rfl) ?_
          refine tf_get hx hb hts inlX10 hown hK (ci := 10) rfl hW ha0 rfl 37 rfl (by decide) (hts _ fl_X10_376) dX10_kinds_62 (fun v9 hv9 hsv9 => ?_)
          obtain ⟨z10, rfl, hz10⟩ := tf_v0 hv9
          refine lv_iload_n hx hb dX10_kinds_65 rfl (lv_at hl 1 rfl) ?_
          refine tf_icmp_ne (tgt := 73) hx hb ⟨by omega, by omega⟩ ⟨by omega, by omega⟩ dX10_kinds_66 (by decide) (fun h11 => ?_) (fun h11 => ?_)
          · refine tf_iconst hx hb dX10_kinds_73 ?_
            exact j_74 ⟨by omega, by omega⟩ ⟨by omega, by omega⟩ ⟨by omega, by omega⟩ ⟨by omega, by omega⟩ (0) ⟨by omega, by omega⟩ _ _ hW  _ (lv_sub hl [0, 1, 2, 4] rfl)
          · refine tf_iconst hx hb dX10_kinds_69 ?_
            refine lv_goto (tgt := 74) hx hb dX10_kinds_70 (by decide) ?_
            exact j_74 ⟨by omega, by omega⟩ ⟨by omega, by omega⟩ ⟨by omega, by omega⟩ ⟨by omega, by omega⟩ (1) ⟨by omega, by omega⟩ _ _ hW  _ (lv_sub hl [0, 1, 2, 4] rfl)
  refine tf_enter (As := [.ref a0, .int (Int32.ofInt x1), .int (Int32.ofInt x2)]) hargs (Nat.le_of_ble_eq_true rfl) (fun ls hl => ?_)
  have hl : lv_has ls 5 [(0, .ref a0), (1, .int (Int32.ofInt x1)), (2, .int (Int32.ofInt x2))] := hl
  refine lv_aload_n hx hb dX10_kinds_0 rfl (lv_at hl 0 rfl) ?_
  refine tf_iconst hx hb dX10_kinds_1 ?_
  refine tf_put hx hb hts inlX10 tyX10 tyX10_ok nmX10 hown hK (ci := 10) rfl hW ha0 rfl rfl 0 rfl (by decide) (by decide) (hts _ fl_X10_103) rfl (tf_u0 (by omega) (by omega)) rfl rfl dX10_kinds_2 (fun H12 locs12 hW hs12 ht12 hq12 => ?_)
  refine lv_iload_n hx hb dX10_kinds_5 rfl (lv_at hl 1 rfl) ?_
  refine tf_i2l hx hb ⟨by omega, by omega⟩ dX10_kinds_6 ?_
  refine tf_lconst (z := 0) hx hb dX10_kinds_7 (by decide) ?_
  refine tf_ldc2 (z := 4) hx hb hown (hts _ kl_X10_411) (by decide) dX10_kinds_8 ?_
  refine tf_calli (va_runS (As := [.long (Int64.ofInt x1), .long (Int64.ofInt 0), .long (Int64.ofInt 4)]) (rest := []) ⟨hx, hb, hml, hown, hts⟩ (c_X10_in l g T (x1) ⟨by omega, by omega⟩ (0) ⟨by omega, by omega⟩ (4) ⟨by omega, by omega⟩) ⟨callB_of 3 hts (gw_ws cm_X10_in) rfl rfl rfl (hts _ (tw1 (i := 5) rfl)) (hts _ (tw11 (i := 3) rfl)) hd_X10_in.2 ⟨Nat.le_trans (by decide) hR1, Nat.le_trans (by decide) hR2⟩, hts _ (tw11 (i := 4) rfl)⟩ (tf_preS hk hW trivial) rfl rfl hl.1 rfl (lv_room (Nat.le_of_ble_eq_true rfl)) dX10_kinds_11 ⟨Nat.zero_le _, Nat.zero_le _⟩) hW (by decide) (fun z13 H13 locs13 hW hF13 hp13 => ?_)
  rcases hp13 with ⟨rfl, h14, h15⟩ | ⟨rfl, h16⟩
  · refine tf_if_eq (tgt := 24) hx hb ⟨by decide, by decide⟩ dX10_kinds_14 (by decide) (fun h17 => ?_) (fun h17 => ?_)
    · exfalso; omega
    · refine lv_iload_n hx hb dX10_kinds_17 rfl (lv_at hl 2 rfl) ?_
      refine tf_calli (va_runS (As := [.int (Int32.ofInt x2)]) (rest := []) ⟨hx, hb, hml, hown, hts⟩ (c_X10_isWay l g T (x2) ⟨by omega, by omega⟩) ⟨callB_of 1 hts (gw_ws cm_X10_isWay) rfl rfl rfl (hts _ (tw1 (i := 5) rfl)) (hts _ (tw17 (i := 8) rfl)) hd_X10_isWay.2 ⟨Nat.le_trans (by decide) hR1, Nat.le_trans (by decide) hR2⟩, hts _ (tw17 (i := 9) rfl)⟩ (tf_preS hk hW trivial) rfl rfl hl.1 rfl (lv_room (Nat.le_of_ble_eq_true rfl)) dX10_kinds_18 ⟨Nat.zero_le _, Nat.zero_le _⟩) hW (by decide) (fun z18 H18 locs18 hW hF18 hp18 => ?_)
      rcases hp18 with ⟨rfl, h19, h20⟩ | ⟨rfl, h21⟩
      · refine tf_if_ne (tgt := 26) hx hb ⟨by decide, by decide⟩ dX10_kinds_21 (by decide) (fun h22 => ?_) (fun h22 => ?_)
        · refine lv_aload_n hx hb dX10_kinds_26 rfl (lv_at hl 0 rfl) ?_
          refine tf_callv (va_runV (As := []) (rest := []) ⟨hx, hb, hml, hown, hts⟩ (c_X10_layAll l g T a0 ha0) (cwV 0 hts gv_X10_405 rfl rfl rfl hd_X10_layAll ⟨Nat.le_trans (by decide) hR1, Nat.le_trans (by decide) hR2⟩) (tf_preV hk hW ha0 (ci := 10) rfl rfl trivial) rfl rfl hl.1 rfl (lv_room (Nat.le_of_ble_eq_true rfl)) dX10_kinds_27 ⟨Nat.zero_le _, Nat.zero_le _⟩) hW (by decide) (fun H23 locs23 hW hF23 hp23 => ?_)
          refine tf_iconst hx hb dX10_kinds_30 ?_
          refine lv_istore_n (lv' := [(3, .int (Int32.ofInt 0)), (0, .ref a0), (1, .int (Int32.ofInt x1)), (2, .int (Int32.ofInt x2))]) hx hb dX10_kinds_31 rfl hl (by decide) rfl (fun ls hl => ?_)
          refine tf_iconst hx hb dX10_kinds_32 ?_
          refine lv_istore (lv' := [(4, .int (Int32.ofInt 0)), (3, .int (Int32.ofInt 0)), (0, .ref a0), (1, .int (Int32.ofInt x1)), (2, .int (Int32.ofInt x2))]) hx hb dX10_kinds_33 hl (by decide) rfl (fun ls hl => ?_)
          exact j_35 ((100 - 0 + 1 : Int)).toNat ⟨by omega, by omega⟩ ⟨by omega, by omega⟩ (0) ⟨by omega, by omega⟩ (0) ⟨by omega, by omega⟩ (by omega) _ _ hW  _ (lv_sub hl [2, 3, 4, 1, 0] rfl)
        · exfalso; omega
      · refine tf_if_ne (tgt := 26) hx hb ⟨by decide, by decide⟩ dX10_kinds_21 (by decide) (fun h24 => ?_) (fun h24 => ?_)
        · exfalso; omega
        · refine tf_iconst hx hb dX10_kinds_24 ?_
          exact tf_reti (z := (-1)) hx hb hr hlocks hQ hW (show (-2147483648) ≤ ((-1)) ∧ ((-1)) ≤ 2147483647 by omega) dX10_kinds_25
  · refine tf_if_eq (tgt := 24) hx hb ⟨by decide, by decide⟩ dX10_kinds_14 (by decide) (fun h25 => ?_) (fun h25 => ?_)
    · refine tf_iconst hx hb dX10_kinds_24 ?_
      exact tf_reti (z := (-1)) hx hb hr hlocks hQ hW (show (-2147483648) ≤ ((-1)) ∧ ((-1)) ≤ 2147483647 by omega) dX10_kinds_25
    · exfalso; omega

abbrev M_X10_drawn : List (Nat × Nat) := [(50, 0)]
set_option maxHeartbeats 4000000 in
set_option maxRecDepth 100000 in
theorem c_X10_drawn (l : Launch) (g : tf_G) (T : tf_T) (a0 : Nat) (ha0 : T a0 = some (50, 0)) (x1 : Int) (hp1 : (-2147483648) ≤ x1 ∧ x1 ≤ 2147483647) (x2 : Int) (hp2 : (-2147483648) ≤ x2 ∧ x2 ≤ 2147483647) : Met l yX10_drawn (cd_X10_drawn :: wsL_law) ({ frames := 2, cells := 0, slots := 0, locals := 49 }) (tf_P g T [.ref a0, .int (Int32.ofInt x1), .int (Int32.ofInt x2)] (fun H => True)) (tf_Qi g M_X10_drawn T (fun z _ _ => (-2147483648) ≤ z ∧ z ≤ 2147483647)) 0 0 (fun q => tf_B g ≤ q) := by
  refine Met.ofW (cc := cX10_drawn) (maxL := 3) (ret := (some .int)) (by decide) rfl ?_
  intro p e s m args below meth c s₁ B hml hv
  obtain ⟨hargs, hk, hW0, hB, hpre⟩ := hv
  have hx := B.exec
  have hb := B.bytes
  have hr := B.returns
  have hts : ∀ w ∈ wsL_law, w.before args s = true := fun w h => atoms_spec (ws := cd_X10_drawn :: wsL_law) B.pre w (List.mem_cons_of_mem _ h)
  have hown : s.vm.findClass RX10 = some m.cls := findClass_of_methodNamed B.named
  have hlocks := B.notSynchronized
  have hK := hk.1
  have hW := tf_n.start (M := M_X10_drawn) hW0 hB
  obtain ⟨Q, hQ⟩ : ∃ q, q = MQ below (tf_Qi g M_X10_drawn T (fun z _ _ => (-2147483648) ≤ z ∧ z ≤ 2147483647)) args s 0 0 (fun q => tf_B g ≤ q) := ⟨_, rfl⟩
  rw [← hQ]
  obtain ⟨R, hR⟩ : ∃ q, q = (headSpec (cd_X10_drawn :: wsL_law) ({ frames := 2, cells := 0, slots := 0, locals := 49 })).room := ⟨_, rfl⟩
  rw [← hR]
  have hR1 : 2 ≤ R.frames := by rw [hR]; exact Nat.le_refl _
  have hR2 : 49 ≤ R.locals := by rw [hR]; exact Nat.le_refl _
  have hR3 : 0 ≤ R.cells := by rw [hR]; exact Nat.le_refl _
  have hR4 : 0 ≤ R.slots := by rw [hR]; exact Nat.le_refl _
  have hin := (name_of_methodNamed B.named B.method).1
  clear hR B
  refine tf_enter (As := [.ref a0, .int (Int32.ofInt x1), .int (Int32.ofInt x2)]) hargs (Nat.le_of_ble_eq_true rfl) (fun ls hl => ?_)
  have hl : lv_has ls 3 [(0, .ref a0), (1, .int (Int32.ofInt x1)), (2, .int (Int32.ofInt x2))] := hl
  refine lv_aload_n hx hb dX10_drawn_0 rfl (lv_at hl 0 rfl) ?_
  refine tf_iconst hx hb dX10_drawn_1 ?_
  refine tf_put hx hb hts inlX10 tyX10 tyX10_ok nmX10 hown hK (ci := 10) rfl hW ha0 rfl rfl 0 rfl (by decide) (by decide) (hts _ fl_X10_103) rfl (tf_u0 (by omega) (by omega)) rfl rfl dX10_drawn_2 (fun H1 locs1 hW hs1 ht1 hq1 => ?_)
  refine lv_aload_n hx hb dX10_drawn_5 rfl (lv_at hl 0 rfl) ?_
  refine tf_get hx hb hts inlX10 hown hK (ci := 10) rfl hW ha0 rfl 48 rfl (by decide) (hts _ fl_X10_482) dX10_drawn_6 (fun v2 hv2 hsv2 => ?_)
  obtain ⟨z3, rfl, hz3⟩ := tf_v0 hv2
  refine tf_if_eq (tgt := 62) hx hb ⟨by omega, by omega⟩ dX10_drawn_9 (by decide) (fun h4 => ?_) (fun h4 => ?_)
  · refine tf_iconst hx hb dX10_drawn_62 ?_
    exact tf_reti (z := (-1)) hx hb hr hlocks hQ hW (show (-2147483648) ≤ ((-1)) ∧ ((-1)) ≤ 2147483647 by omega) dX10_drawn_63
  · refine lv_iload_n hx hb dX10_drawn_12 rfl (lv_at hl 1 rfl) ?_
    refine tf_i2l hx hb ⟨by omega, by omega⟩ dX10_drawn_13 ?_
    refine tf_lconst (z := 0) hx hb dX10_drawn_14 (by decide) ?_
    refine tf_ldc2 (z := 23) hx hb hown (hts _ kl_X10_254) (by decide) dX10_drawn_15 ?_
    refine tf_calli (va_runS (As := [.long (Int64.ofInt x1), .long (Int64.ofInt 0), .long (Int64.ofInt 23)]) (rest := []) ⟨hx, hb, hml, hown, hts⟩ (c_X10_in l g T (x1) ⟨by omega, by omega⟩ (0) ⟨by omega, by omega⟩ (23) ⟨by omega, by omega⟩) ⟨callB_of 3 hts (gw_ws cm_X10_in) rfl rfl rfl (hts _ (tw1 (i := 5) rfl)) (hts _ (tw11 (i := 3) rfl)) hd_X10_in.2 ⟨Nat.le_trans (by decide) hR1, Nat.le_trans (by decide) hR2⟩, hts _ (tw11 (i := 4) rfl)⟩ (tf_preS hk hW trivial) rfl rfl hl.1 rfl (lv_room (Nat.le_of_ble_eq_true rfl)) dX10_drawn_18 ⟨Nat.zero_le _, Nat.zero_le _⟩) hW (by decide) (fun z5 H5 locs5 hW hF5 hp5 => ?_)
    rcases hp5 with ⟨rfl, h6, h7⟩ | ⟨rfl, h8⟩
    · refine tf_if_eq (tgt := 62) hx hb ⟨by decide, by decide⟩ dX10_drawn_21 (by decide) (fun h9 => ?_) (fun h9 => ?_)
      · exfalso; omega
      · refine lv_iload_n hx hb dX10_drawn_24 rfl (lv_at hl 2 rfl) ?_
        refine tf_i2l hx hb ⟨by omega, by omega⟩ dX10_drawn_25 ?_
        refine tf_lconst (z := 0) hx hb dX10_drawn_26 (by decide) ?_
        refine tf_lconst (z := 1) hx hb dX10_drawn_27 (by decide) ?_
        refine tf_calli (va_runS (As := [.long (Int64.ofInt x2), .long (Int64.ofInt 0), .long (Int64.ofInt 1)]) (rest := []) ⟨hx, hb, hml, hown, hts⟩ (c_X10_in l g T (x2) ⟨by omega, by omega⟩ (0) ⟨by omega, by omega⟩ (1) ⟨by omega, by omega⟩) ⟨callB_of 3 hts (gw_ws cm_X10_in) rfl rfl rfl (hts _ (tw1 (i := 5) rfl)) (hts _ (tw11 (i := 3) rfl)) hd_X10_in.2 ⟨Nat.le_trans (by decide) hR1, Nat.le_trans (by decide) hR2⟩, hts _ (tw11 (i := 4) rfl)⟩ (tf_preS hk hW trivial) rfl rfl hl.1 rfl (lv_room (Nat.le_of_ble_eq_true rfl)) dX10_drawn_28 ⟨Nat.zero_le _, Nat.zero_le _⟩) hW (by decide) (fun z10 H10 locs10 hW hF10 hp10 => ?_)
        rcases hp10 with ⟨rfl, h11, h12⟩ | ⟨rfl, h13⟩
        · refine tf_if_eq (tgt := 62) hx hb ⟨by decide, by decide⟩ dX10_drawn_31 (by decide) (fun h14 => ?_) (fun h14 => ?_)
          · exfalso; omega
          · refine lv_iload_n hx hb dX10_drawn_34 rfl (lv_at hl 2 rfl) ?_
            refine tf_if_ne (tgt := 50) hx hb ⟨by omega, by omega⟩ dX10_drawn_35 (by decide) (fun h15 => ?_) (fun h15 => ?_)
            · refine lv_aload_n hx hb dX10_drawn_50 rfl (lv_at hl 0 rfl) ?_
              refine tf_get hx hb hts inlX10 hown hK (ci := 10) rfl hW ha0 rfl 47 rfl (by decide) (hts _ fl_X10_100) dX10_drawn_51 (fun v16 hv16 hsv16 => ?_)
              obtain ⟨ad17, rfl, had17⟩ := tf_v1 hv16
              refine lv_iload_n hx hb dX10_drawn_54 rfl (lv_at hl 1 rfl) ?_
              refine tf_iald (t0 := 0) hx hb hK hW had17 rfl rfl (by omega) (by omega) dX10_drawn_55 (fun v18 hv18 hsv18 => ?_)
              obtain ⟨z19, rfl, hz19⟩ := tf_v0 hv18
              refine tf_bipush hx hb dX10_drawn_56 (by decide) ?_
              refine tf_irem hx hb ⟨by omega, by omega⟩ (by omega) ⟨by decide, by decide⟩ (by decide) dX10_drawn_58 ?_
              refine tf_name (fun z20 ez20 => ?_)
              refine lv_goto (tgt := 63) hx hb dX10_drawn_59 (by decide) ?_
              exact tf_reti (z := z20) hx hb hr hlocks hQ hW (show (-2147483648) ≤ (z20) ∧ (z20) ≤ 2147483647 by omega) dX10_drawn_63
            · refine lv_aload_n hx hb dX10_drawn_38 rfl (lv_at hl 0 rfl) ?_
              refine tf_get hx hb hts inlX10 hown hK (ci := 10) rfl hW ha0 rfl 47 rfl (by decide) (hts _ fl_X10_100) dX10_drawn_39 (fun v21 hv21 hsv21 => ?_)
              obtain ⟨ad22, rfl, had22⟩ := tf_v1 hv21
              refine lv_iload_n hx hb dX10_drawn_42 rfl (lv_at hl 1 rfl) ?_
              refine tf_iald (t0 := 0) hx hb hK hW had22 rfl rfl (by omega) (by omega) dX10_drawn_43 (fun v23 hv23 hsv23 => ?_)
              obtain ⟨z24, rfl, hz24⟩ := tf_v0 hv23
              refine tf_bipush hx hb dX10_drawn_44 (by decide) ?_
              refine tf_idiv hx hb ⟨by omega, by omega⟩ (by omega) ⟨by decide, by decide⟩ (by decide) dX10_drawn_46 ?_
              refine tf_name (fun z25 ez25 => ?_)
              refine lv_goto (tgt := 63) hx hb dX10_drawn_47 (by decide) ?_
              exact tf_reti (z := z25) hx hb hr hlocks hQ hW (show (-2147483648) ≤ (z25) ∧ (z25) ≤ 2147483647 by omega) dX10_drawn_63
        · refine tf_if_eq (tgt := 62) hx hb ⟨by decide, by decide⟩ dX10_drawn_31 (by decide) (fun h26 => ?_) (fun h26 => ?_)
          · refine tf_iconst hx hb dX10_drawn_62 ?_
            exact tf_reti (z := (-1)) hx hb hr hlocks hQ hW (show (-2147483648) ≤ ((-1)) ∧ ((-1)) ≤ 2147483647 by omega) dX10_drawn_63
          · exfalso; omega
    · refine tf_if_eq (tgt := 62) hx hb ⟨by decide, by decide⟩ dX10_drawn_21 (by decide) (fun h27 => ?_) (fun h27 => ?_)
      · refine tf_iconst hx hb dX10_drawn_62 ?_
        exact tf_reti (z := (-1)) hx hb hr hlocks hQ hW (show (-2147483648) ≤ ((-1)) ∧ ((-1)) ≤ 2147483647 by omega) dX10_drawn_63
      · exfalso; omega


abbrev M_X6_shareOf : List (Nat × Nat) := []
set_option maxHeartbeats 4000000 in
set_option maxRecDepth 100000 in
theorem c_X6_shareOf (l : Launch) (g : tf_G) (T : tf_T) (a0 : Nat) (ha0 : T a0 = some (23, 0)) (x1 : Int) (hp1 : (-2147483648) ≤ x1 ∧ x1 ≤ 2147483647) (x2 : Int) (hp2 : (-2147483648) ≤ x2 ∧ x2 ≤ 2147483647) (hE : tf_E g T) : Met l yX6_shareOf (cd_X6_shareOf :: wsL_law) ({ frames := 2, cells := 0, slots := 0, locals := 46 }) (tf_P g T [.ref a0, .int (Int32.ofInt x1), .int (Int32.ofInt x2)] (fun H => True)) (tf_Ql g M_X6_shareOf T (fun z _ _ => (-9223372036854775808) ≤ z ∧ z ≤ 9223372036854775807)) 0 0 (fun q => tf_B g ≤ q) := by
  refine Met.ofW (cc := cX6_shareOf) (maxL := 9) (ret := (some .long)) (by decide) rfl ?_
  intro p e s m args below meth c s₁ B hml hv
  obtain ⟨hargs, hk, hW0, hB, hpre⟩ := hv
  have hx := B.exec
  have hb := B.bytes
  have hr := B.returns
  have hts : ∀ w ∈ wsL_law, w.before args s = true := fun w h => atoms_spec (ws := cd_X6_shareOf :: wsL_law) B.pre w (List.mem_cons_of_mem _ h)
  have hown : s.vm.findClass RX6 = some m.cls := findClass_of_methodNamed B.named
  have hlocks := B.notSynchronized
  have hK := hk.1
  have hW := tf_n.start (M := M_X6_shareOf) hW0 hB
  obtain ⟨Q, hQ⟩ : ∃ q, q = MQ below (tf_Ql g M_X6_shareOf T (fun z _ _ => (-9223372036854775808) ≤ z ∧ z ≤ 9223372036854775807)) args s 0 0 (fun q => tf_B g ≤ q) := ⟨_, rfl⟩
  rw [← hQ]
  obtain ⟨R, hR⟩ : ∃ q, q = (headSpec (cd_X6_shareOf :: wsL_law) ({ frames := 2, cells := 0, slots := 0, locals := 46 })).room := ⟨_, rfl⟩
  rw [← hR]
  have hR1 : 2 ≤ R.frames := by rw [hR]; exact Nat.le_refl _
  have hR2 : 46 ≤ R.locals := by rw [hR]; exact Nat.le_refl _
  have hR3 : 0 ≤ R.cells := by rw [hR]; exact Nat.le_refl _
  have hR4 : 0 ≤ R.slots := by rw [hR]; exact Nat.le_refl _
  have hin := (name_of_methodNamed B.named B.method).1
  clear hR B
  have j_30 : ∀ (n_30 : Nat), 0 ≤ x1 ∧ x1 ≤ 5 → 1 ≤ x2 ∧ x2 ≤ 6 → ∀ (x3_30 : Int), (-9223372036854775808) ≤ x3_30 ∧ x3_30 ≤ 9223372036854775807 → ∀ (x5_30 : Int), 0 ≤ x5_30 ∧ x5_30 ≤ 64 → (x1 < x2) → (64 - x5_30 + 1 ≤ (n_30 : Int)) → ∀ (H : Heap) (locs : List Loc), tf_n tf_kt g M_X6_shareOf T s.heap T H locs → ∀ (ls : Array Slot), lv_has ls 9 [(0, .ref a0), (1, .int (Int32.ofInt x1)), (2, .int (Int32.ofInt x2)), (3, .long (Int64.ofInt x3_30)), (5, .int (Int32.ofInt x5_30))] → W p l e R s m args below meth c H locs 0 0 Q (F0 m 30 ls []) := by
    intro n_30
    induction n_30 with
    | zero =>
      intro hx1_30 hx2_30 x3_30 hx3_30 x5_30 hx5_30 hi0_30 hm_30
      exfalso; omega
    | succ n_30 ih_30 =>
      intro hx1_30 hx2_30 x3_30 hx3_30 x5_30 hx5_30 hi0_30 hm_30 H locs hW  ls hl
      have j_101 : 0 ≤ x1 ∧ x1 ≤ 5 → 1 ≤ x2 ∧ x2 ≤ 6 → ∀ (x3_101 : Int), (-9223372036854775808) ≤ x3_101 ∧ x3_101 ≤ 9223372036854775807 → 0 ≤ x5_30 ∧ x5_30 ≤ 63 → (x1 < x2) → ∀ (H : Heap) (locs : List Loc), tf_n tf_kt g M_X6_shareOf T s.heap T H locs → ∀ (ls : Array Slot), lv_has ls 9 [(0, .ref a0), (1, .int (Int32.ofInt x1)), (2, .int (Int32.ofInt x2)), (3, .long (Int64.ofInt x3_101)), (5, .int (Int32.ofInt x5_30))] → W p l e R s m args below meth c H locs 0 0 Q (F0 m 101 ls []) := by
        intro hx1_101 hx2_101 x3_101 hx3_101 hx5_101 hi0_101 H locs hW  ls hl
        refine lv_iinc (v := Int32.ofInt ((x5_30 + 1))) (lv' := [(5, .int (Int32.ofInt ((x5_30 + 1)))), (0, .ref a0), (1, .int (Int32.ofInt x1)), (2, .int (Int32.ofInt x2)), (3, .long (Int64.ofInt x3_101))]) hx hb dX6_shareOf_101 hl (k := 4) rfl (Int32.ofInt_add _ _).symm (by decide) rfl (fun ls hl => ?_)
        refine lv_goto (tgt := 30) hx hb dX6_shareOf_104 (by decide) ?_
        exact ih_30 ⟨by omega, by omega⟩ ⟨by omega, by omega⟩ (x3_101) ⟨by omega, by omega⟩ ((x5_30 + 1)) ⟨by omega, by omega⟩ (by omega) (by omega) _ _ hW  _ (lv_sub hl [1, 2, 3, 4, 0] rfl)
      refine lv_iload hx hb dX6_shareOf_30 (lv_at hl 4 rfl) ?_
      refine tf_iconst hx hb dX6_shareOf_32 ?_
      refine lv_iload_n hx hb dX6_shareOf_33 rfl (lv_at hl 2 rfl) ?_
      refine tf_ishl_e hx hb dX6_shareOf_34 (fun zsh ezsh hzsh => ?_)
      have hzsh2 := tf_sh1 (m := x2) (by omega) (by omega) hzsh ezsh
      refine tf_icmp_ge (tgt := 107) hx hb ⟨by omega, by omega⟩ ⟨by omega, by omega⟩ dX6_shareOf_35 (by decide) (fun h1 => ?_) (fun h1 => ?_)
      · refine lv_lload_n hx hb dX6_shareOf_107 rfl (lv_at hl 3 rfl) ?_
        refine tf_gets hx hb hown (hk.2.1 _ nw_26) (hk.2.2.1 _ (List.mem_of_getElem? (i := 3) rfl)) hW dX6_shareOf_108 ?_
        refine lv_iload_n hx hb dX6_shareOf_111 rfl (lv_at hl 2 rfl) ?_
        refine tf_zld (i := 3) hx hb hk hW (by decide) (by omega) (by show _ < ((7 : Nat) : Int); omega) dX6_shareOf_112 (fun z2 hz2 => ?_)
        refine tf_i2l hx hb ⟨by omega, by omega⟩ dX6_shareOf_113 ?_
        refine tf_lmul_any hx hb dX6_shareOf_114 (fun z3 hz3 => ?_)
        exact tf_retl (z := z3) hx hb hr hlocks hQ hW (show (-9223372036854775808) ≤ (z3) ∧ (z3) ≤ 9223372036854775807 by omega) dX6_shareOf_115
      · refine lv_iload hx hb dX6_shareOf_38 (lv_at hl 4 rfl) ?_
        refine lv_iload_n hx hb dX6_shareOf_40 rfl (lv_at hl 1 rfl) ?_
        refine tf_ishr_e hx hb dX6_shareOf_41 (fun zsr ezsr hzsr => ?_)
        refine tf_iconst hx hb dX6_shareOf_42 ?_
        refine tf_iand_e hx hb dX6_shareOf_43 (fun zan ezan hzan => ?_)
        refine tf_if_ne (tgt := 101) hx hb ⟨by omega, by omega⟩ dX6_shareOf_44 (by decide) (fun h4 => ?_) (fun h4 => ?_)
        · exact j_101 ⟨by omega, by omega⟩ ⟨by omega, by omega⟩ (x3_30) ⟨by omega, by omega⟩ ⟨by omega, by omega⟩ (by omega) _ _ hW  _ (lv_sub hl [0, 1, 2, 3, 4] rfl)
        · refine lv_iload hx hb dX6_shareOf_47 (lv_at hl 4 rfl) ?_
          refine tf_calli (va_runS (As := [.int (Int32.ofInt x5_30)]) (rest := []) ⟨hx, hb, hml, hown, hts⟩ (c_J6_bitCount_0f7a4 l g T (x5_30) ⟨by omega, by omega⟩) ⟨callB_of 1 hts (gw_ws cm_J6_bitCount_0f7a4) rfl rfl rfl (hts _ (tw42 (i := 20) rfl)) (hts _ (tw42 (i := 18) rfl)) hd_J6_bitCount_0f7a4.2 ⟨Nat.le_trans (by decide) hR1, Nat.le_trans (by decide) hR2⟩, hts _ (tw42 (i := 19) rfl)⟩ (tf_preS hk hW trivial) rfl rfl hl.1 rfl (lv_room (Nat.le_of_ble_eq_true rfl)) dX6_shareOf_49 ⟨Nat.zero_le _, Nat.zero_le _⟩) hW (by decide) (fun zbc Hbc locsbc hW hFbc hpbc => ?_)
          obtain ⟨hpbc_0, hpbc_1, hpbc_2⟩ := hpbc
          have hbc2 := tf_share1 (n := x5_30) (m := x2) (t := x1) (by omega) (by omega) (by omega) (by omega) (by omega) hzsh ezsh (by omega) ezsr ezan (by omega) hpbc_2
          refine lv_istore (lv' := [(6, .int (Int32.ofInt zbc)), (0, .ref a0), (1, .int (Int32.ofInt x1)), (2, .int (Int32.ofInt x2)), (3, .long (Int64.ofInt x3_30)), (5, .int (Int32.ofInt x5_30))]) hx hb dX6_shareOf_52 hl (by decide) rfl (fun ls hl => ?_)
          refine tf_gets hx hb hown (hk.2.1 _ nw_25) (hk.2.2.1 _ (List.mem_of_getElem? (i := 2) rfl)) hW dX6_shareOf_54 ?_
          refine lv_iload hx hb dX6_shareOf_57 (lv_at hl 0 rfl) ?_
          refine tf_zld (i := 2) hx hb hk hW (by decide) (by omega) (by show _ < ((7 : Nat) : Int); omega) dX6_shareOf_59 (fun z5 hz5 => ?_)
          refine tf_i2l hx hb ⟨by omega, by omega⟩ dX6_shareOf_60 ?_
          refine tf_gets hx hb hown (hk.2.1 _ nw_25) (hk.2.2.1 _ (List.mem_of_getElem? (i := 2) rfl)) hW dX6_shareOf_61 ?_
          refine lv_iload_n hx hb dX6_shareOf_64 rfl (lv_at hl 3 rfl) ?_
          refine tf_iconst hx hb dX6_shareOf_65 ?_
          refine tf_isub hx hb dX6_shareOf_66 ?_
          refine lv_iload hx hb dX6_shareOf_67 (lv_at hl 0 rfl) ?_
          refine tf_isub hx hb dX6_shareOf_69 ?_
          refine tf_zld (i := 2) hx hb hk hW (by decide) (by omega) (by show _ < ((7 : Nat) : Int); omega) dX6_shareOf_70 (fun z6 hz6 => ?_)
          refine tf_i2l hx hb ⟨by omega, by omega⟩ dX6_shareOf_71 ?_
          refine tf_lmul_any hx hb dX6_shareOf_72 (fun z7 hz7 => ?_)
          refine lv_lstore (lv' := [(7, .long (Int64.ofInt z7)), (6, .int (Int32.ofInt zbc)), (0, .ref a0), (1, .int (Int32.ofInt x1)), (2, .int (Int32.ofInt x2)), (3, .long (Int64.ofInt x3_30)), (5, .int (Int32.ofInt x5_30))]) hx hb dX6_shareOf_73 hl (by decide) rfl (fun ls hl => ?_)
          refine lv_lload_n hx hb dX6_shareOf_75 rfl (lv_at hl 5 rfl) ?_
          refine lv_lload hx hb dX6_shareOf_76 (lv_at hl 0 rfl) ?_
          refine lv_aload_n hx hb dX6_shareOf_78 rfl (lv_at hl 2 rfl) ?_
          refine tf_get hx hb hts inlX6 hown hK (ci := 6) rfl hW ha0 rfl 1 rfl (by decide) (hts _ fl_X6_18) dX6_shareOf_79 (fun v8 hv8 hsv8 => ?_)
          obtain ⟨ad9, rfl, had9⟩ := tf_v1 hv8
          refine lv_iload hx hb dX6_shareOf_82 (lv_at hl 6 rfl) ?_
          refine tf_iconst hx hb dX6_shareOf_84 ?_
          refine lv_iload_n hx hb dX6_shareOf_85 rfl (lv_at hl 3 rfl) ?_
          refine tf_ishl_e hx hb dX6_shareOf_86 (fun zsl ezsl hzsl => ?_)
          refine tf_ior_e hx hb dX6_shareOf_87 (fun zor ezor hzor => ?_)
          have hzor2 := tf_share2 (by omega) (by omega) (by omega) (by omega) hzor ezsl ezor
          refine tf_iald (t0 := 0) hx hb hK hW had9 rfl rfl (by omega) (by omega) dX6_shareOf_88 (fun v10 hv10 hsv10 => ?_)
          obtain ⟨z11, rfl, hz11⟩ := tf_v0 hv10
          refine lv_aload_n hx hb dX6_shareOf_89 rfl (lv_at hl 2 rfl) ?_
          refine tf_get hx hb hts inlX6 hown hK (ci := 6) rfl hW ha0 rfl 1 rfl (by decide) (hts _ fl_X6_18) dX6_shareOf_90 (fun v12 hv12 hsv12 => ?_)
          obtain rfl : v12 = .ref ad9 := Option.some.inj (hsv12.symm.trans hsv8)
          refine lv_iload hx hb dX6_shareOf_93 (lv_at hl 6 rfl) ?_
          refine tf_iald (t0 := 0) hx hb hK hW had9 rfl rfl (by omega) (by omega) dX6_shareOf_95 (fun v13 hv13 hsv13 => ?_)
          obtain ⟨z14, rfl, hz14⟩ := tf_v0 hv13
          refine tf_isub_any hx hb dX6_shareOf_96 (fun z15 hz15 => ?_)
          refine tf_i2l hx hb ⟨by omega, by omega⟩ dX6_shareOf_97 ?_
          refine tf_lmul_any hx hb dX6_shareOf_98 (fun z16 hz16 => ?_)
          refine tf_ladd_any hx hb dX6_shareOf_99 (fun z17 hz17 => ?_)
          refine lv_lstore_n (lv' := [(3, .long (Int64.ofInt z17)), (7, .long (Int64.ofInt z7)), (6, .int (Int32.ofInt zbc)), (0, .ref a0), (1, .int (Int32.ofInt x1)), (2, .int (Int32.ofInt x2)), (5, .int (Int32.ofInt x5_30))]) hx hb dX6_shareOf_100 rfl hl (by decide) rfl (fun ls hl => ?_)
          exact j_101 ⟨by omega, by omega⟩ ⟨by omega, by omega⟩ (z17) ⟨by omega, by omega⟩ ⟨by omega, by omega⟩ (by omega) _ _ hW  _ (lv_sub hl [3, 4, 5, 0, 6] rfl)
  refine tf_enter (As := [.ref a0, .int (Int32.ofInt x1), .int (Int32.ofInt x2)]) hargs (Nat.le_of_ble_eq_true rfl) (fun ls hl => ?_)
  have hl : lv_has ls 9 [(0, .ref a0), (1, .int (Int32.ofInt x1)), (2, .int (Int32.ofInt x2))] := hl
  refine lv_iload_n hx hb dX6_shareOf_0 rfl (lv_at hl 2 rfl) ?_
  refine tf_iconst hx hb dX6_shareOf_1 ?_
  refine tf_bipush hx hb dX6_shareOf_2 (by decide) ?_
  refine tf_calli (va_runSN (As := [.int (Int32.ofInt x2), .int (Int32.ofInt 1), .int (Int32.ofInt 6)]) (rest := []) ⟨hx, hb, hml, hown, hts⟩ (c_X9_isWithin l g T (x2) ⟨by omega, by omega⟩ (1) ⟨by omega, by omega⟩ (6) ⟨by omega, by omega⟩) ⟨va_cnB 3 hts (gw_ws cm_X9_isWithin) rfl rfl rfl (hk.2.1 _ nw_21) (hts _ (tw1 (i := 2) rfl)) hd_X9_isWithin.2 ⟨Nat.le_trans (by decide) hR1, Nat.le_trans (by decide) hR2⟩, hts _ (tw8 (i := 17) rfl), trivial⟩ (tf_preS hk hW trivial) rfl rfl hl.1 rfl (lv_room (Nat.le_of_ble_eq_true rfl)) dX6_shareOf_4 ⟨Nat.zero_le _, Nat.zero_le _⟩) hW (by decide) (fun z18 H18 locs18 hW hF18 hp18 => ?_)
  rcases hp18 with ⟨rfl, h19, h20⟩ | ⟨rfl, h21⟩
  · refine tf_if_eq (tgt := 21) hx hb ⟨by decide, by decide⟩ dX6_shareOf_7 (by decide) (fun h22 => ?_) (fun h22 => ?_)
    · exfalso; omega
    · refine lv_iload_n hx hb dX6_shareOf_10 rfl (lv_at hl 1 rfl) ?_
      refine tf_iconst hx hb dX6_shareOf_11 ?_
      refine lv_iload_n hx hb dX6_shareOf_12 rfl (lv_at hl 2 rfl) ?_
      refine tf_iconst hx hb dX6_shareOf_13 ?_
      refine tf_isub hx hb dX6_shareOf_14 ?_
      refine tf_calli (va_runSN (As := [.int (Int32.ofInt x1), .int (Int32.ofInt 0), .int (Int32.ofInt ((x2 - 1)))]) (rest := []) ⟨hx, hb, hml, hown, hts⟩ (c_X9_isWithin l g T (x1) ⟨by omega, by omega⟩ (0) ⟨by omega, by omega⟩ ((x2 - 1)) ⟨by omega, by omega⟩) ⟨va_cnB 3 hts (gw_ws cm_X9_isWithin) rfl rfl rfl (hk.2.1 _ nw_21) (hts _ (tw1 (i := 2) rfl)) hd_X9_isWithin.2 ⟨Nat.le_trans (by decide) hR1, Nat.le_trans (by decide) hR2⟩, hts _ (tw8 (i := 17) rfl), trivial⟩ (tf_preS hk hW trivial) rfl rfl hl.1 rfl (lv_room (Nat.le_of_ble_eq_true rfl)) dX6_shareOf_15 ⟨Nat.zero_le _, Nat.zero_le _⟩) hW (by decide) (fun z23 H23 locs23 hW hF23 hp23 => ?_)
      rcases hp23 with ⟨rfl, h24, h25⟩ | ⟨rfl, h26⟩
      · refine tf_if_ne (tgt := 25) hx hb ⟨by decide, by decide⟩ dX6_shareOf_18 (by decide) (fun h27 => ?_) (fun h27 => ?_)
        · refine tf_lconst (z := 0) hx hb dX6_shareOf_25 (by decide) ?_
          refine lv_lstore_n (lv' := [(3, .long (Int64.ofInt 0)), (0, .ref a0), (1, .int (Int32.ofInt x1)), (2, .int (Int32.ofInt x2))]) hx hb dX6_shareOf_26 rfl hl (by decide) rfl (fun ls hl => ?_)
          refine tf_iconst hx hb dX6_shareOf_27 ?_
          refine lv_istore (lv' := [(5, .int (Int32.ofInt 0)), (3, .long (Int64.ofInt 0)), (0, .ref a0), (1, .int (Int32.ofInt x1)), (2, .int (Int32.ofInt x2))]) hx hb dX6_shareOf_28 hl (by decide) rfl (fun ls hl => ?_)
          exact j_30 ((64 - 0 + 1 : Int)).toNat ⟨by omega, by omega⟩ ⟨by omega, by omega⟩ (0) ⟨by omega, by omega⟩ (0) ⟨by omega, by omega⟩ (by omega) (by omega) _ _ hW  _ (lv_sub hl [2, 3, 4, 1, 0] rfl)
        · exfalso; omega
      · refine tf_if_ne (tgt := 25) hx hb ⟨by decide, by decide⟩ dX6_shareOf_18 (by decide) (fun h28 => ?_) (fun h28 => ?_)
        · exfalso; omega
        · refine tf_ldc2 (z := -1000000000000) hx hb hown (hts _ kl_X6_81) (by decide) dX6_shareOf_21 ?_
          exact tf_retl (z := (-1000000000000)) hx hb hr hlocks hQ hW (show (-9223372036854775808) ≤ ((-1000000000000)) ∧ ((-1000000000000)) ≤ 9223372036854775807 by omega) dX6_shareOf_24
  · refine tf_if_eq (tgt := 21) hx hb ⟨by decide, by decide⟩ dX6_shareOf_7 (by decide) (fun h29 => ?_) (fun h29 => ?_)
    · refine tf_ldc2 (z := -1000000000000) hx hb hown (hts _ kl_X6_81) (by decide) dX6_shareOf_21 ?_
      exact tf_retl (z := (-1000000000000)) hx hb hr hlocks hQ hW (show (-9223372036854775808) ≤ ((-1000000000000)) ∧ ((-1000000000000)) ≤ 9223372036854775807 by omega) dX6_shareOf_24
    · exfalso; omega

abbrev M_X9_share : List (Nat × Nat) := [(0, 0), (1, 0), (4, 0), (23, 2), (24, 5)]
set_option maxHeartbeats 4000000 in
set_option maxRecDepth 100000 in
theorem c_X9_share (l : Launch) (g : tf_G) (T : tf_T) (a0 : Nat) (ha0 : T a0 = some (26, 0)) (x1 : Int) (hp1 : (-2147483648) ≤ x1 ∧ x1 ≤ 2147483647) (hE : tf_E g T) : Met l yX9_share (cd_X9_share :: wsL_law) ({ frames := 8, cells := 0, slots := 0, locals := 211 }) (tf_P g T [.ref a0, .int (Int32.ofInt x1)] (fun H => True)) (tf_Ql g M_X9_share T (fun z _ _ => (-9223372036854775808) ≤ z ∧ z ≤ 9223372036854775807)) 0 0 (fun q => tf_B g ≤ q) := by
  refine Met.ofW (cc := cX9_share) (maxL := 2) (ret := (some .long)) (by decide) rfl ?_
  intro p e s m args below meth c s₁ B hml hv
  obtain ⟨hargs, hk, hW0, hB, hpre⟩ := hv
  have hx := B.exec
  have hb := B.bytes
  have hr := B.returns
  have hts : ∀ w ∈ wsL_law, w.before args s = true := fun w h => atoms_spec (ws := cd_X9_share :: wsL_law) B.pre w (List.mem_cons_of_mem _ h)
  have hown : s.vm.findClass RX9 = some m.cls := findClass_of_methodNamed B.named
  have hlocks := B.notSynchronized
  have hK := hk.1
  have hW := tf_n.start (M := M_X9_share) hW0 hB
  obtain ⟨Q, hQ⟩ : ∃ q, q = MQ below (tf_Ql g M_X9_share T (fun z _ _ => (-9223372036854775808) ≤ z ∧ z ≤ 9223372036854775807)) args s 0 0 (fun q => tf_B g ≤ q) := ⟨_, rfl⟩
  rw [← hQ]
  obtain ⟨R, hR⟩ : ∃ q, q = (headSpec (cd_X9_share :: wsL_law) ({ frames := 8, cells := 0, slots := 0, locals := 211 })).room := ⟨_, rfl⟩
  rw [← hR]
  have hR1 : 8 ≤ R.frames := by rw [hR]; exact Nat.le_refl _
  have hR2 : 211 ≤ R.locals := by rw [hR]; exact Nat.le_refl _
  have hR3 : 0 ≤ R.cells := by rw [hR]; exact Nat.le_refl _
  have hR4 : 0 ≤ R.slots := by rw [hR]; exact Nat.le_refl _
  have hin := (name_of_methodNamed B.named B.method).1
  clear hR B
  refine tf_enter (As := [.ref a0, .int (Int32.ofInt x1)]) hargs (Nat.le_of_ble_eq_true rfl) (fun ls hl => ?_)
  have hl : lv_has ls 2 [(0, .ref a0), (1, .int (Int32.ofInt x1))] := hl
  refine lv_aload_n hx hb dX9_share_0 rfl (lv_at hl 0 rfl) ?_
  refine tf_get hx hb hts inlX9 hown hK (ci := 9) rfl hW ha0 rfl 0 rfl (by decide) (hts _ fl_X9_10) dX9_share_1 (fun v1 hv1 hsv1 => ?_)
  obtain ⟨ad2, rfl, had2⟩ := tf_v1 hv1
  refine tf_get hx hb hts inlX3 hown hK (ci := 3) rfl hW had2 rfl 1 rfl (by decide) (hts _ fl_X9_89) dX9_share_4 (fun v3 hv3 hsv3 => ?_)
  obtain ⟨ad4, rfl, had4⟩ := tf_v1 hv3
  refine lv_iload_n hx hb dX9_share_7 rfl (lv_at hl 1 rfl) ?_
  refine tf_calli (va_runV (As := [.int (Int32.ofInt x1)]) (rest := []) ⟨hx, hb, hml, hown, hts⟩ (c_X5_has l g T ad4 had4 (x1) ⟨by omega, by omega⟩) (cwV 1 hts gv_X9_106 rfl rfl rfl hd_X5_has ⟨Nat.le_trans (by decide) hR1, Nat.le_trans (by decide) hR2⟩) (tf_preV hk hW had4 (ci := 5) rfl rfl trivial) rfl rfl hl.1 rfl (lv_room (Nat.le_of_ble_eq_true rfl)) dX9_share_8 ⟨Nat.zero_le _, Nat.zero_le _⟩) hW (by decide) (fun z5 H5 locs5 hW hF5 hp5 => ?_)
  have hs6 := tf_keepF hF5 ha0 rfl rfl (by decide) hsv1
  have hs7 := tf_keepF hF5 had2 rfl rfl (by decide) hsv3
  rcases hp5 with ⟨rfl, h8, h9⟩ | ⟨rfl⟩
  · refine tf_if_ne (tgt := 18) hx hb ⟨by decide, by decide⟩ dX9_share_11 (by decide) (fun h10 => ?_) (fun h10 => ?_)
    · refine lv_aload_n hx hb dX9_share_18 rfl (lv_at hl 0 rfl) ?_
      refine tf_get hx hb hts inlX9 hown hK (ci := 9) rfl hW ha0 rfl 3 rfl (by decide) (hts _ fl_X9_30) dX9_share_19 (fun v11 hv11 hsv11 => ?_)
      obtain ⟨ad12, rfl, had12⟩ := tf_v1 hv11
      refine lv_aload_n hx hb dX9_share_22 rfl (lv_at hl 0 rfl) ?_
      refine tf_get hx hb hts inlX9 hown hK (ci := 9) rfl hW ha0 rfl 0 rfl (by decide) (hts _ fl_X9_10) dX9_share_23 (fun v13 hv13 hsv13 => ?_)
      obtain rfl : v13 = .ref ad2 := Option.some.inj (hsv13.symm.trans hs6)
      refine lv_aload_n hx hb dX9_share_26 rfl (lv_at hl 0 rfl) ?_
      refine tf_get hx hb hts inlX9 hown hK (ci := 9) rfl hW ha0 rfl 2 rfl (by decide) (hts _ fl_X9_23) dX9_share_27 (fun v14 hv14 hsv14 => ?_)
      obtain ⟨ad15, rfl, had15⟩ := tf_v1 hv14
      refine tf_callv (va_runV (As := [.ref ad2, .ref ad15]) (rest := []) ⟨hx, hb, hml, hown, hts⟩ (c_X6_learnTowerOvers l g T ad12 had12 ad2 had2 ad15 had15 hE) (cwV 2 hts gv_X9_215 rfl rfl rfl hd_X6_learnTowerOvers ⟨Nat.le_trans (by decide) hR1, Nat.le_trans (by decide) hR2⟩) (tf_preV hk hW had12 (ci := 6) rfl rfl trivial) rfl rfl hl.1 rfl (lv_room (Nat.le_of_ble_eq_true rfl)) dX9_share_30 ⟨Nat.zero_le _, Nat.zero_le _⟩) hW (by decide) (fun H16 locs16 hW hF16 hp16 => ?_)
      have hs17 := tf_keepF hF16 ha0 rfl rfl (by decide) hs6
      have hs18 := tf_keepF hF16 had2 rfl rfl (by decide) hs7
      have hs19 := tf_keepF hF16 ha0 rfl rfl (by decide) hsv11
      refine lv_aload_n hx hb dX9_share_33 rfl (lv_at hl 0 rfl) ?_
      refine tf_get hx hb hts inlX9 hown hK (ci := 9) rfl hW ha0 rfl 3 rfl (by decide) (hts _ fl_X9_30) dX9_share_34 (fun v20 hv20 hsv20 => ?_)
      obtain rfl : v20 = .ref ad12 := Option.some.inj (hsv20.symm.trans hs19)
      refine lv_iload_n hx hb dX9_share_37 rfl (lv_at hl 1 rfl) ?_
      refine lv_aload_n hx hb dX9_share_38 rfl (lv_at hl 0 rfl) ?_
      refine tf_get hx hb hts inlX9 hown hK (ci := 9) rfl hW ha0 rfl 0 rfl (by decide) (hts _ fl_X9_10) dX9_share_39 (fun v21 hv21 hsv21 => ?_)
      obtain rfl : v21 = .ref ad2 := Option.some.inj (hsv21.symm.trans hs17)
      refine tf_get hx hb hts inlX3 hown hK (ci := 3) rfl hW had2 rfl 1 rfl (by decide) (hts _ fl_X9_89) dX9_share_42 (fun v22 hv22 hsv22 => ?_)
      obtain rfl : v22 = .ref ad4 := Option.some.inj (hsv22.symm.trans hs18)
      refine tf_get hx hb hts inlX5 hown hK (ci := 5) rfl hW had4 rfl 4 rfl (by decide) (hts _ fl_X9_219) dX9_share_45 (fun v23 hv23 hsv23 => ?_)
      obtain ⟨z24, rfl, hz24⟩ := tf_v0 hv23
      refine tf_calll (va_runV (As := [.int (Int32.ofInt x1), .int (Int32.ofInt z24)]) (rest := []) ⟨hx, hb, hml, hown, hts⟩ (c_X6_shareOf l g T ad12 had12 (x1) ⟨by omega, by omega⟩ (z24) ⟨by omega, by omega⟩ hE) (cwV 2 hts gv_X9_222 rfl rfl rfl hd_X6_shareOf ⟨Nat.le_trans (by decide) hR1, Nat.le_trans (by decide) hR2⟩) (tf_preV hk hW had12 (ci := 6) rfl rfl trivial) rfl rfl hl.1 rfl (lv_room (Nat.le_of_ble_eq_true rfl)) dX9_share_48 ⟨Nat.zero_le _, Nat.zero_le _⟩) hW (by decide) (fun z25 H25 locs25 hW hF25 hp25 => ?_)
      have hs26 := tf_keepF hF25 ha0 rfl rfl (by decide) hs17
      have hs27 := tf_keepF hF25 had2 rfl rfl (by decide) hs18
      have hs28 := tf_keepF hF25 ha0 rfl rfl (by decide) hs19
      obtain ⟨hp25_0, hp25_1⟩ := hp25
      exact tf_retl (z := z25) hx hb hr hlocks hQ hW (show (-9223372036854775808) ≤ (z25) ∧ (z25) ≤ 9223372036854775807 by omega) dX9_share_51
    · exfalso; omega
  · refine tf_if_ne (tgt := 18) hx hb ⟨by decide, by decide⟩ dX9_share_11 (by decide) (fun h29 => ?_) (fun h29 => ?_)
    · exfalso; omega
    · refine tf_ldc2 (z := -1000000000000) hx hb hown (hts _ kl_X9_213) (by decide) dX9_share_14 ?_
      exact tf_retl (z := (-1000000000000)) hx hb hr hlocks hQ hW (show (-9223372036854775808) ≤ ((-1000000000000)) ∧ ((-1000000000000)) ≤ 9223372036854775807 by omega) dX9_share_17

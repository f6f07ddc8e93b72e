
abbrev M_J7_fill_d0a16 : List (Nat × Nat) := [(4, 0)]
set_option maxHeartbeats 4000000 in
set_option maxRecDepth 100000 in
theorem c_J7_fill_d0a16 (l : Launch) (g : tf_G) (T : tf_T) (a0 : Nat) (ha0 : T a0 = some (4, 1024)) (x1 : Int) (hp1 : (-9223372036854775808) ≤ x1 ∧ x1 ≤ 9223372036854775807) : Met l yJ7_fill_d0a16 (cd_J7_fill_d0a16 :: wsL_law) ({ frames := 1, cells := 0, slots := 0, locals := 24 }) (tf_P g T [.ref a0, .long (Int64.ofInt x1)] (fun H => True)) (tf_Qv g M_J7_fill_d0a16 T (fun _ H => True)) 0 0 (fun q => tf_B g ≤ q) := by
  refine Met.ofW (cc := cJ7_fill_d0a16) (maxL := 5) (ret := none) (by decide) rfl ?_
  intro p e s m args below meth c s₁ B hml hv
  obtain ⟨hargs, hk, hW0, hB, hpre⟩ := hv
  have hx := B.exec
  have hb := B.bytes
  have hr := B.returns
  have hts : ∀ w ∈ wsL_law, w.before args s = true := fun w h => atoms_spec (ws := cd_J7_fill_d0a16 :: wsL_law) B.pre w (List.mem_cons_of_mem _ h)
  have hown : s.vm.findClass RJ7 = some m.cls := findClass_of_methodNamed B.named
  have hlocks := B.notSynchronized
  have hK := hk.1
  have hW := tf_n.start (M := M_J7_fill_d0a16) hW0 hB
  obtain ⟨Q, hQ⟩ : ∃ q, q = MQ below (tf_Qv g M_J7_fill_d0a16 T (fun _ H => True)) args s 0 0 (fun q => tf_B g ≤ q) := ⟨_, rfl⟩
  rw [← hQ]
  obtain ⟨R, hR⟩ : ∃ q, q = (headSpec (cd_J7_fill_d0a16 :: wsL_law) ({ frames := 1, cells := 0, slots := 0, locals := 24 })).room := ⟨_, rfl⟩
  rw [← hR]
  have hR1 : 1 ≤ R.frames := by rw [hR]; exact Nat.le_refl _
  have hR2 : 24 ≤ R.locals := by rw [hR]; exact Nat.le_refl _
  have hR3 : 0 ≤ R.cells := by rw [hR]; exact Nat.le_refl _
  have hR4 : 0 ≤ R.slots := by rw [hR]; exact Nat.le_refl _
  have hin := (name_of_methodNamed B.named B.method).1
  clear hR B
  have j_6 : ∀ (n_6 : Nat), (-9223372036854775808) ≤ x1 ∧ x1 ≤ 9223372036854775807 → ∀ (x3_6 : Int), 0 ≤ x3_6 ∧ x3_6 ≤ 4096 → (4096 - x3_6 + 1 ≤ (n_6 : Int)) → ∀ (H : Heap) (locs : List Loc), tf_n tf_kt g M_J7_fill_d0a16 T s.heap T H locs → ∀ (ls : Array Slot), lv_has ls 5 [(0, .ref a0), (1, .long (Int64.ofInt x1)), (3, .int (Int32.ofInt x3_6)), (4, .int (Int32.ofInt 1024))] → W p l e R s m args below meth c H locs 0 0 Q (F0 m 6 ls []) := by
    intro n_6
    induction n_6 with
    | zero =>
      intro hx1_6 x3_6 hx3_6 hm_6
      exfalso; omega
    | succ n_6 ih_6 =>
      intro hx1_6 x3_6 hx3_6 hm_6 H locs hW  ls hl
      refine lv_iload_n hx hb dJ7_fill_d0a16_6 rfl (lv_at hl 2 rfl) ?_
      refine lv_iload hx hb dJ7_fill_d0a16_7 (lv_at hl 3 rfl) ?_
      refine tf_icmp_ge (tgt := 22) hx hb ⟨by omega, by omega⟩ ⟨by decide, by decide⟩ dJ7_fill_d0a16_9 (by decide) (fun h1 => ?_) (fun h1 => ?_)
      · exact tf_retv hx hb hr hlocks hQ hW trivial dJ7_fill_d0a16_22
      · refine lv_aload_n hx hb dJ7_fill_d0a16_12 rfl (lv_at hl 0 rfl) ?_
        refine lv_iload_n hx hb dJ7_fill_d0a16_13 rfl (lv_at hl 2 rfl) ?_
        refine lv_lload_n hx hb dJ7_fill_d0a16_14 rfl (lv_at hl 1 rfl) ?_
        refine tf_last (t0 := 1) hx hb hK hW ha0 rfl rfl (by omega) (by omega) (by decide) (tf_u5 (by omega) (by omega)) dJ7_fill_d0a16_15 (fun H2 locs2 hW hs2 ht2 hq2 => ?_)
        refine lv_iinc (v := Int32.ofInt ((x3_6 + 1))) (lv' := [(3, .int (Int32.ofInt ((x3_6 + 1)))), (0, .ref a0), (1, .long (Int64.ofInt x1)), (4, .int (Int32.ofInt 1024))]) hx hb dJ7_fill_d0a16_16 hl (k := 2) rfl (Int32.ofInt_add _ _).symm (by decide) rfl (fun ls hl => ?_)
        refine lv_goto (tgt := 6) hx hb dJ7_fill_d0a16_19 (by decide) ?_
        exact ih_6 ⟨by omega, by omega⟩ ((x3_6 + 1)) ⟨by omega, by omega⟩ (by omega) _ _ hW  _ (lv_sub hl [1, 2, 0, 3] rfl)
  refine tf_enter (As := [.ref a0, .long (Int64.ofInt x1)]) hargs (Nat.le_of_ble_eq_true rfl) (fun ls hl => ?_)
  have hl : lv_has ls 5 [(0, .ref a0), (1, .long (Int64.ofInt x1))] := hl
  refine tf_iconst hx hb dJ7_fill_d0a16_0 ?_
  refine lv_istore_n (lv' := [(3, .int (Int32.ofInt 0)), (0, .ref a0), (1, .long (Int64.ofInt x1))]) hx hb dJ7_fill_d0a16_1 rfl hl (by decide) rfl (fun ls hl => ?_)
  refine lv_aload_n hx hb dJ7_fill_d0a16_2 rfl (lv_at hl 1 rfl) ?_
  refine tf_alen (t0 := 1) hx hb hK hW ha0 rfl rfl dJ7_fill_d0a16_3 (fun hn3 => ?_)
  refine lv_istore (lv' := [(4, .int (Int32.ofInt 1024)), (3, .int (Int32.ofInt 0)), (0, .ref a0), (1, .long (Int64.ofInt x1))]) hx hb dJ7_fill_d0a16_4 hl (by decide) rfl (fun ls hl => ?_)
  exact j_6 ((4096 - 0 + 1 : Int)).toNat ⟨by omega, by omega⟩ (0) ⟨by omega, by omega⟩ (by omega) _ _ hW  _ (lv_sub hl [2, 3, 1, 0] rfl)

abbrev M_J6_bitCount_0f7a4 : List (Nat × Nat) := []
set_option maxHeartbeats 4000000 in
set_option maxRecDepth 100000 in
theorem c_J6_bitCount_0f7a4 (l : Launch) (g : tf_G) (T : tf_T) (x0 : Int) (hp0 : (-2147483648) ≤ x0 ∧ x0 ≤ 2147483647) : Met l yJ6_bitCount_0f7a4 (cd_J6_bitCount_0f7a4 :: wsL_law) ({ frames := 1, cells := 0, slots := 0, locals := 24 }) (tf_P g T [.int (Int32.ofInt x0)] (fun H => True)) (tf_Qi g M_J6_bitCount_0f7a4 T (fun z _ _ => (-2147483648) ≤ z ∧ z ≤ 2147483647 ∧ z = (tf_bc (Int32.ofInt x0)).toInt)) 0 0 (fun q => tf_B g ≤ q) := by
  refine Met.ofW (cc := cJ6_bitCount_0f7a4) (maxL := 1) (ret := (some .int)) (by decide) rfl ?_
  intro p e s m args below meth c s₁ B hml hv
  obtain ⟨hargs, hk, hW0, hB, hpre⟩ := hv
  have hx := B.exec
  have hb := B.bytes
  have hr := B.returns
  have hts : ∀ w ∈ wsL_law, w.before args s = true := fun w h => atoms_spec (ws := cd_J6_bitCount_0f7a4 :: wsL_law) B.pre w (List.mem_cons_of_mem _ h)
  have hown : s.vm.findClass RJ6 = some m.cls := findClass_of_methodNamed B.named
  have hlocks := B.notSynchronized
  have hK := hk.1
  have hW := tf_n.start (M := M_J6_bitCount_0f7a4) hW0 hB
  obtain ⟨Q, hQ⟩ : ∃ q, q = MQ below (tf_Qi g M_J6_bitCount_0f7a4 T (fun z _ _ => (-2147483648) ≤ z ∧ z ≤ 2147483647 ∧ z = (tf_bc (Int32.ofInt x0)).toInt)) args s 0 0 (fun q => tf_B g ≤ q) := ⟨_, rfl⟩
  rw [← hQ]
  obtain ⟨R, hR⟩ : ∃ q, q = (headSpec (cd_J6_bitCount_0f7a4 :: wsL_law) ({ frames := 1, cells := 0, slots := 0, locals := 24 })).room := ⟨_, rfl⟩
  rw [← hR]
  have hR1 : 1 ≤ R.frames := by rw [hR]; exact Nat.le_refl _
  have hR2 : 24 ≤ R.locals := by rw [hR]; exact Nat.le_refl _
  have hR3 : 0 ≤ R.cells := by rw [hR]; exact Nat.le_refl _
  have hR4 : 0 ≤ R.slots := by rw [hR]; exact Nat.le_refl _
  have hin := (name_of_methodNamed B.named B.method).1
  clear hR B
  refine tf_enter (As := [.int (Int32.ofInt x0)]) hargs (Nat.le_of_ble_eq_true rfl) (fun ls hl => ?_)
  have hl : lv_has ls 1 [(0, .int (Int32.ofInt x0))] := hl
  refine lv_iload_n hx hb dJ6_bitCount_0f7a4_0 rfl (lv_at hl 0 rfl) ?_
  refine lv_iload_n hx hb dJ6_bitCount_0f7a4_1 rfl (lv_at hl 0 rfl) ?_
  refine tf_iconst hx hb dJ6_bitCount_0f7a4_2 ?_
  refine tf_iushr_e hx hb dJ6_bitCount_0f7a4_3 (fun q3 eq3 hq3 => ?_)
  refine tf_ldcw (z := 1431655765) hx hb hown (hts _ kc_J6_265) (by decide) dJ6_bitCount_0f7a4_4 ?_
  refine tf_iand_e hx hb dJ6_bitCount_0f7a4_7 (fun q7 eq7 hq7 => ?_)
  refine tf_isub_e hx hb dJ6_bitCount_0f7a4_8 (fun q8 eq8 hq8 => ?_)
  refine lv_istore_n (lv' := [(0, .int (Int32.ofInt q8))]) hx hb dJ6_bitCount_0f7a4_9 rfl hl (by decide) rfl (fun ls hl => ?_)
  refine lv_iload_n hx hb dJ6_bitCount_0f7a4_10 rfl (lv_at hl 0 rfl) ?_
  refine tf_ldcw (z := 858993459) hx hb hown (hts _ kc_J6_266) (by decide) dJ6_bitCount_0f7a4_11 ?_
  refine tf_iand_e hx hb dJ6_bitCount_0f7a4_14 (fun q14 eq14 hq14 => ?_)
  refine lv_iload_n hx hb dJ6_bitCount_0f7a4_15 rfl (lv_at hl 0 rfl) ?_
  refine tf_iconst hx hb dJ6_bitCount_0f7a4_16 ?_
  refine tf_iushr_e hx hb dJ6_bitCount_0f7a4_17 (fun q17 eq17 hq17 => ?_)
  refine tf_ldcw (z := 858993459) hx hb hown (hts _ kc_J6_266) (by decide) dJ6_bitCount_0f7a4_18 ?_
  refine tf_iand_e hx hb dJ6_bitCount_0f7a4_21 (fun q21 eq21 hq21 => ?_)
  refine tf_iadd_e hx hb dJ6_bitCount_0f7a4_22 (fun q22 eq22 hq22 => ?_)
  refine lv_istore_n (lv' := [(0, .int (Int32.ofInt q22))]) hx hb dJ6_bitCount_0f7a4_23 rfl hl (by decide) rfl (fun ls hl => ?_)
  refine lv_iload_n hx hb dJ6_bitCount_0f7a4_24 rfl (lv_at hl 0 rfl) ?_
  refine lv_iload_n hx hb dJ6_bitCount_0f7a4_25 rfl (lv_at hl 0 rfl) ?_
  refine tf_iconst hx hb dJ6_bitCount_0f7a4_26 ?_
  refine tf_iushr_e hx hb dJ6_bitCount_0f7a4_27 (fun q27 eq27 hq27 => ?_)
  refine tf_iadd_e hx hb dJ6_bitCount_0f7a4_28 (fun q28 eq28 hq28 => ?_)
  refine tf_ldcw (z := 252645135) hx hb hown (hts _ kc_J6_267) (by decide) dJ6_bitCount_0f7a4_29 ?_
  refine tf_iand_e hx hb dJ6_bitCount_0f7a4_32 (fun q32 eq32 hq32 => ?_)
  refine lv_istore_n (lv' := [(0, .int (Int32.ofInt q32))]) hx hb dJ6_bitCount_0f7a4_33 rfl hl (by decide) rfl (fun ls hl => ?_)
  refine lv_iload_n hx hb dJ6_bitCount_0f7a4_34 rfl (lv_at hl 0 rfl) ?_
  refine lv_iload_n hx hb dJ6_bitCount_0f7a4_35 rfl (lv_at hl 0 rfl) ?_
  refine tf_bipush hx hb dJ6_bitCount_0f7a4_36 (by decide) ?_
  refine tf_iushr_e hx hb dJ6_bitCount_0f7a4_38 (fun q38 eq38 hq38 => ?_)
  refine tf_iadd_e hx hb dJ6_bitCount_0f7a4_39 (fun q39 eq39 hq39 => ?_)
  refine lv_istore_n (lv' := [(0, .int (Int32.ofInt q39))]) hx hb dJ6_bitCount_0f7a4_40 rfl hl (by decide) rfl (fun ls hl => ?_)
  refine lv_iload_n hx hb dJ6_bitCount_0f7a4_41 rfl (lv_at hl 0 rfl) ?_
  refine lv_iload_n hx hb dJ6_bitCount_0f7a4_42 rfl (lv_at hl 0 rfl) ?_
  refine tf_bipush hx hb dJ6_bitCount_0f7a4_43 (by decide) ?_
  refine tf_iushr_e hx hb dJ6_bitCount_0f7a4_45 (fun q45 eq45 hq45 => ?_)
  refine tf_iadd_e hx hb dJ6_bitCount_0f7a4_46 (fun q46 eq46 hq46 => ?_)
  refine lv_istore_n (lv' := [(0, .int (Int32.ofInt q46))]) hx hb dJ6_bitCount_0f7a4_47 rfl hl (by decide) rfl (fun ls hl => ?_)
  refine lv_iload_n hx hb dJ6_bitCount_0f7a4_48 rfl (lv_at hl 0 rfl) ?_
  refine tf_bipush hx hb dJ6_bitCount_0f7a4_49 (by decide) ?_
  refine tf_iand_e hx hb dJ6_bitCount_0f7a4_51 (fun q51 eq51 hq51 => ?_)
  exact tf_reti (z := q51) hx hb hr hlocks hQ hW (by refine ⟨by omega, by omega, ?_⟩; have e9 : Int32.ofInt q51 = tf_bc (Int32.ofInt x0) := (by unfold tf_bc tf_b5 tf_b4 tf_b3 tf_b2 tf_b1 tf_us; rw [eq51, eq46, eq45, eq39, eq38, eq32, eq28, eq27, eq22, eq21, eq17, eq14, eq8, eq7, eq3]); rw [← e9, tf_ti hq51]) dJ6_bitCount_0f7a4_52

abbrev M_X0_become : List (Nat × Nat) := [(1, 0)]
set_option maxHeartbeats 4000000 in
set_option maxRecDepth 100000 in
theorem c_X0_become (l : Launch) (g : tf_G) (T : tf_T) (a0 : Nat) (ha0 : T a0 = some (17, 0)) (a1 : Nat) (ha1 : T a1 = some (17, 0)) : Met l yX0_become (cd_X0_become :: wsL_law) ({ frames := 1, cells := 0, slots := 0, locals := 80 }) (tf_P g T [.ref a0, .ref a1] (fun H => True)) (tf_Qv g M_X0_become T (fun _ H => True)) 0 0 (fun q => tf_B g ≤ q) := by
  refine Met.ofW (cc := cX0_become) (maxL := 2) (ret := none) (by decide) rfl ?_
  intro p e s m args below meth c s₁ B hml hv
  obtain ⟨hargs, hk, hW0, hB, hpre⟩ := hv
  have hx := B.exec
  have hb := B.bytes
  have hr := B.returns
  have hts : ∀ w ∈ wsL_law, w.before args s = true := fun w h => atoms_spec (ws := cd_X0_become :: wsL_law) B.pre w (List.mem_cons_of_mem _ h)
  have hown : s.vm.findClass RX0 = some m.cls := findClass_of_methodNamed B.named
  have hlocks := B.notSynchronized
  have hK := hk.1
  have hW := tf_n.start (M := M_X0_become) hW0 hB
  obtain ⟨Q, hQ⟩ : ∃ q, q = MQ below (tf_Qv g M_X0_become T (fun _ H => True)) args s 0 0 (fun q => tf_B g ≤ q) := ⟨_, rfl⟩
  rw [← hQ]
  obtain ⟨R, hR⟩ : ∃ q, q = (headSpec (cd_X0_become :: wsL_law) ({ frames := 1, cells := 0, slots := 0, locals := 80 })).room := ⟨_, rfl⟩
  rw [← hR]
  have hR1 : 1 ≤ R.frames := by rw [hR]; exact Nat.le_refl _
  have hR2 : 80 ≤ R.locals := by rw [hR]; exact Nat.le_refl _
  have hR3 : 0 ≤ R.cells := by rw [hR]; exact Nat.le_refl _
  have hR4 : 0 ≤ R.slots := by rw [hR]; exact Nat.le_refl _
  have hin := (name_of_methodNamed B.named B.method).1
  clear hR B
  refine tf_enter (As := [.ref a0, .ref a1]) hargs (Nat.le_of_ble_eq_true rfl) (fun ls hl => ?_)
  have hl : lv_has ls 2 [(0, .ref a0), (1, .ref a1)] := hl
  refine lv_aload_n hx hb dX0_become_0 rfl (lv_at hl 1 rfl) ?_
  refine tf_get hx hb hts inlX0 hown hK (ci := 0) rfl hW ha1 rfl 0 rfl (by decide) (hts _ fl_X0_9) dX0_become_1 (fun v1 hv1 hsv1 => ?_)
  obtain ⟨ad2, rfl, had2⟩ := tf_v1 hv1
  refine tf_iconst hx hb dX0_become_4 ?_
  refine lv_aload_n hx hb dX0_become_5 rfl (lv_at hl 0 rfl) ?_
  refine tf_get hx hb hts inlX0 hown hK (ci := 0) rfl hW ha0 rfl 0 rfl (by decide) (hts _ fl_X0_9) dX0_become_6 (fun v3 hv3 hsv3 => ?_)
  obtain ⟨ad4, rfl, had4⟩ := tf_v1 hv3
  refine tf_iconst hx hb dX0_become_9 ?_
  refine tf_sipush hx hb dX0_become_10 (by decide) ?_
  refine tf_acopy (t0 := 0) hx hb hml hl hown (hts _ (tw41 (i := 15) rfl)) (hts _ (tw26 (i := 18) rfl)) (hts _ (tw26 (i := 19) rfl)) (hts _ (tw26 (i := 20) rfl)) hK hW had2 had4 rfl rfl rfl (by decide) (by omega) (by omega) (by omega) (by omega) (by omega) (Nat.le_of_ble_eq_true rfl) (Nat.le_trans (by decide) hR1) (Nat.le_trans (by decide) hR2) dX0_become_13 (fun H5 locs5 hW hq5 => ?_)
  refine lv_aload_n hx hb dX0_become_16 rfl (lv_at hl 1 rfl) ?_
  refine tf_get hx hb hts inlX0 hown hK (ci := 0) rfl hW ha1 rfl 1 rfl (by decide) (hts _ fl_X0_15) dX0_become_17 (fun v6 hv6 hsv6 => ?_)
  obtain ⟨ad7, rfl, had7⟩ := tf_v1 hv6
  refine tf_iconst hx hb dX0_become_20 ?_
  refine lv_aload_n hx hb dX0_become_21 rfl (lv_at hl 0 rfl) ?_
  refine tf_get hx hb hts inlX0 hown hK (ci := 0) rfl hW ha0 rfl 1 rfl (by decide) (hts _ fl_X0_15) dX0_become_22 (fun v8 hv8 hsv8 => ?_)
  obtain ⟨ad9, rfl, had9⟩ := tf_v1 hv8
  refine tf_iconst hx hb dX0_become_25 ?_
  refine tf_sipush hx hb dX0_become_26 (by decide) ?_
  refine tf_acopy (t0 := 0) hx hb hml hl hown (hts _ (tw41 (i := 15) rfl)) (hts _ (tw26 (i := 18) rfl)) (hts _ (tw26 (i := 19) rfl)) (hts _ (tw26 (i := 20) rfl)) hK hW had7 had9 rfl rfl rfl (by decide) (by omega) (by omega) (by omega) (by omega) (by omega) (Nat.le_of_ble_eq_true rfl) (Nat.le_trans (by decide) hR1) (Nat.le_trans (by decide) hR2) dX0_become_29 (fun H10 locs10 hW hq10 => ?_)
  refine lv_aload_n hx hb dX0_become_32 rfl (lv_at hl 1 rfl) ?_
  refine tf_get hx hb hts inlX0 hown hK (ci := 0) rfl hW ha1 rfl 2 rfl (by decide) (hts _ fl_X0_18) dX0_become_33 (fun v11 hv11 hsv11 => ?_)
  obtain ⟨ad12, rfl, had12⟩ := tf_v1 hv11
  refine tf_iconst hx hb dX0_become_36 ?_
  refine lv_aload_n hx hb dX0_become_37 rfl (lv_at hl 0 rfl) ?_
  refine tf_get hx hb hts inlX0 hown hK (ci := 0) rfl hW ha0 rfl 2 rfl (by decide) (hts _ fl_X0_18) dX0_become_38 (fun v13 hv13 hsv13 => ?_)
  obtain ⟨ad14, rfl, had14⟩ := tf_v1 hv13
  refine tf_iconst hx hb dX0_become_41 ?_
  refine tf_sipush hx hb dX0_become_42 (by decide) ?_
  refine tf_acopy (t0 := 0) hx hb hml hl hown (hts _ (tw41 (i := 15) rfl)) (hts _ (tw26 (i := 18) rfl)) (hts _ (tw26 (i := 19) rfl)) (hts _ (tw26 (i := 20) rfl)) hK hW had12 had14 rfl rfl rfl (by decide) (by omega) (by omega) (by omega) (by omega) (by omega) (Nat.le_of_ble_eq_true rfl) (Nat.le_trans (by decide) hR1) (Nat.le_trans (by decide) hR2) dX0_become_45 (fun H15 locs15 hW hq15 => ?_)
  refine lv_aload_n hx hb dX0_become_48 rfl (lv_at hl 1 rfl) ?_
  refine tf_get hx hb hts inlX0 hown hK (ci := 0) rfl hW ha1 rfl 3 rfl (by decide) (hts _ fl_X0_21) dX0_become_49 (fun v16 hv16 hsv16 => ?_)
  obtain ⟨ad17, rfl, had17⟩ := tf_v1 hv16
  refine tf_iconst hx hb dX0_become_52 ?_
  refine lv_aload_n hx hb dX0_become_53 rfl (lv_at hl 0 rfl) ?_
  refine tf_get hx hb hts inlX0 hown hK (ci := 0) rfl hW ha0 rfl 3 rfl (by decide) (hts _ fl_X0_21) dX0_become_54 (fun v18 hv18 hsv18 => ?_)
  obtain ⟨ad19, rfl, had19⟩ := tf_v1 hv18
  refine tf_iconst hx hb dX0_become_57 ?_
  refine tf_sipush hx hb dX0_become_58 (by decide) ?_
  refine tf_acopy (t0 := 0) hx hb hml hl hown (hts _ (tw41 (i := 15) rfl)) (hts _ (tw26 (i := 18) rfl)) (hts _ (tw26 (i := 19) rfl)) (hts _ (tw26 (i := 20) rfl)) hK hW had17 had19 rfl rfl rfl (by decide) (by omega) (by omega) (by omega) (by omega) (by omega) (Nat.le_of_ble_eq_true rfl) (Nat.le_trans (by decide) hR1) (Nat.le_trans (by decide) hR2) dX0_become_61 (fun H20 locs20 hW hq20 => ?_)
  exact tf_retv hx hb hr hlocks hQ hW trivial dX0_become_64

abbrev M_X5_become : List (Nat × Nat) := [(2, 0), (22, 4)]
set_option maxHeartbeats 4000000 in
set_option maxRecDepth 100000 in
theorem c_X5_become (l : Launch) (g : tf_G) (T : tf_T) (a0 : Nat) (ha0 : T a0 = some (22, 0)) (a1 : Nat) (ha1 : T a1 = some (22, 0)) : Met l yX5_become (cd_X5_become :: wsL_law) ({ frames := 1, cells := 0, slots := 0, locals := 80 }) (tf_P g T [.ref a0, .ref a1] (fun H => True)) (tf_Qv g M_X5_become T (fun _ H => True)) 0 0 (fun q => tf_B g ≤ q) := by
  refine Met.ofW (cc := cX5_become) (maxL := 2) (ret := none) (by decide) rfl ?_
  intro p e s m args below meth c s₁ B hml hv
  obtain ⟨hargs, hk, hW0, hB, hpre⟩ := hv
  have hx := B.exec
  have hb := B.bytes
  have hr := B.returns
  have hts : ∀ w ∈ wsL_law, w.before args s = true := fun w h => atoms_spec (ws := cd_X5_become :: wsL_law) B.pre w (List.mem_cons_of_mem _ h)
  have hown : s.vm.findClass RX5 = some m.cls := findClass_of_methodNamed B.named
  have hlocks := B.notSynchronized
  have hK := hk.1
  have hW := tf_n.start (M := M_X5_become) hW0 hB
  obtain ⟨Q, hQ⟩ : ∃ q, q = MQ below (tf_Qv g M_X5_become T (fun _ H => True)) args s 0 0 (fun q => tf_B g ≤ q) := ⟨_, rfl⟩
  rw [← hQ]
  obtain ⟨R, hR⟩ : ∃ q, q = (headSpec (cd_X5_become :: wsL_law) ({ frames := 1, cells := 0, slots := 0, locals := 80 })).room := ⟨_, rfl⟩
  rw [← hR]
  have hR1 : 1 ≤ R.frames := by rw [hR]; exact Nat.le_refl _
  have hR2 : 80 ≤ R.locals := by rw [hR]; exact Nat.le_refl _
  have hR3 : 0 ≤ R.cells := by rw [hR]; exact Nat.le_refl _
  have hR4 : 0 ≤ R.slots := by rw [hR]; exact Nat.le_refl _
  have hin := (name_of_methodNamed B.named B.method).1
  clear hR B
  refine tf_enter (As := [.ref a0, .ref a1]) hargs (Nat.le_of_ble_eq_true rfl) (fun ls hl => ?_)
  have hl : lv_has ls 2 [(0, .ref a0), (1, .ref a1)] := hl
  refine lv_aload_n hx hb dX5_become_0 rfl (lv_at hl 1 rfl) ?_
  refine tf_get hx hb hts inlX5 hown hK (ci := 5) rfl hW ha1 rfl 0 rfl (by decide) (hts _ fl_X5_9) dX5_become_1 (fun v1 hv1 hsv1 => ?_)
  obtain ⟨ad2, rfl, had2⟩ := tf_v1 hv1
  refine tf_iconst hx hb dX5_become_4 ?_
  refine lv_aload_n hx hb dX5_become_5 rfl (lv_at hl 0 rfl) ?_
  refine tf_get hx hb hts inlX5 hown hK (ci := 5) rfl hW ha0 rfl 0 rfl (by decide) (hts _ fl_X5_9) dX5_become_6 (fun v3 hv3 hsv3 => ?_)
  obtain ⟨ad4, rfl, had4⟩ := tf_v1 hv3
  refine tf_iconst hx hb dX5_become_9 ?_
  refine tf_bipush hx hb dX5_become_10 (by decide) ?_
  refine tf_acopy (t0 := 0) hx hb hml hl hown (hts _ (tw56 (i := 12) rfl)) (hts _ (tw26 (i := 18) rfl)) (hts _ (tw26 (i := 19) rfl)) (hts _ (tw26 (i := 20) rfl)) hK hW had2 had4 rfl rfl rfl (by decide) (by omega) (by omega) (by omega) (by omega) (by omega) (Nat.le_of_ble_eq_true rfl) (Nat.le_trans (by decide) hR1) (Nat.le_trans (by decide) hR2) dX5_become_12 (fun H5 locs5 hW hq5 => ?_)
  refine lv_aload_n hx hb dX5_become_15 rfl (lv_at hl 1 rfl) ?_
  refine tf_get hx hb hts inlX5 hown hK (ci := 5) rfl hW ha1 rfl 1 rfl (by decide) (hts _ fl_X5_15) dX5_become_16 (fun v6 hv6 hsv6 => ?_)
  obtain ⟨ad7, rfl, had7⟩ := tf_v1 hv6
  refine tf_iconst hx hb dX5_become_19 ?_
  refine lv_aload_n hx hb dX5_become_20 rfl (lv_at hl 0 rfl) ?_
  refine tf_get hx hb hts inlX5 hown hK (ci := 5) rfl hW ha0 rfl 1 rfl (by decide) (hts _ fl_X5_15) dX5_become_21 (fun v8 hv8 hsv8 => ?_)
  obtain ⟨ad9, rfl, had9⟩ := tf_v1 hv8
  refine tf_iconst hx hb dX5_become_24 ?_
  refine tf_bipush hx hb dX5_become_25 (by decide) ?_
  refine tf_acopy (t0 := 0) hx hb hml hl hown (hts _ (tw56 (i := 12) rfl)) (hts _ (tw26 (i := 18) rfl)) (hts _ (tw26 (i := 19) rfl)) (hts _ (tw26 (i := 20) rfl)) hK hW had7 had9 rfl rfl rfl (by decide) (by omega) (by omega) (by omega) (by omega) (by omega) (Nat.le_of_ble_eq_true rfl) (Nat.le_trans (by decide) hR1) (Nat.le_trans (by decide) hR2) dX5_become_27 (fun H10 locs10 hW hq10 => ?_)
  refine lv_aload_n hx hb dX5_become_30 rfl (lv_at hl 1 rfl) ?_
  refine tf_get hx hb hts inlX5 hown hK (ci := 5) rfl hW ha1 rfl 2 rfl (by decide) (hts _ fl_X5_18) dX5_become_31 (fun v11 hv11 hsv11 => ?_)
  obtain ⟨ad12, rfl, had12⟩ := tf_v1 hv11
  refine tf_iconst hx hb dX5_become_34 ?_
  refine lv_aload_n hx hb dX5_become_35 rfl (lv_at hl 0 rfl) ?_
  refine tf_get hx hb hts inlX5 hown hK (ci := 5) rfl hW ha0 rfl 2 rfl (by decide) (hts _ fl_X5_18) dX5_become_36 (fun v13 hv13 hsv13 => ?_)
  obtain ⟨ad14, rfl, had14⟩ := tf_v1 hv13
  refine tf_iconst hx hb dX5_become_39 ?_
  refine tf_bipush hx hb dX5_become_40 (by decide) ?_
  refine tf_acopy (t0 := 0) hx hb hml hl hown (hts _ (tw56 (i := 12) rfl)) (hts _ (tw26 (i := 18) rfl)) (hts _ (tw26 (i := 19) rfl)) (hts _ (tw26 (i := 20) rfl)) hK hW had12 had14 rfl rfl rfl (by decide) (by omega) (by omega) (by omega) (by omega) (by omega) (Nat.le_of_ble_eq_true rfl) (Nat.le_trans (by decide) hR1) (Nat.le_trans (by decide) hR2) dX5_become_42 (fun H15 locs15 hW hq15 => ?_)
  refine lv_aload_n hx hb dX5_become_45 rfl (lv_at hl 1 rfl) ?_
  refine tf_get hx hb hts inlX5 hown hK (ci := 5) rfl hW ha1 rfl 3 rfl (by decide) (hts _ fl_X5_21) dX5_become_46 (fun v16 hv16 hsv16 => ?_)
  obtain ⟨ad17, rfl, had17⟩ := tf_v1 hv16
  refine tf_iconst hx hb dX5_become_49 ?_
  refine lv_aload_n hx hb dX5_become_50 rfl (lv_at hl 0 rfl) ?_
  refine tf_get hx hb hts inlX5 hown hK (ci := 5) rfl hW ha0 rfl 3 rfl (by decide) (hts _ fl_X5_21) dX5_become_51 (fun v18 hv18 hsv18 => ?_)
  obtain ⟨ad19, rfl, had19⟩ := tf_v1 hv18
  refine tf_iconst hx hb dX5_become_54 ?_
  refine tf_bipush hx hb dX5_become_55 (by decide) ?_
  refine tf_acopy (t0 := 0) hx hb hml hl hown (hts _ (tw56 (i := 12) rfl)) (hts _ (tw26 (i := 18) rfl)) (hts _ (tw26 (i := 19) rfl)) (hts _ (tw26 (i := 20) rfl)) hK hW had17 had19 rfl rfl rfl (by decide) (by omega) (by omega) (by omega) (by omega) (by omega) (Nat.le_of_ble_eq_true rfl) (Nat.le_trans (by decide) hR1) (Nat.le_trans (by decide) hR2) dX5_become_57 (fun H20 locs20 hW hq20 => ?_)
  refine lv_aload_n hx hb dX5_become_60 rfl (lv_at hl 0 rfl) ?_
  refine lv_aload_n hx hb dX5_become_61 rfl (lv_at hl 1 rfl) ?_
  refine tf_get hx hb hts inlX5 hown hK (ci := 5) rfl hW ha1 rfl 4 rfl (by decide) (hts _ fl_X5_24) dX5_become_62 (fun v21 hv21 hsv21 => ?_)
  obtain ⟨z22, rfl, hz22⟩ := tf_v0 hv21
  refine tf_put hx hb hts inlX5 tyX5 tyX5_ok nmX5 hown hK (ci := 5) rfl hW ha0 rfl rfl 4 rfl (by decide) (by decide) (hts _ fl_X5_24) rfl (tf_u0 (by omega) (by omega)) rfl rfl dX5_become_65 (fun H23 locs23 hW hs23 ht23 hq23 => ?_)
  exact tf_retv hx hb hr hlocks hQ hW trivial dX5_become_68

abbrev M_X5_highOf : List (Nat × Nat) := []
set_option maxHeartbeats 4000000 in
set_option maxRecDepth 100000 in
theorem c_X5_highOf (l : Launch) (g : tf_G) (T : tf_T) (a0 : Nat) (ha0 : T a0 = some (22, 0)) (x1 : Int) (hp1 : (-2147483648) ≤ x1 ∧ x1 ≤ 2147483647) (a2 : Nat) (ha2 : T a2 = some (17, 0)) : Met l yX5_highOf (cd_X5_highOf :: wsL_law) ({ frames := 2, cells := 0, slots := 0, locals := 45 }) (tf_P g T [.ref a0, .int (Int32.ofInt x1), .ref a2] (fun H => True)) (tf_Qi g M_X5_highOf T (fun z _ _ => (-2147483648) ≤ z ∧ z ≤ 2147483647)) 0 0 (fun q => tf_B g ≤ q) := by
  refine Met.ofW (cc := cX5_highOf) (maxL := 3) (ret := (some .int)) (by decide) rfl ?_
  intro p e s m args below meth c s₁ B hml hv
  obtain ⟨hargs, hk, hW0, hB, hpre⟩ := hv
  have hx := B.exec
  have hb := B.bytes
  have hr := B.returns
  have hts : ∀ w ∈ wsL_law, w.before args s = true := fun w h => atoms_spec (ws := cd_X5_highOf :: wsL_law) B.pre w (List.mem_cons_of_mem _ h)
  have hown : s.vm.findClass RX5 = some m.cls := findClass_of_methodNamed B.named
  have hlocks := B.notSynchronized
  have hK := hk.1
  have hW := tf_n.start (M := M_X5_highOf) hW0 hB
  obtain ⟨Q, hQ⟩ : ∃ q, q = MQ below (tf_Qi g M_X5_highOf T (fun z _ _ => (-2147483648) ≤ z ∧ z ≤ 2147483647)) args s 0 0 (fun q => tf_B g ≤ q) := ⟨_, rfl⟩
  rw [← hQ]
  obtain ⟨R, hR⟩ : ∃ q, q = (headSpec (cd_X5_highOf :: wsL_law) ({ frames := 2, cells := 0, slots := 0, locals := 45 })).room := ⟨_, rfl⟩
  rw [← hR]
  have hR1 : 2 ≤ R.frames := by rw [hR]; exact Nat.le_refl _
  have hR2 : 45 ≤ R.locals := by rw [hR]; exact Nat.le_refl _
  have hR3 : 0 ≤ R.cells := by rw [hR]; exact Nat.le_refl _
  have hR4 : 0 ≤ R.slots := by rw [hR]; exact Nat.le_refl _
  have hin := (name_of_methodNamed B.named B.method).1
  clear hR B
  refine tf_enter (As := [.ref a0, .int (Int32.ofInt x1), .ref a2]) hargs (Nat.le_of_ble_eq_true rfl) (fun ls hl => ?_)
  have hl : lv_has ls 3 [(0, .ref a0), (1, .int (Int32.ofInt x1)), (2, .ref a2)] := hl
  refine lv_aload_n hx hb dX5_highOf_0 rfl (lv_at hl 0 rfl) ?_
  refine lv_iload_n hx hb dX5_highOf_1 rfl (lv_at hl 1 rfl) ?_
  refine tf_calli (va_runV (As := [.int (Int32.ofInt x1)]) (rest := []) ⟨hx, hb, hml, hown, hts⟩ (c_X5_has l g T a0 ha0 (x1) ⟨by omega, by omega⟩) (cwV 1 hts gv_X5_34 rfl rfl rfl hd_X5_has ⟨Nat.le_trans (by decide) hR1, Nat.le_trans (by decide) hR2⟩) (tf_preV hk hW ha0 (ci := 5) rfl rfl trivial) rfl rfl hl.1 rfl (lv_room (Nat.le_of_ble_eq_true rfl)) dX5_highOf_2 ⟨Nat.zero_le _, Nat.zero_le _⟩) hW (by decide) (fun z1 H1 locs1 hW hF1 hp1 => ?_)
  rcases hp1 with ⟨rfl, h2, h3⟩ | ⟨rfl⟩
  · refine tf_if_eq (tgt := 31) hx hb ⟨by decide, by decide⟩ dX5_highOf_5 (by decide) (fun h4 => ?_) (fun h4 => ?_)
    · exfalso; omega
    · refine lv_aload_n hx hb dX5_highOf_8 rfl (lv_at hl 2 rfl) ?_
      refine tf_get hx hb hts inlX0 hown hK (ci := 0) rfl hW ha2 rfl 0 rfl (by decide) (hts _ fl_X5_38) dX5_highOf_9 (fun v5 hv5 hsv5 => ?_)
      obtain ⟨ad6, rfl, had6⟩ := tf_v1 hv5
      refine lv_aload_n hx hb dX5_highOf_12 rfl (lv_at hl 0 rfl) ?_
      refine tf_get hx hb hts inlX5 hown hK (ci := 5) rfl hW ha0 rfl 0 rfl (by decide) (hts _ fl_X5_9) dX5_highOf_13 (fun v7 hv7 hsv7 => ?_)
      obtain ⟨ad8, rfl, had8⟩ := tf_v1 hv7
      refine lv_iload_n hx hb dX5_highOf_16 rfl (lv_at hl 1 rfl) ?_
      refine tf_iald (t0 := 0) hx hb hK hW had8 rfl rfl (by omega) (by omega) dX5_highOf_17 (fun v9 hv9 hsv9 => ?_)
      obtain ⟨z10, rfl, hz10⟩ := tf_v0 hv9
      refine lv_aload_n hx hb dX5_highOf_18 rfl (lv_at hl 0 rfl) ?_
      refine tf_get hx hb hts inlX5 hown hK (ci := 5) rfl hW ha0 rfl 1 rfl (by decide) (hts _ fl_X5_15) dX5_highOf_19 (fun v11 hv11 hsv11 => ?_)
      obtain ⟨ad12, rfl, had12⟩ := tf_v1 hv11
      refine lv_iload_n hx hb dX5_highOf_22 rfl (lv_at hl 1 rfl) ?_
      refine tf_iald (t0 := 0) hx hb hK hW had12 rfl rfl (by omega) (by omega) dX5_highOf_23 (fun v13 hv13 hsv13 => ?_)
      obtain ⟨z14, rfl, hz14⟩ := tf_v0 hv13
      refine tf_calli (va_runSN (As := [.int (Int32.ofInt z10), .int (Int32.ofInt z14)]) (rest := [.ref ad6]) ⟨hx, hb, hml, hown, hts⟩ (c_X9_spotAt l g T (z10) ⟨by omega, by omega⟩ (z14) ⟨by omega, by omega⟩) ⟨va_cnB 2 hts (gw_ws cm_X9_spotAt) rfl rfl rfl (hk.2.1 _ nw_14) (hts _ (tw1 (i := 2) rfl)) hd_X9_spotAt.2 ⟨Nat.le_trans (by decide) hR1, Nat.le_trans (by decide) hR2⟩, hts _ (tw9 (i := 5) rfl), trivial⟩ (tf_preS hk hW trivial) rfl rfl hl.1 rfl (lv_room (Nat.le_of_ble_eq_true rfl)) dX5_highOf_24 ⟨Nat.zero_le _, Nat.zero_le _⟩) hW (by decide) (fun z15 H15 locs15 hW hF15 hp15 => ?_)
      obtain ⟨hp15_0, hp15_1⟩ := hp15
      refine tf_iald (t0 := 0) hx hb hK hW had6 rfl rfl (by omega) (by omega) dX5_highOf_27 (fun v16 hv16 hsv16 => ?_)
      obtain ⟨z17, rfl, hz17⟩ := tf_v0 hv16
      refine lv_goto (tgt := 32) hx hb dX5_highOf_28 (by decide) ?_
      exact tf_reti (z := z17) hx hb hr hlocks hQ hW (show (-2147483648) ≤ (z17) ∧ (z17) ≤ 2147483647 by omega) dX5_highOf_32
  · refine tf_if_eq (tgt := 31) hx hb ⟨by decide, by decide⟩ dX5_highOf_5 (by decide) (fun h18 => ?_) (fun h18 => ?_)
    · refine tf_iconst hx hb dX5_highOf_31 ?_
      exact tf_reti (z := 0) hx hb hr hlocks hQ hW (show (-2147483648) ≤ (0) ∧ (0) ≤ 2147483647 by omega) dX5_highOf_32
    · exfalso; omega

abbrev M_X5_makeHigh : List (Nat × Nat) := [(1, 0)]
set_option maxHeartbeats 4000000 in
set_option maxRecDepth 100000 in
theorem c_X5_makeHigh (l : Launch) (g : tf_G) (T : tf_T) (a0 : Nat) (ha0 : T a0 = some (22, 0)) (x1 : Int) (hp1 : (-2147483648) ≤ x1 ∧ x1 ≤ 2147483647) (x2 : Int) (hp2 : (-2147483648) ≤ x2 ∧ x2 ≤ 2147483647) (a3 : Nat) (ha3 : T a3 = some (17, 0)) : Met l yX5_makeHigh (cd_X5_makeHigh :: wsL_law) ({ frames := 3, cells := 0, slots := 0, locals := 73 }) (tf_P g T [.ref a0, .int (Int32.ofInt x1), .int (Int32.ofInt x2), .ref a3] (fun H => True)) (tf_Qv g M_X5_makeHigh T (fun _ H => True)) 0 0 (fun q => tf_B g ≤ q) := by
  refine Met.ofW (cc := cX5_makeHigh) (maxL := 4) (ret := none) (by decide) rfl ?_
  intro p e s m args below meth c s₁ B hml hv
  obtain ⟨hargs, hk, hW0, hB, hpre⟩ := hv
  have hx := B.exec
  have hb := B.bytes
  have hr := B.returns
  have hts : ∀ w ∈ wsL_law, w.before args s = true := fun w h => atoms_spec (ws := cd_X5_makeHigh :: wsL_law) B.pre w (List.mem_cons_of_mem _ h)
  have hown : s.vm.findClass RX5 = some m.cls := findClass_of_methodNamed B.named
  have hlocks := B.notSynchronized
  have hK := hk.1
  have hW := tf_n.start (M := M_X5_makeHigh) hW0 hB
  obtain ⟨Q, hQ⟩ : ∃ q, q = MQ below (tf_Qv g M_X5_makeHigh T (fun _ H => True)) args s 0 0 (fun q => tf_B g ≤ q) := ⟨_, rfl⟩
  rw [← hQ]
  obtain ⟨R, hR⟩ : ∃ q, q = (headSpec (cd_X5_makeHigh :: wsL_law) ({ frames := 3, cells := 0, slots := 0, locals := 73 })).room := ⟨_, rfl⟩
  rw [← hR]
  have hR1 : 3 ≤ R.frames := by rw [hR]; exact Nat.le_refl _
  have hR2 : 73 ≤ R.locals := by rw [hR]; exact Nat.le_refl _
  have hR3 : 0 ≤ R.cells := by rw [hR]; exact Nat.le_refl _
  have hR4 : 0 ≤ R.slots := by rw [hR]; exact Nat.le_refl _
  have hin := (name_of_methodNamed B.named B.method).1
  clear hR B
  refine tf_enter (As := [.ref a0, .int (Int32.ofInt x1), .int (Int32.ofInt x2), .ref a3]) hargs (Nat.le_of_ble_eq_true rfl) (fun ls hl => ?_)
  have hl : lv_has ls 4 [(0, .ref a0), (1, .int (Int32.ofInt x1)), (2, .int (Int32.ofInt x2)), (3, .ref a3)] := hl
  refine lv_aload_n hx hb dX5_makeHigh_0 rfl (lv_at hl 0 rfl) ?_
  refine lv_iload_n hx hb dX5_makeHigh_1 rfl (lv_at hl 1 rfl) ?_
  refine tf_calli (va_runV (As := [.int (Int32.ofInt x1)]) (rest := []) ⟨hx, hb, hml, hown, hts⟩ (c_X5_has l g T a0 ha0 (x1) ⟨by omega, by omega⟩) (cwV 1 hts gv_X5_34 rfl rfl rfl hd_X5_has ⟨Nat.le_trans (by decide) hR1, Nat.le_trans (by decide) hR2⟩) (tf_preV hk hW ha0 (ci := 5) rfl rfl trivial) rfl rfl hl.1 rfl (lv_room (Nat.le_of_ble_eq_true rfl)) dX5_makeHigh_2 ⟨Nat.zero_le _, Nat.zero_le _⟩) hW (by decide) (fun z1 H1 locs1 hW hF1 hp1 => ?_)
  rcases hp1 with ⟨rfl, h2, h3⟩ | ⟨rfl⟩
  · refine tf_if_eq (tgt := 37) hx hb ⟨by decide, by decide⟩ dX5_makeHigh_5 (by decide) (fun h4 => ?_) (fun h4 => ?_)
    · exfalso; omega
    · refine lv_aload_n hx hb dX5_makeHigh_8 rfl (lv_at hl 3 rfl) ?_
      refine lv_aload_n hx hb dX5_makeHigh_9 rfl (lv_at hl 0 rfl) ?_
      refine tf_get hx hb hts inlX5 hown hK (ci := 5) rfl hW ha0 rfl 0 rfl (by decide) (hts _ fl_X5_9) dX5_makeHigh_10 (fun v5 hv5 hsv5 => ?_)
      obtain ⟨ad6, rfl, had6⟩ := tf_v1 hv5
      refine lv_iload_n hx hb dX5_makeHigh_13 rfl (lv_at hl 1 rfl) ?_
      refine tf_iald (t0 := 0) hx hb hK hW had6 rfl rfl (by omega) (by omega) dX5_makeHigh_14 (fun v7 hv7 hsv7 => ?_)
      obtain ⟨z8, rfl, hz8⟩ := tf_v0 hv7
      refine lv_aload_n hx hb dX5_makeHigh_15 rfl (lv_at hl 0 rfl) ?_
      refine tf_get hx hb hts inlX5 hown hK (ci := 5) rfl hW ha0 rfl 1 rfl (by decide) (hts _ fl_X5_15) dX5_makeHigh_16 (fun v9 hv9 hsv9 => ?_)
      obtain ⟨ad10, rfl, had10⟩ := tf_v1 hv9
      refine lv_iload_n hx hb dX5_makeHigh_19 rfl (lv_at hl 1 rfl) ?_
      refine tf_iald (t0 := 0) hx hb hK hW had10 rfl rfl (by omega) (by omega) dX5_makeHigh_20 (fun v11 hv11 hsv11 => ?_)
      obtain ⟨z12, rfl, hz12⟩ := tf_v0 hv11
      refine lv_aload_n hx hb dX5_makeHigh_21 rfl (lv_at hl 0 rfl) ?_
      refine tf_get hx hb hts inlX5 hown hK (ci := 5) rfl hW ha0 rfl 2 rfl (by decide) (hts _ fl_X5_18) dX5_makeHigh_22 (fun v13 hv13 hsv13 => ?_)
      obtain ⟨ad14, rfl, had14⟩ := tf_v1 hv13
      refine lv_iload_n hx hb dX5_makeHigh_25 rfl (lv_at hl 1 rfl) ?_
      refine tf_iald (t0 := 0) hx hb hK hW had14 rfl rfl (by omega) (by omega) dX5_makeHigh_26 (fun v15 hv15 hsv15 => ?_)
      obtain ⟨z16, rfl, hz16⟩ := tf_v0 hv15
      refine lv_aload_n hx hb dX5_makeHigh_27 rfl (lv_at hl 0 rfl) ?_
      refine tf_get hx hb hts inlX5 hown hK (ci := 5) rfl hW ha0 rfl 3 rfl (by decide) (hts _ fl_X5_21) dX5_makeHigh_28 (fun v17 hv17 hsv17 => ?_)
      obtain ⟨ad18, rfl, had18⟩ := tf_v1 hv17
      refine lv_iload_n hx hb dX5_makeHigh_31 rfl (lv_at hl 1 rfl) ?_
      refine tf_iald (t0 := 0) hx hb hK hW had18 rfl rfl (by omega) (by omega) dX5_makeHigh_32 (fun v19 hv19 hsv19 => ?_)
      obtain ⟨z20, rfl, hz20⟩ := tf_v0 hv19
      refine lv_iload_n hx hb dX5_makeHigh_33 rfl (lv_at hl 2 rfl) ?_
      refine tf_callv (va_runV (As := [.int (Int32.ofInt z8), .int (Int32.ofInt z12), .int (Int32.ofInt z16), .int (Int32.ofInt z20), .int (Int32.ofInt x2)]) (rest := []) ⟨hx, hb, hml, hown, hts⟩ (c_X0_stand l g T a3 ha3 (z8) ⟨by omega, by omega⟩ (z12) ⟨by omega, by omega⟩ (z16) ⟨by omega, by omega⟩ (z20) ⟨by omega, by omega⟩ (x2) ⟨by omega, by omega⟩) (cwV 5 hts gv_X5_47 rfl rfl rfl hd_X0_stand ⟨Nat.le_trans (by decide) hR1, Nat.le_trans (by decide) hR2⟩) (tf_preV hk hW ha3 (ci := 0) rfl rfl trivial) rfl rfl hl.1 rfl (lv_room (Nat.le_of_ble_eq_true rfl)) dX5_makeHigh_34 ⟨Nat.zero_le _, Nat.zero_le _⟩) hW (by decide) (fun H21 locs21 hW hF21 hp21 => ?_)
      exact tf_retv hx hb hr hlocks hQ hW trivial dX5_makeHigh_37
  · refine tf_if_eq (tgt := 37) hx hb ⟨by decide, by decide⟩ dX5_makeHigh_5 (by decide) (fun h22 => ?_) (fun h22 => ?_)
    · exact tf_retv hx hb hr hlocks hQ hW trivial dX5_makeHigh_37
    · exfalso; omega

abbrev M_X8_become : List (Nat × Nat) := [(9, 0), (25, 4)]
set_option maxHeartbeats 4000000 in
set_option maxRecDepth 100000 in
theorem c_X8_become (l : Launch) (g : tf_G) (T : tf_T) (a0 : Nat) (ha0 : T a0 = some (25, 0)) (a1 : Nat) (ha1 : T a1 = some (25, 0)) : Met l yX8_become (cd_X8_become :: wsL_law) ({ frames := 1, cells := 0, slots := 0, locals := 80 }) (tf_P g T [.ref a0, .ref a1] (fun H => True)) (tf_Qv g M_X8_become T (fun _ H => True)) 0 0 (fun q => tf_B g ≤ q) := by
  refine Met.ofW (cc := cX8_become) (maxL := 2) (ret := none) (by decide) rfl ?_
  intro p e s m args below meth c s₁ B hml hv
  obtain ⟨hargs, hk, hW0, hB, hpre⟩ := hv
  have hx := B.exec
  have hb := B.bytes
  have hr := B.returns
  have hts : ∀ w ∈ wsL_law, w.before args s = true := fun w h => atoms_spec (ws := cd_X8_become :: wsL_law) B.pre w (List.mem_cons_of_mem _ h)
  have hown : s.vm.findClass RX8 = some m.cls := findClass_of_methodNamed B.named
  have hlocks := B.notSynchronized
  have hK := hk.1
  have hW := tf_n.start (M := M_X8_become) hW0 hB
  obtain ⟨Q, hQ⟩ : ∃ q, q = MQ below (tf_Qv g M_X8_become T (fun _ H => True)) args s 0 0 (fun q => tf_B g ≤ q) := ⟨_, rfl⟩
  rw [← hQ]
  obtain ⟨R, hR⟩ : ∃ q, q = (headSpec (cd_X8_become :: wsL_law) ({ frames := 1, cells := 0, slots := 0, locals := 80 })).room := ⟨_, rfl⟩
  rw [← hR]
  have hR1 : 1 ≤ R.frames := by rw [hR]; exact Nat.le_refl _
  have hR2 : 80 ≤ R.locals := by rw [hR]; exact Nat.le_refl _
  have hR3 : 0 ≤ R.cells := by rw [hR]; exact Nat.le_refl _
  have hR4 : 0 ≤ R.slots := by rw [hR]; exact Nat.le_refl _
  have hin := (name_of_methodNamed B.named B.method).1
  clear hR B
  refine tf_enter (As := [.ref a0, .ref a1]) hargs (Nat.le_of_ble_eq_true rfl) (fun ls hl => ?_)
  have hl : lv_has ls 2 [(0, .ref a0), (1, .ref a1)] := hl
  refine lv_aload_n hx hb dX8_become_0 rfl (lv_at hl 1 rfl) ?_
  refine tf_get hx hb hts inlX8 hown hK (ci := 8) rfl hW ha1 rfl 0 rfl (by decide) (hts _ fl_X8_9) dX8_become_1 (fun v1 hv1 hsv1 => ?_)
  obtain ⟨ad2, rfl, had2⟩ := tf_v1 hv1
  refine tf_iconst hx hb dX8_become_4 ?_
  refine lv_aload_n hx hb dX8_become_5 rfl (lv_at hl 0 rfl) ?_
  refine tf_get hx hb hts inlX8 hown hK (ci := 8) rfl hW ha0 rfl 0 rfl (by decide) (hts _ fl_X8_9) dX8_become_6 (fun v3 hv3 hsv3 => ?_)
  obtain ⟨ad4, rfl, had4⟩ := tf_v1 hv3
  refine tf_iconst hx hb dX8_become_9 ?_
  refine tf_bipush hx hb dX8_become_10 (by decide) ?_
  refine tf_acopy (t0 := 0) hx hb hml hl hown (hts _ (tw56 (i := 17) rfl)) (hts _ (tw26 (i := 18) rfl)) (hts _ (tw26 (i := 19) rfl)) (hts _ (tw26 (i := 20) rfl)) hK hW had2 had4 rfl rfl rfl (by decide) (by omega) (by omega) (by omega) (by omega) (by omega) (Nat.le_of_ble_eq_true rfl) (Nat.le_trans (by decide) hR1) (Nat.le_trans (by decide) hR2) dX8_become_12 (fun H5 locs5 hW hq5 => ?_)
  refine lv_aload_n hx hb dX8_become_15 rfl (lv_at hl 1 rfl) ?_
  refine tf_get hx hb hts inlX8 hown hK (ci := 8) rfl hW ha1 rfl 1 rfl (by decide) (hts _ fl_X8_15) dX8_become_16 (fun v6 hv6 hsv6 => ?_)
  obtain ⟨ad7, rfl, had7⟩ := tf_v1 hv6
  refine tf_iconst hx hb dX8_become_19 ?_
  refine lv_aload_n hx hb dX8_become_20 rfl (lv_at hl 0 rfl) ?_
  refine tf_get hx hb hts inlX8 hown hK (ci := 8) rfl hW ha0 rfl 1 rfl (by decide) (hts _ fl_X8_15) dX8_become_21 (fun v8 hv8 hsv8 => ?_)
  obtain ⟨ad9, rfl, had9⟩ := tf_v1 hv8
  refine tf_iconst hx hb dX8_become_24 ?_
  refine tf_bipush hx hb dX8_become_25 (by decide) ?_
  refine tf_acopy (t0 := 0) hx hb hml hl hown (hts _ (tw56 (i := 17) rfl)) (hts _ (tw26 (i := 18) rfl)) (hts _ (tw26 (i := 19) rfl)) (hts _ (tw26 (i := 20) rfl)) hK hW had7 had9 rfl rfl rfl (by decide) (by omega) (by omega) (by omega) (by omega) (by omega) (Nat.le_of_ble_eq_true rfl) (Nat.le_trans (by decide) hR1) (Nat.le_trans (by decide) hR2) dX8_become_27 (fun H10 locs10 hW hq10 => ?_)
  refine lv_aload_n hx hb dX8_become_30 rfl (lv_at hl 1 rfl) ?_
  refine tf_get hx hb hts inlX8 hown hK (ci := 8) rfl hW ha1 rfl 2 rfl (by decide) (hts _ fl_X8_18) dX8_become_31 (fun v11 hv11 hsv11 => ?_)
  obtain ⟨ad12, rfl, had12⟩ := tf_v1 hv11
  refine tf_iconst hx hb dX8_become_34 ?_
  refine lv_aload_n hx hb dX8_become_35 rfl (lv_at hl 0 rfl) ?_
  refine tf_get hx hb hts inlX8 hown hK (ci := 8) rfl hW ha0 rfl 2 rfl (by decide) (hts _ fl_X8_18) dX8_become_36 (fun v13 hv13 hsv13 => ?_)
  obtain ⟨ad14, rfl, had14⟩ := tf_v1 hv13
  refine tf_iconst hx hb dX8_become_39 ?_
  refine tf_bipush hx hb dX8_become_40 (by decide) ?_
  refine tf_acopy (t0 := 0) hx hb hml hl hown (hts _ (tw56 (i := 17) rfl)) (hts _ (tw26 (i := 18) rfl)) (hts _ (tw26 (i := 19) rfl)) (hts _ (tw26 (i := 20) rfl)) hK hW had12 had14 rfl rfl rfl (by decide) (by omega) (by omega) (by omega) (by omega) (by omega) (Nat.le_of_ble_eq_true rfl) (Nat.le_trans (by decide) hR1) (Nat.le_trans (by decide) hR2) dX8_become_42 (fun H15 locs15 hW hq15 => ?_)
  refine lv_aload_n hx hb dX8_become_45 rfl (lv_at hl 1 rfl) ?_
  refine tf_get hx hb hts inlX8 hown hK (ci := 8) rfl hW ha1 rfl 3 rfl (by decide) (hts _ fl_X8_21) dX8_become_46 (fun v16 hv16 hsv16 => ?_)
  obtain ⟨ad17, rfl, had17⟩ := tf_v1 hv16
  refine tf_iconst hx hb dX8_become_49 ?_
  refine lv_aload_n hx hb dX8_become_50 rfl (lv_at hl 0 rfl) ?_
  refine tf_get hx hb hts inlX8 hown hK (ci := 8) rfl hW ha0 rfl 3 rfl (by decide) (hts _ fl_X8_21) dX8_become_51 (fun v18 hv18 hsv18 => ?_)
  obtain ⟨ad19, rfl, had19⟩ := tf_v1 hv18
  refine tf_iconst hx hb dX8_become_54 ?_
  refine tf_bipush hx hb dX8_become_55 (by decide) ?_
  refine tf_acopy (t0 := 0) hx hb hml hl hown (hts _ (tw56 (i := 17) rfl)) (hts _ (tw26 (i := 18) rfl)) (hts _ (tw26 (i := 19) rfl)) (hts _ (tw26 (i := 20) rfl)) hK hW had17 had19 rfl rfl rfl (by decide) (by omega) (by omega) (by omega) (by omega) (by omega) (Nat.le_of_ble_eq_true rfl) (Nat.le_trans (by decide) hR1) (Nat.le_trans (by decide) hR2) dX8_become_57 (fun H20 locs20 hW hq20 => ?_)
  refine lv_aload_n hx hb dX8_become_60 rfl (lv_at hl 0 rfl) ?_
  refine lv_aload_n hx hb dX8_become_61 rfl (lv_at hl 1 rfl) ?_
  refine tf_get hx hb hts inlX8 hown hK (ci := 8) rfl hW ha1 rfl 4 rfl (by decide) (hts _ fl_X8_24) dX8_become_62 (fun v21 hv21 hsv21 => ?_)
  obtain ⟨z22, rfl, hz22⟩ := tf_v0 hv21
  refine tf_put hx hb hts inlX8 tyX8 tyX8_ok nmX8 hown hK (ci := 8) rfl hW ha0 rfl rfl 4 rfl (by decide) (by decide) (hts _ fl_X8_24) rfl (tf_u0 (by omega) (by omega)) rfl rfl dX8_become_65 (fun H23 locs23 hW hs23 ht23 hq23 => ?_)
  exact tf_retv hx hb hr hlocks hQ hW trivial dX8_become_68

abbrev M_X3_become : List (Nat × Nat) := [(1, 0), (2, 0), (5, 0), (6, 0), (7, 0), (8, 0), (9, 0), (13, 0), (20, 8), (20, 9), (20, 11), (22, 4), (25, 4)]
set_option maxHeartbeats 4000000 in
set_option maxRecDepth 100000 in
theorem c_X3_become (l : Launch) (g : tf_G) (T : tf_T) (a0 : Nat) (ha0 : T a0 = some (20, 0)) (a1 : Nat) (ha1 : T a1 = some (20, 0)) : Met l yX3_become (cd_X3_become :: wsL_law) ({ frames := 2, cells := 0, slots := 0, locals := 101 }) (tf_P g T [.ref a0, .ref a1] (fun H => True)) (tf_Qv g M_X3_become T (fun _ H => True)) 0 0 (fun q => tf_B g ≤ q) := by
  refine Met.ofW (cc := cX3_become) (maxL := 3) (ret := none) (by decide) rfl ?_
  intro p e s m args below meth c s₁ B hml hv
  obtain ⟨hargs, hk, hW0, hB, hpre⟩ := hv
  have hx := B.exec
  have hb := B.bytes
  have hr := B.returns
  have hts : ∀ w ∈ wsL_law, w.before args s = true := fun w h => atoms_spec (ws := cd_X3_become :: wsL_law) B.pre w (List.mem_cons_of_mem _ h)
  have hown : s.vm.findClass RX3 = some m.cls := findClass_of_methodNamed B.named
  have hlocks := B.notSynchronized
  have hK := hk.1
  have hW := tf_n.start (M := M_X3_become) hW0 hB
  obtain ⟨Q, hQ⟩ : ∃ q, q = MQ below (tf_Qv g M_X3_become T (fun _ H => True)) args s 0 0 (fun q => tf_B g ≤ q) := ⟨_, rfl⟩
  rw [← hQ]
  obtain ⟨R, hR⟩ : ∃ q, q = (headSpec (cd_X3_become :: wsL_law) ({ frames := 2, cells := 0, slots := 0, locals := 101 })).room := ⟨_, rfl⟩
  rw [← hR]
  have hR1 : 2 ≤ R.frames := by rw [hR]; exact Nat.le_refl _
  have hR2 : 101 ≤ R.locals := by rw [hR]; exact Nat.le_refl _
  have hR3 : 0 ≤ R.cells := by rw [hR]; exact Nat.le_refl _
  have hR4 : 0 ≤ R.slots := by rw [hR]; exact Nat.le_refl _
  have hin := (name_of_methodNamed B.named B.method).1
  clear hR B
  have j_92 : ∀ (n_92 : Nat), ∀ (x2_92 : Int), 0 ≤ x2_92 ∧ x2_92 ≤ 6 → (6 - x2_92 + 1 ≤ (n_92 : Int)) → ∀ (H : Heap) (locs : List Loc), tf_n tf_kt g M_X3_become T s.heap T H locs → ∀ (ls : Array Slot), lv_has ls 3 [(0, .ref a0), (1, .ref a1), (2, .int (Int32.ofInt x2_92))] → W p l e R s m args below meth c H locs 0 0 Q (F0 m 92 ls []) := by
    intro n_92
    induction n_92 with
    | zero =>
      intro x2_92 hx2_92 hm_92
      exfalso; omega
    | succ n_92 ih_92 =>
      intro x2_92 hx2_92 hm_92 H locs hW  ls hl
      refine lv_iload_n hx hb dX3_become_92 rfl (lv_at hl 2 rfl) ?_
      refine tf_bipush hx hb dX3_become_93 (by decide) ?_
      refine tf_icmp_ge (tgt := 116) hx hb ⟨by omega, by omega⟩ ⟨by decide, by decide⟩ dX3_become_95 (by decide) (fun h1 => ?_) (fun h1 => ?_)
      · refine lv_aload_n hx hb dX3_become_116 rfl (lv_at hl 0 rfl) ?_
        refine lv_aload_n hx hb dX3_become_117 rfl (lv_at hl 1 rfl) ?_
        refine tf_get hx hb hts inlX3 hown hK (ci := 3) rfl hW ha1 rfl 8 rfl (by decide) (hts _ fl_X3_51) dX3_become_118 (fun v2 hv2 hsv2 => ?_)
        obtain ⟨z3, rfl, hz3⟩ := tf_v0 hv2
        refine tf_put hx hb hts inlX3 tyX3 tyX3_ok nmX3 hown hK (ci := 3) rfl hW ha0 rfl rfl 8 rfl (by decide) (by decide) (hts _ fl_X3_51) rfl (tf_u0 (by omega) (by omega)) rfl rfl dX3_become_121 (fun H4 locs4 hW hs4 ht4 hq4 => ?_)
        refine lv_aload_n hx hb dX3_become_124 rfl (lv_at hl 0 rfl) ?_
        refine lv_aload_n hx hb dX3_become_125 rfl (lv_at hl 1 rfl) ?_
        refine tf_get hx hb hts inlX3 hown hK (ci := 3) rfl hW ha1 rfl 9 rfl (by decide) (hts _ fl_X3_55) dX3_become_126 (fun v5 hv5 hsv5 => ?_)
        obtain ⟨z6, rfl, hz6⟩ := tf_v0 hv5
        refine tf_put hx hb hts inlX3 tyX3 tyX3_ok nmX3 hown hK (ci := 3) rfl hW ha0 rfl rfl 9 rfl (by decide) (by decide) (hts _ fl_X3_55) rfl (tf_u0 (by omega) (by omega)) rfl rfl dX3_become_129 (fun H7 locs7 hW hs7 ht7 hq7 => ?_)
        refine lv_aload_n hx hb dX3_become_132 rfl (lv_at hl 1 rfl) ?_
        refine tf_get hx hb hts inlX3 hown hK (ci := 3) rfl hW ha1 rfl 10 rfl (by decide) (hts _ fl_X3_58) dX3_become_133 (fun v8 hv8 hsv8 => ?_)
        obtain ⟨ad9, rfl, had9⟩ := tf_v1 hv8
        refine tf_iconst hx hb dX3_become_136 ?_
        refine lv_aload_n hx hb dX3_become_137 rfl (lv_at hl 0 rfl) ?_
        refine tf_get hx hb hts inlX3 hown hK (ci := 3) rfl hW ha0 rfl 10 rfl (by decide) (hts _ fl_X3_58) dX3_become_138 (fun v10 hv10 hsv10 => ?_)
        obtain ⟨ad11, rfl, had11⟩ := tf_v1 hv10
        refine tf_iconst hx hb dX3_become_141 ?_
        refine tf_bipush hx hb dX3_become_142 (by decide) ?_
        refine tf_acopy (t0 := 0) hx hb hml hl hown (hts _ (tw56 (i := 6) rfl)) (hts _ (tw26 (i := 18) rfl)) (hts _ (tw26 (i := 19) rfl)) (hts _ (tw26 (i := 20) rfl)) hK hW had9 had11 rfl rfl rfl (by decide) (by omega) (by omega) (by omega) (by omega) (by omega) (Nat.le_of_ble_eq_true rfl) (Nat.le_trans (by decide) hR1) (Nat.le_trans (by decide) hR2) dX3_become_144 (fun H12 locs12 hW hq12 => ?_)
        refine lv_aload_n hx hb dX3_become_147 rfl (lv_at hl 0 rfl) ?_
        refine lv_aload_n hx hb dX3_become_148 rfl (lv_at hl 1 rfl) ?_
        refine tf_get hx hb hts inlX3 hown hK (ci := 3) rfl hW ha1 rfl 11 rfl (by decide) (hts _ fl_X3_61) dX3_become_149 (fun v13 hv13 hsv13 => ?_)
        obtain ⟨z14, rfl, hz14⟩ := tf_v0 hv13
        refine tf_put hx hb hts inlX3 tyX3 tyX3_ok nmX3 hown hK (ci := 3) rfl hW ha0 rfl rfl 11 rfl (by decide) (by decide) (hts _ fl_X3_61) rfl (tf_u0 (by omega) (by omega)) rfl rfl dX3_become_152 (fun H15 locs15 hW hs15 ht15 hq15 => ?_)
        exact tf_retv hx hb hr hlocks hQ hW trivial dX3_become_155
      · refine lv_aload_n hx hb dX3_become_98 rfl (lv_at hl 0 rfl) ?_
        refine tf_get hx hb hts inlX3 hown hK (ci := 3) rfl hW ha0 rfl 7 rfl (by decide) (hts _ fl_X3_47) dX3_become_99 (fun v16 hv16 hsv16 => ?_)
        obtain ⟨ad17, rfl, had17⟩ := tf_v1 hv16
        refine lv_iload_n hx hb dX3_become_102 rfl (lv_at hl 2 rfl) ?_
        refine lv_aload_n hx hb dX3_become_103 rfl (lv_at hl 1 rfl) ?_
        refine tf_get hx hb hts inlX3 hown hK (ci := 3) rfl hW ha1 rfl 7 rfl (by decide) (hts _ fl_X3_47) dX3_become_104 (fun v18 hv18 hsv18 => ?_)
        obtain ⟨ad19, rfl, had19⟩ := tf_v1 hv18
        refine lv_iload_n hx hb dX3_become_107 rfl (lv_at hl 2 rfl) ?_
        refine tf_aald (t0 := 4) hx hb hK hW had19 rfl rfl rfl (by omega) (by omega) dX3_become_108 (fun v20 hv20 hsv20 => ?_)
        rcases tf_v2 hv20 with rfl | ⟨ad21, rfl, had21⟩
        · refine tf_aastN (t0 := 4) hx hb hK hW had17 rfl rfl (by omega) (by omega) (by decide) dX3_become_109 (fun H22 locs22 hW hs22 ht22 hq22 => ?_)
          refine lv_iinc (v := Int32.ofInt ((x2_92 + 1))) (lv' := [(2, .int (Int32.ofInt ((x2_92 + 1)))), (0, .ref a0), (1, .ref a1)]) hx hb dX3_become_110 hl (k := 2) rfl (Int32.ofInt_add _ _).symm (by decide) rfl (fun ls hl => ?_)
          refine lv_goto (tgt := 92) hx hb dX3_become_113 (by decide) ?_
          exact ih_92 ((x2_92 + 1)) ⟨by omega, by omega⟩ (by omega) _ _ hW  _ (lv_sub hl [1, 2, 0] rfl)
        · refine tf_aast (t0 := 4) (ci := 1) hx hb hK hW had17 rfl rfl had21 rfl rfl (by omega) (by omega) (by decide) dX3_become_109 (fun H23 locs23 hW hs23 ht23 hq23 => ?_)
          refine lv_iinc (v := Int32.ofInt ((x2_92 + 1))) (lv' := [(2, .int (Int32.ofInt ((x2_92 + 1)))), (0, .ref a0), (1, .ref a1)]) hx hb dX3_become_110 hl (k := 2) rfl (Int32.ofInt_add _ _).symm (by decide) rfl (fun ls hl => ?_)
          refine lv_goto (tgt := 92) hx hb dX3_become_113 (by decide) ?_
          exact ih_92 ((x2_92 + 1)) ⟨by omega, by omega⟩ (by omega) _ _ hW  _ (lv_sub hl [1, 2, 0] rfl)
  refine tf_enter (As := [.ref a0, .ref a1]) hargs (Nat.le_of_ble_eq_true rfl) (fun ls hl => ?_)
  have hl : lv_has ls 3 [(0, .ref a0), (1, .ref a1)] := hl
  refine lv_aload_n hx hb dX3_become_0 rfl (lv_at hl 0 rfl) ?_
  refine tf_get hx hb hts inlX3 hown hK (ci := 3) rfl hW ha0 rfl 0 rfl (by decide) (hts _ fl_X3_12) dX3_become_1 (fun v24 hv24 hsv24 => ?_)
  obtain ⟨ad25, rfl, had25⟩ := tf_v1 hv24
  refine lv_aload_n hx hb dX3_become_4 rfl (lv_at hl 1 rfl) ?_
  refine tf_get hx hb hts inlX3 hown hK (ci := 3) rfl hW ha1 rfl 0 rfl (by decide) (hts _ fl_X3_12) dX3_become_5 (fun v26 hv26 hsv26 => ?_)
  obtain ⟨ad27, rfl, had27⟩ := tf_v1 hv26
  refine tf_callv (va_runV (As := [.ref ad27]) (rest := []) ⟨hx, hb, hml, hown, hts⟩ (c_X0_become l g T ad25 had25 ad27 had27) (cwV 1 hts gv_X3_64 rfl rfl rfl hd_X0_become ⟨Nat.le_trans (by decide) hR1, Nat.le_trans (by decide) hR2⟩) (tf_preV hk hW had25 (ci := 0) rfl rfl trivial) rfl rfl hl.1 rfl (lv_room (Nat.le_of_ble_eq_true rfl)) dX3_become_8 ⟨Nat.zero_le _, Nat.zero_le _⟩) hW (by decide) (fun H28 locs28 hW hF28 hp28 => ?_)
  refine lv_aload_n hx hb dX3_become_11 rfl (lv_at hl 0 rfl) ?_
  refine tf_get hx hb hts inlX3 hown hK (ci := 3) rfl hW ha0 rfl 1 rfl (by decide) (hts _ fl_X3_21) dX3_become_12 (fun v29 hv29 hsv29 => ?_)
  obtain ⟨ad30, rfl, had30⟩ := tf_v1 hv29
  refine lv_aload_n hx hb dX3_become_15 rfl (lv_at hl 1 rfl) ?_
  refine tf_get hx hb hts inlX3 hown hK (ci := 3) rfl hW ha1 rfl 1 rfl (by decide) (hts _ fl_X3_21) dX3_become_16 (fun v31 hv31 hsv31 => ?_)
  obtain ⟨ad32, rfl, had32⟩ := tf_v1 hv31
  refine tf_callv (va_runV (As := [.ref ad32]) (rest := []) ⟨hx, hb, hml, hown, hts⟩ (c_X5_become l g T ad30 had30 ad32 had32) (cwV 1 hts gv_X3_68 rfl rfl rfl hd_X5_become ⟨Nat.le_trans (by decide) hR1, Nat.le_trans (by decide) hR2⟩) (tf_preV hk hW had30 (ci := 5) rfl rfl trivial) rfl rfl hl.1 rfl (lv_room (Nat.le_of_ble_eq_true rfl)) dX3_become_19 ⟨Nat.zero_le _, Nat.zero_le _⟩) hW (by decide) (fun H33 locs33 hW hF33 hp33 => ?_)
  refine lv_aload_n hx hb dX3_become_22 rfl (lv_at hl 0 rfl) ?_
  refine tf_get hx hb hts inlX3 hown hK (ci := 3) rfl hW ha0 rfl 2 rfl (by decide) (hts _ fl_X3_28) dX3_become_23 (fun v34 hv34 hsv34 => ?_)
  obtain ⟨ad35, rfl, had35⟩ := tf_v1 hv34
  refine lv_aload_n hx hb dX3_become_26 rfl (lv_at hl 1 rfl) ?_
  refine tf_get hx hb hts inlX3 hown hK (ci := 3) rfl hW ha1 rfl 2 rfl (by decide) (hts _ fl_X3_28) dX3_become_27 (fun v36 hv36 hsv36 => ?_)
  obtain ⟨ad37, rfl, had37⟩ := tf_v1 hv36
  refine tf_callv (va_runV (As := [.ref ad37]) (rest := []) ⟨hx, hb, hml, hown, hts⟩ (c_X8_become l g T ad35 had35 ad37 had37) (cwV 1 hts gv_X3_71 rfl rfl rfl hd_X8_become ⟨Nat.le_trans (by decide) hR1, Nat.le_trans (by decide) hR2⟩) (tf_preV hk hW had35 (ci := 8) rfl rfl trivial) rfl rfl hl.1 rfl (lv_room (Nat.le_of_ble_eq_true rfl)) dX3_become_30 ⟨Nat.zero_le _, Nat.zero_le _⟩) hW (by decide) (fun H38 locs38 hW hF38 hp38 => ?_)
  refine lv_aload_n hx hb dX3_become_33 rfl (lv_at hl 1 rfl) ?_
  refine tf_get hx hb hts inlX3 hown hK (ci := 3) rfl hW ha1 rfl 3 rfl (by decide) (hts _ fl_X3_32) dX3_become_34 (fun v39 hv39 hsv39 => ?_)
  obtain ⟨ad40, rfl, had40⟩ := tf_v1 hv39
  refine tf_iconst hx hb dX3_become_37 ?_
  refine lv_aload_n hx hb dX3_become_38 rfl (lv_at hl 0 rfl) ?_
  refine tf_get hx hb hts inlX3 hown hK (ci := 3) rfl hW ha0 rfl 3 rfl (by decide) (hts _ fl_X3_32) dX3_become_39 (fun v41 hv41 hsv41 => ?_)
  obtain ⟨ad42, rfl, had42⟩ := tf_v1 hv41
  refine tf_iconst hx hb dX3_become_42 ?_
  refine tf_iconst hx hb dX3_become_43 ?_
  refine tf_acopy (t0 := 0) hx hb hml hl hown (hts _ (tw56 (i := 6) rfl)) (hts _ (tw26 (i := 18) rfl)) (hts _ (tw26 (i := 19) rfl)) (hts _ (tw26 (i := 20) rfl)) hK hW had40 had42 rfl rfl rfl (by decide) (by omega) (by omega) (by omega) (by omega) (by omega) (Nat.le_of_ble_eq_true rfl) (Nat.le_trans (by decide) hR1) (Nat.le_trans (by decide) hR2) dX3_become_44 (fun H43 locs43 hW hq43 => ?_)
  refine lv_aload_n hx hb dX3_become_47 rfl (lv_at hl 1 rfl) ?_
  refine tf_get hx hb hts inlX3 hown hK (ci := 3) rfl hW ha1 rfl 4 rfl (by decide) (hts _ fl_X3_36) dX3_become_48 (fun v44 hv44 hsv44 => ?_)
  obtain ⟨ad45, rfl, had45⟩ := tf_v1 hv44
  refine tf_iconst hx hb dX3_become_51 ?_
  refine lv_aload_n hx hb dX3_become_52 rfl (lv_at hl 0 rfl) ?_
  refine tf_get hx hb hts inlX3 hown hK (ci := 3) rfl hW ha0 rfl 4 rfl (by decide) (hts _ fl_X3_36) dX3_become_53 (fun v46 hv46 hsv46 => ?_)
  obtain ⟨ad47, rfl, had47⟩ := tf_v1 hv46
  refine tf_iconst hx hb dX3_become_56 ?_
  refine tf_iconst hx hb dX3_become_57 ?_
  refine tf_acopy (t0 := 0) hx hb hml hl hown (hts _ (tw56 (i := 6) rfl)) (hts _ (tw26 (i := 18) rfl)) (hts _ (tw26 (i := 19) rfl)) (hts _ (tw26 (i := 20) rfl)) hK hW had45 had47 rfl rfl rfl (by decide) (by omega) (by omega) (by omega) (by omega) (by omega) (Nat.le_of_ble_eq_true rfl) (Nat.le_trans (by decide) hR1) (Nat.le_trans (by decide) hR2) dX3_become_58 (fun H48 locs48 hW hq48 => ?_)
  refine lv_aload_n hx hb dX3_become_61 rfl (lv_at hl 1 rfl) ?_
  refine tf_get hx hb hts inlX3 hown hK (ci := 3) rfl hW ha1 rfl 5 rfl (by decide) (hts _ fl_X3_39) dX3_become_62 (fun v49 hv49 hsv49 => ?_)
  obtain ⟨ad50, rfl, had50⟩ := tf_v1 hv49
  refine tf_iconst hx hb dX3_become_65 ?_
  refine lv_aload_n hx hb dX3_become_66 rfl (lv_at hl 0 rfl) ?_
  refine tf_get hx hb hts inlX3 hown hK (ci := 3) rfl hW ha0 rfl 5 rfl (by decide) (hts _ fl_X3_39) dX3_become_67 (fun v51 hv51 hsv51 => ?_)
  obtain ⟨ad52, rfl, had52⟩ := tf_v1 hv51
  refine tf_iconst hx hb dX3_become_70 ?_
  refine tf_bipush hx hb dX3_become_71 (by decide) ?_
  refine tf_acopy (t0 := 0) hx hb hml hl hown (hts _ (tw56 (i := 6) rfl)) (hts _ (tw26 (i := 18) rfl)) (hts _ (tw26 (i := 19) rfl)) (hts _ (tw26 (i := 20) rfl)) hK hW had50 had52 rfl rfl rfl (by decide) (by omega) (by omega) (by omega) (by omega) (by omega) (Nat.le_of_ble_eq_true rfl) (Nat.le_trans (by decide) hR1) (Nat.le_trans (by decide) hR2) dX3_become_73 (fun H53 locs53 hW hq53 => ?_)
  refine lv_aload_n hx hb dX3_become_76 rfl (lv_at hl 1 rfl) ?_
  refine tf_get hx hb hts inlX3 hown hK (ci := 3) rfl hW ha1 rfl 6 rfl (by decide) (hts _ fl_X3_42) dX3_become_77 (fun v54 hv54 hsv54 => ?_)
  obtain ⟨ad55, rfl, had55⟩ := tf_v1 hv54
  refine tf_iconst hx hb dX3_become_80 ?_
  refine lv_aload_n hx hb dX3_become_81 rfl (lv_at hl 0 rfl) ?_
  refine tf_get hx hb hts inlX3 hown hK (ci := 3) rfl hW ha0 rfl 6 rfl (by decide) (hts _ fl_X3_42) dX3_become_82 (fun v56 hv56 hsv56 => ?_)
  obtain ⟨ad57, rfl, had57⟩ := tf_v1 hv56
  refine tf_iconst hx hb dX3_become_85 ?_
  refine tf_iconst hx hb dX3_become_86 ?_
  refine tf_acopy (t0 := 0) hx hb hml hl hown (hts _ (tw56 (i := 6) rfl)) (hts _ (tw26 (i := 18) rfl)) (hts _ (tw26 (i := 19) rfl)) (hts _ (tw26 (i := 20) rfl)) hK hW had55 had57 rfl rfl rfl (by decide) (by omega) (by omega) (by omega) (by omega) (by omega) (Nat.le_of_ble_eq_true rfl) (Nat.le_trans (by decide) hR1) (Nat.le_trans (by decide) hR2) dX3_become_87 (fun H58 locs58 hW hq58 => ?_)
  refine tf_iconst hx hb dX3_become_90 ?_
  refine lv_istore_n (lv' := [(2, .int (Int32.ofInt 0)), (0, .ref a0), (1, .ref a1)]) hx hb dX3_become_91 rfl hl (by decide) rfl (fun ls hl => ?_)
  exact j_92 ((6 - 0 + 1 : Int)).toNat (0) ⟨by omega, by omega⟩ (by omega) _ _ hW  _ (lv_sub hl [1, 2, 0] rfl)

abbrev M_X3_groundCells : List (Nat × Nat) := []
set_option maxHeartbeats 4000000 in
set_option maxRecDepth 100000 in
theorem c_X3_groundCells (l : Launch) (g : tf_G) (T : tf_T) (a0 : Nat) (ha0 : T a0 = some (20, 0)) : Met l yX3_groundCells (cd_X3_groundCells :: wsL_law) ({ frames := 4, cells := 0, slots := 0, locals := 86 }) (tf_P g T [.ref a0] (fun H => True)) (tf_Qi g M_X3_groundCells T (fun z _ _ => (-2147483648) ≤ z ∧ z ≤ 2147483647)) 0 0 (fun q => tf_B g ≤ q) := by
  refine Met.ofW (cc := cX3_groundCells) (maxL := 3) (ret := (some .int)) (by decide) rfl ?_
  intro p e s m args below meth c s₁ B hml hv
  obtain ⟨hargs, hk, hW0, hB, hpre⟩ := hv
  have hx := B.exec
  have hb := B.bytes
  have hr := B.returns
  have hts : ∀ w ∈ wsL_law, w.before args s = true := fun w h => atoms_spec (ws := cd_X3_groundCells :: wsL_law) B.pre w (List.mem_cons_of_mem _ h)
  have hown : s.vm.findClass RX3 = some m.cls := findClass_of_methodNamed B.named
  have hlocks := B.notSynchronized
  have hK := hk.1
  have hW := tf_n.start (M := M_X3_groundCells) hW0 hB
  obtain ⟨Q, hQ⟩ : ∃ q, q = MQ below (tf_Qi g M_X3_groundCells T (fun z _ _ => (-2147483648) ≤ z ∧ z ≤ 2147483647)) args s 0 0 (fun q => tf_B g ≤ q) := ⟨_, rfl⟩
  rw [← hQ]
  obtain ⟨R, hR⟩ : ∃ q, q = (headSpec (cd_X3_groundCells :: wsL_law) ({ frames := 4, cells := 0, slots := 0, locals := 86 })).room := ⟨_, rfl⟩
  rw [← hR]
  have hR1 : 4 ≤ R.frames := by rw [hR]; exact Nat.le_refl _
  have hR2 : 86 ≤ R.locals := by rw [hR]; exact Nat.le_refl _
  have hR3 : 0 ≤ R.cells := by rw [hR]; exact Nat.le_refl _
  have hR4 : 0 ≤ R.slots := by rw [hR]; exact Nat.le_refl _
  have hin := (name_of_methodNamed B.named B.method).1
  clear hR B
  have j_4 : ∀ (n_4 : Nat), ∀ (x1_4 : Int), (-2147483648) ≤ x1_4 ∧ x1_4 ≤ 2147483647 → ∀ (x2_4 : Int), 0 ≤ x2_4 ∧ x2_4 ≤ 100 → (100 - x2_4 + 1 ≤ (n_4 : Int)) → ∀ (H : Heap) (locs : List Loc), tf_n tf_kt g M_X3_groundCells T s.heap T H locs → ∀ (ls : Array Slot), lv_has ls 3 [(0, .ref a0), (1, .int (Int32.ofInt x1_4)), (2, .int (Int32.ofInt x2_4))] → W p l e R s m args below meth c H locs 0 0 Q (F0 m 4 ls []) := by
    intro n_4
    induction n_4 with
    | zero =>
      intro x1_4 hx1_4 x2_4 hx2_4 hm_4
      exfalso; omega
    | succ n_4 ih_4 =>
      intro x1_4 hx1_4 x2_4 hx2_4 hm_4 H locs hW  ls hl
      have j_24 : 0 ≤ x2_4 ∧ x2_4 ≤ 99 → (-2147483648) ≤ x1_4 ∧ x1_4 ≤ 2147483647 → ∀ (y1_24 : Int), 0 ≤ y1_24 ∧ y1_24 ≤ 1 → ∀ (H : Heap) (locs : List Loc), tf_n tf_kt g M_X3_groundCells T s.heap T H locs → ∀ (ls : Array Slot), lv_has ls 3 [(0, .ref a0), (2, .int (Int32.ofInt x2_4))] → W p l e R s m args below meth c H locs 0 0 Q (F0 m 24 ls [.int (Int32.ofInt y1_24), .int (Int32.ofInt x1_4)]) := by
        intro hx2_24 hy0_24 y1_24 hy1_24 H locs hW  ls hl
        refine tf_iadd_any hx hb dX3_groundCells_24 (fun z1 hz1 => ?_)
        refine lv_istore_n (lv' := [(1, .int (Int32.ofInt z1)), (0, .ref a0), (2, .int (Int32.ofInt x2_4))]) hx hb dX3_groundCells_25 rfl hl (by decide) rfl (fun ls hl => ?_)
        refine lv_iinc (v := Int32.ofInt ((x2_4 + 1))) (lv' := [(2, .int (Int32.ofInt ((x2_4 + 1)))), (1, .int (Int32.ofInt z1)), (0, .ref a0)]) hx hb dX3_groundCells_26 hl (k := 2) rfl (Int32.ofInt_add _ _).symm (by decide) rfl (fun ls hl => ?_)
        refine lv_goto (tgt := 4) hx hb dX3_groundCells_29 (by decide) ?_
        exact ih_4 (z1) ⟨by omega, by omega⟩ ((x2_4 + 1)) ⟨by omega, by omega⟩ (by omega) _ _ hW  _ (lv_sub hl [2, 1, 0] rfl)
      refine lv_iload_n hx hb dX3_groundCells_4 rfl (lv_at hl 2 rfl) ?_
      refine tf_bipush hx hb dX3_groundCells_5 (by decide) ?_
      refine tf_icmp_ge (tgt := 32) hx hb ⟨by omega, by omega⟩ ⟨by decide, by decide⟩ dX3_groundCells_7 (by decide) (fun h2 => ?_) (fun h2 => ?_)
      · refine lv_iload_n hx hb dX3_groundCells_32 rfl (lv_at hl 1 rfl) ?_
        exact tf_reti (z := x1_4) hx hb hr hlocks hQ hW (show (-2147483648) ≤ (x1_4) ∧ (x1_4) ≤ 2147483647 by omega) dX3_groundCells_33
      · refine lv_iload_n hx hb dX3_groundCells_10 rfl (lv_at hl 1 rfl) ?_
        refine lv_aload_n hx hb dX3_groundCells_11 rfl (lv_at hl 0 rfl) ?_
        refine lv_iload_n hx hb dX3_groundCells_12 rfl (lv_at hl 2 rfl) ?_
        refine tf_calli (va_runV (As := [.int (Int32.ofInt x2_4)]) (rest := [.int (Int32.ofInt x1_4)]) ⟨hx, hb, hml, hown, hts⟩ (c_X3_isGround l g T a0 ha0 (x2_4) ⟨by omega, by omega⟩) (cwV 1 hts gv_X3_91 rfl rfl rfl hd_X3_isGround ⟨Nat.le_trans (by decide) hR1, Nat.le_trans (by decide) hR2⟩) (tf_preV hk hW ha0 (ci := 3) rfl rfl trivial) rfl rfl hl.1 rfl (lv_room (Nat.le_of_ble_eq_true rfl)) dX3_groundCells_13 ⟨Nat.zero_le _, Nat.zero_le _⟩) hW (by decide) (fun z3 H3 locs3 hW hF3 hp3 => ?_)
        rcases hp3 with ⟨rfl, h4, h5⟩ | ⟨rfl⟩
        · refine tf_if_eq (tgt := 23) hx hb ⟨by decide, by decide⟩ dX3_groundCells_16 (by decide) (fun h6 => ?_) (fun h6 => ?_)
          · exfalso; omega
          · refine tf_iconst hx hb dX3_groundCells_19 ?_
            refine lv_goto (tgt := 24) hx hb dX3_groundCells_20 (by decide) ?_
            exact j_24 ⟨by omega, by omega⟩ ⟨by omega, by omega⟩ (1) ⟨by omega, by omega⟩ _ _ hW  _ (lv_sub hl [0, 2] rfl)
        · refine tf_if_eq (tgt := 23) hx hb ⟨by decide, by decide⟩ dX3_groundCells_16 (by decide) (fun h7 => ?_) (fun h7 => ?_)
          · refine tf_iconst hx hb dX3_groundCells_23 ?_
            exact j_24 ⟨by omega, by omega⟩ ⟨by omega, by omega⟩ (0) ⟨by omega, by omega⟩ _ _ hW  _ (lv_sub hl [0, 2] rfl)
          · exfalso; omega
  refine tf_enter (As := [.ref a0]) hargs (Nat.le_of_ble_eq_true rfl) (fun ls hl => ?_)
  have hl : lv_has ls 3 [(0, .ref a0)] := hl
  refine tf_iconst hx hb dX3_groundCells_0 ?_
  refine lv_istore_n (lv' := [(1, .int (Int32.ofInt 0)), (0, .ref a0)]) hx hb dX3_groundCells_1 rfl hl (by decide) rfl (fun ls hl => ?_)
  refine tf_iconst hx hb dX3_groundCells_2 ?_
  refine lv_istore_n (lv' := [(2, .int (Int32.ofInt 0)), (1, .int (Int32.ofInt 0)), (0, .ref a0)]) hx hb dX3_groundCells_3 rfl hl (by decide) rfl (fun ls hl => ?_)
  exact j_4 ((100 - 0 + 1 : Int)).toNat (0) ⟨by omega, by omega⟩ (0) ⟨by omega, by omega⟩ (by omega) _ _ hW  _ (lv_sub hl [2, 1, 0] rfl)

abbrev M_X3_hasPlaceIn : List (Nat × Nat) := []
set_option maxHeartbeats 4000000 in
set_option maxRecDepth 100000 in
theorem c_X3_hasPlaceIn (l : Launch) (g : tf_G) (T : tf_T) (a0 : Nat) (ha0 : T a0 = some (20, 0)) (x1 : Int) (hp1 : (-2147483648) ≤ x1 ∧ x1 ≤ 2147483647) : Met l yX3_hasPlaceIn (cd_X3_hasPlaceIn :: wsL_law) ({ frames := 1, cells := 0, slots := 0, locals := 24 }) (tf_P g T [.ref a0, .int (Int32.ofInt x1)] (fun H => True)) (tf_Qi g M_X3_hasPlaceIn T (fun z _ _ => z = 0 ∨ z = 1)) 0 0 (fun q => tf_B g ≤ q) := by
  refine Met.ofW (cc := cX3_hasPlaceIn) (maxL := 3) (ret := (some .boolean)) (by decide) rfl ?_
  intro p e s m args below meth c s₁ B hml hv
  obtain ⟨hargs, hk, hW0, hB, hpre⟩ := hv
  have hx := B.exec
  have hb := B.bytes
  have hr := B.returns
  have hts : ∀ w ∈ wsL_law, w.before args s = true := fun w h => atoms_spec (ws := cd_X3_hasPlaceIn :: wsL_law) B.pre w (List.mem_cons_of_mem _ h)
  have hown : s.vm.findClass RX3 = some m.cls := findClass_of_methodNamed B.named
  have hlocks := B.notSynchronized
  have hK := hk.1
  have hW := tf_n.start (M := M_X3_hasPlaceIn) hW0 hB
  obtain ⟨Q, hQ⟩ : ∃ q, q = MQ below (tf_Qi g M_X3_hasPlaceIn T (fun z _ _ => z = 0 ∨ z = 1)) args s 0 0 (fun q => tf_B g ≤ q) := ⟨_, rfl⟩
  rw [← hQ]
  obtain ⟨R, hR⟩ : ∃ q, q = (headSpec (cd_X3_hasPlaceIn :: wsL_law) ({ frames := 1, cells := 0, slots := 0, locals := 24 })).room := ⟨_, rfl⟩
  rw [← hR]
  have hR1 : 1 ≤ R.frames := by rw [hR]; exact Nat.le_refl _
  have hR2 : 24 ≤ R.locals := by rw [hR]; exact Nat.le_refl _
  have hR3 : 0 ≤ R.cells := by rw [hR]; exact Nat.le_refl _
  have hR4 : 0 ≤ R.slots := by rw [hR]; exact Nat.le_refl _
  have hin := (name_of_methodNamed B.named B.method).1
  clear hR B
  have j_2 : ∀ (n_2 : Nat), (-2147483648) ≤ x1 ∧ x1 ≤ 2147483647 → ∀ (x2_2 : Int), 0 ≤ x2_2 ∧ x2_2 ≤ 12 → (12 - x2_2 + 1 ≤ (n_2 : Int)) → ∀ (H : Heap) (locs : List Loc), tf_n tf_kt g M_X3_hasPlaceIn T s.heap T H locs → ∀ (ls : Array Slot), lv_has ls 3 [(0, .ref a0), (1, .int (Int32.ofInt x1)), (2, .int (Int32.ofInt x2_2))] → W p l e R s m args below meth c H locs 0 0 Q (F0 m 2 ls []) := by
    intro n_2
    induction n_2 with
    | zero =>
      intro hx1_2 x2_2 hx2_2 hm_2
      exfalso; omega
    | succ n_2 ih_2 =>
      intro hx1_2 x2_2 hx2_2 hm_2 H locs hW  ls hl
      refine lv_iload_n hx hb dX3_hasPlaceIn_2 rfl (lv_at hl 2 rfl) ?_
      refine lv_aload_n hx hb dX3_hasPlaceIn_3 rfl (lv_at hl 0 rfl) ?_
      refine tf_get hx hb hts inlX3 hown hK (ci := 3) rfl hW ha0 rfl 11 rfl (by decide) (hts _ fl_X3_61) dX3_hasPlaceIn_4 (fun v1 hv1 hsv1 => ?_)
      obtain ⟨z2, rfl, hz2⟩ := tf_v0 hv1
      refine tf_icmp_ge (tgt := 28) hx hb ⟨by omega, by omega⟩ ⟨by omega, by omega⟩ dX3_hasPlaceIn_7 (by decide) (fun h3 => ?_) (fun h3 => ?_)
      · refine tf_iconst hx hb dX3_hasPlaceIn_28 ?_
        exact tf_retz (z := 0) hx hb hr hlocks hQ hW (by omega) (show (0) = 0 ∨ (0) = 1 by omega) dX3_hasPlaceIn_29
      · refine lv_aload_n hx hb dX3_hasPlaceIn_10 rfl (lv_at hl 0 rfl) ?_
        refine tf_get hx hb hts inlX3 hown hK (ci := 3) rfl hW ha0 rfl 10 rfl (by decide) (hts _ fl_X3_58) dX3_hasPlaceIn_11 (fun v4 hv4 hsv4 => ?_)
        obtain ⟨ad5, rfl, had5⟩ := tf_v1 hv4
        refine lv_iload_n hx hb dX3_hasPlaceIn_14 rfl (lv_at hl 2 rfl) ?_
        refine tf_iald (t0 := 0) hx hb hK hW had5 rfl rfl (by omega) (by omega) dX3_hasPlaceIn_15 (fun v6 hv6 hsv6 => ?_)
        obtain ⟨z7, rfl, hz7⟩ := tf_v0 hv6
        refine lv_iload_n hx hb dX3_hasPlaceIn_16 rfl (lv_at hl 1 rfl) ?_
        refine tf_icmp_ne (tgt := 22) hx hb ⟨by omega, by omega⟩ ⟨by omega, by omega⟩ dX3_hasPlaceIn_17 (by decide) (fun h8 => ?_) (fun h8 => ?_)
        · refine lv_iinc (v := Int32.ofInt ((x2_2 + 1))) (lv' := [(2, .int (Int32.ofInt ((x2_2 + 1)))), (0, .ref a0), (1, .int (Int32.ofInt x1))]) hx hb dX3_hasPlaceIn_22 hl (k := 2) rfl (Int32.ofInt_add _ _).symm (by decide) rfl (fun ls hl => ?_)
          refine lv_goto (tgt := 2) hx hb dX3_hasPlaceIn_25 (by decide) ?_
          exact ih_2 ⟨by omega, by omega⟩ ((x2_2 + 1)) ⟨by omega, by omega⟩ (by omega) _ _ hW  _ (lv_sub hl [1, 2, 0] rfl)
        · refine tf_iconst hx hb dX3_hasPlaceIn_20 ?_
          exact tf_retz (z := 1) hx hb hr hlocks hQ hW (by omega) (show (1) = 0 ∨ (1) = 1 by omega) dX3_hasPlaceIn_21
  refine tf_enter (As := [.ref a0, .int (Int32.ofInt x1)]) hargs (Nat.le_of_ble_eq_true rfl) (fun ls hl => ?_)
  have hl : lv_has ls 3 [(0, .ref a0), (1, .int (Int32.ofInt x1))] := hl
  refine tf_iconst hx hb dX3_hasPlaceIn_0 ?_
  refine lv_istore_n (lv' := [(2, .int (Int32.ofInt 0)), (0, .ref a0), (1, .int (Int32.ofInt x1))]) hx hb dX3_hasPlaceIn_1 rfl hl (by decide) rfl (fun ls hl => ?_)
  exact j_2 ((12 - 0 + 1 : Int)).toNat ⟨by omega, by omega⟩ (0) ⟨by omega, by omega⟩ (by omega) _ _ hW  _ (lv_sub hl [1, 2, 0] rfl)

abbrev M_X3_whyNoTower : List (Nat × Nat) := []
set_option maxHeartbeats 4000000 in
set_option maxRecDepth 100000 in
theorem c_X3_whyNoTower (l : Launch) (g : tf_G) (T : tf_T) (a0 : Nat) (ha0 : T a0 = some (20, 0)) (x1 : Int) (hp1 : (-2147483648) ≤ x1 ∧ x1 ≤ 2147483647) (x2 : Int) (hp2 : (-2147483648) ≤ x2 ∧ x2 ≤ 2147483647) (x3 : Int) (hp3 : (-2147483648) ≤ x3 ∧ x3 ≤ 2147483647) (x4 : Int) (hp4 : (-2147483648) ≤ x4 ∧ x4 ≤ 2147483647) (x5 : Int) (hp5 : (-2147483648) ≤ x5 ∧ x5 ≤ 2147483647) : Met l yX3_whyNoTower (cd_X3_whyNoTower :: wsL_law) ({ frames := 4, cells := 0, slots := 0, locals := 86 }) (tf_P g T [.ref a0, .int (Int32.ofInt x1), .int (Int32.ofInt x2), .int (Int32.ofInt x3), .int (Int32.ofInt x4), .int (Int32.ofInt x5)] (fun H => True)) (tf_Qi g M_X3_whyNoTower T (fun z _ _ => (z = 0 ∧ 0 ≤ x1 ∧ x1 ≤ 9 ∧ 0 ≤ x2 ∧ x2 ≤ 9 ∧ 1 ≤ x3 ∧ x3 ≤ 5 ∧ 1 ≤ x4 ∧ x4 ≤ 5) ∨ ((-5) ≤ z ∧ z ≤ (-1)))) 0 0 (fun q => tf_B g ≤ q) := by
  refine Met.ofW (cc := cX3_whyNoTower) (maxL := 9) (ret := (some .int)) (by decide) rfl ?_
  intro p e s m args below meth c s₁ B hml hv
  obtain ⟨hargs, hk, hW0, hB, hpre⟩ := hv
  have hx := B.exec
  have hb := B.bytes
  have hr := B.returns
  have hts : ∀ w ∈ wsL_law, w.before args s = true := fun w h => atoms_spec (ws := cd_X3_whyNoTower :: wsL_law) B.pre w (List.mem_cons_of_mem _ h)
  have hown : s.vm.findClass RX3 = some m.cls := findClass_of_methodNamed B.named
  have hlocks := B.notSynchronized
  have hK := hk.1
  have hW := tf_n.start (M := M_X3_whyNoTower) hW0 hB
  obtain ⟨Q, hQ⟩ : ∃ q, q = MQ below (tf_Qi g M_X3_whyNoTower T (fun z _ _ => (z = 0 ∧ 0 ≤ x1 ∧ x1 ≤ 9 ∧ 0 ≤ x2 ∧ x2 ≤ 9 ∧ 1 ≤ x3 ∧ x3 ≤ 5 ∧ 1 ≤ x4 ∧ x4 ≤ 5) ∨ ((-5) ≤ z ∧ z ≤ (-1)))) args s 0 0 (fun q => tf_B g ≤ q) := ⟨_, rfl⟩
  rw [← hQ]
  obtain ⟨R, hR⟩ : ∃ q, q = (headSpec (cd_X3_whyNoTower :: wsL_law) ({ frames := 4, cells := 0, slots := 0, locals := 86 })).room := ⟨_, rfl⟩
  rw [← hR]
  have hR1 : 4 ≤ R.frames := by rw [hR]; exact Nat.le_refl _
  have hR2 : 86 ≤ R.locals := by rw [hR]; exact Nat.le_refl _
  have hR3 : 0 ≤ R.cells := by rw [hR]; exact Nat.le_refl _
  have hR4 : 0 ≤ R.slots := by rw [hR]; exact Nat.le_refl _
  have hin := (name_of_methodNamed B.named B.method).1
  clear hR B
  have j_66 : ∀ (n_66 : Nat), 0 ≤ x1 ∧ x1 ≤ 9 → 0 ≤ x2 ∧ x2 ≤ 9 → 1 ≤ x3 ∧ x3 ≤ 5 → 1 ≤ x4 ∧ x4 ≤ 5 → ∀ (x6_66 : Int), 0 ≤ x6_66 ∧ x6_66 ≤ 16 → (16 - x6_66 + 1 ≤ (n_66 : Int)) → ∀ (H : Heap) (locs : List Loc), tf_n tf_kt g M_X3_whyNoTower T s.heap T H locs → ∀ (ls : Array Slot), lv_has ls 9 [(0, .ref a0), (1, .int (Int32.ofInt x1)), (2, .int (Int32.ofInt x2)), (3, .int (Int32.ofInt x3)), (4, .int (Int32.ofInt x4)), (6, .int (Int32.ofInt x6_66))] → W p l e R s m args below meth c H locs 0 0 Q (F0 m 66 ls []) := by
    intro n_66
    induction n_66 with
    | zero =>
      intro hx1_66 hx2_66 hx3_66 hx4_66 x6_66 hx6_66 hm_66
      exfalso; omega
    | succ n_66 ih_66 =>
      intro hx1_66 hx2_66 hx3_66 hx4_66 x6_66 hx6_66 hm_66 H locs hW  ls hl
      have j_78 : ∀ (n_78 : Nat), 0 ≤ x1 ∧ x1 ≤ 9 → 0 ≤ x2 ∧ x2 ≤ 9 → 1 ≤ x3 ∧ x3 ≤ 5 → 1 ≤ x4 ∧ x4 ≤ 5 → 0 ≤ x6_66 ∧ x6_66 ≤ 13 → ∀ (x7_78 : Int), 0 ≤ x7_78 ∧ x7_78 ≤ 16 → (16 - x7_78 + 1 ≤ (n_78 : Int)) → ∀ (H : Heap) (locs : List Loc), tf_n tf_kt g M_X3_whyNoTower T s.heap T H locs → ∀ (ls : Array Slot), lv_has ls 9 [(0, .ref a0), (1, .int (Int32.ofInt x1)), (2, .int (Int32.ofInt x2)), (3, .int (Int32.ofInt x3)), (4, .int (Int32.ofInt x4)), (6, .int (Int32.ofInt x6_66)), (7, .int (Int32.ofInt x7_78))] → W p l e R s m args below meth c H locs 0 0 Q (F0 m 78 ls []) := by
        intro n_78
        induction n_78 with
        | zero =>
          intro hx1_78 hx2_78 hx3_78 hx4_78 hx6_78 x7_78 hx7_78 hm_78
          exfalso; omega
        | succ n_78 ih_78 =>
          intro hx1_78 hx2_78 hx3_78 hx4_78 hx6_78 x7_78 hx7_78 hm_78 H locs hW  ls hl
          refine lv_iload hx hb dX3_whyNoTower_78 (lv_at hl 6 rfl) ?_
          refine lv_iload_n hx hb dX3_whyNoTower_80 rfl (lv_at hl 1 rfl) ?_
          refine lv_iload_n hx hb dX3_whyNoTower_81 rfl (lv_at hl 3 rfl) ?_
          refine tf_iadd hx hb dX3_whyNoTower_82 ?_
          refine tf_icmp_ge (tgt := 135) hx hb ⟨by omega, by omega⟩ ⟨by omega, by omega⟩ dX3_whyNoTower_83 (by decide) (fun h1 => ?_) (fun h1 => ?_)
          · refine lv_iinc (v := Int32.ofInt ((x6_66 + 1))) (lv' := [(6, .int (Int32.ofInt ((x6_66 + 1)))), (0, .ref a0), (1, .int (Int32.ofInt x1)), (2, .int (Int32.ofInt x2)), (3, .int (Int32.ofInt x3)), (4, .int (Int32.ofInt x4)), (7, .int (Int32.ofInt x7_78))]) hx hb dX3_whyNoTower_135 hl (k := 5) rfl (Int32.ofInt_add _ _).symm (by decide) rfl (fun ls hl => ?_)
            refine lv_goto (tgt := 66) hx hb dX3_whyNoTower_138 (by decide) ?_
            exact ih_66 ⟨by omega, by omega⟩ ⟨by omega, by omega⟩ ⟨by omega, by omega⟩ ⟨by omega, by omega⟩ ((x6_66 + 1)) ⟨by omega, by omega⟩ (by omega) _ _ hW  _ (lv_sub hl [1, 2, 3, 4, 5, 0] rfl)
          · refine lv_iload hx hb dX3_whyNoTower_86 (lv_at hl 5 rfl) ?_
            refine tf_bipush hx hb dX3_whyNoTower_88 (by decide) ?_
            refine tf_imul hx hb dX3_whyNoTower_90 ?_
            refine lv_iload hx hb dX3_whyNoTower_91 (lv_at hl 6 rfl) ?_
            refine tf_iadd hx hb dX3_whyNoTower_93 ?_
            refine lv_istore (lv' := [(8, .int (Int32.ofInt (((x6_66 * 10) + x7_78)))), (0, .ref a0), (1, .int (Int32.ofInt x1)), (2, .int (Int32.ofInt x2)), (3, .int (Int32.ofInt x3)), (4, .int (Int32.ofInt x4)), (6, .int (Int32.ofInt x6_66)), (7, .int (Int32.ofInt x7_78))]) hx hb dX3_whyNoTower_94 hl (by decide) rfl (fun ls hl => ?_)
            refine lv_aload_n hx hb dX3_whyNoTower_96 rfl (lv_at hl 1 rfl) ?_
            refine lv_iload hx hb dX3_whyNoTower_97 (lv_at hl 0 rfl) ?_
            refine tf_calli (va_runV (As := [.int (Int32.ofInt (((x6_66 * 10) + x7_78)))]) (rest := []) ⟨hx, hb, hml, hown, hts⟩ (c_X3_isGround l g T a0 ha0 (((x6_66 * 10) + x7_78)) ⟨by omega, by omega⟩) (cwV 1 hts gv_X3_91 rfl rfl rfl hd_X3_isGround ⟨Nat.le_trans (by decide) hR1, Nat.le_trans (by decide) hR2⟩) (tf_preV hk hW ha0 (ci := 3) rfl rfl trivial) rfl rfl hl.1 rfl (lv_room (Nat.le_of_ble_eq_true rfl)) dX3_whyNoTower_99 ⟨Nat.zero_le _, Nat.zero_le _⟩) hW (by decide) (fun z2 H2 locs2 hW hF2 hp2 => ?_)
            rcases hp2 with ⟨rfl, h3, h4⟩ | ⟨rfl⟩
            · refine tf_if_eq (tgt := 126) hx hb ⟨by decide, by decide⟩ dX3_whyNoTower_102 (by decide) (fun h5 => ?_) (fun h5 => ?_)
              · exfalso; omega
              · refine lv_aload_n hx hb dX3_whyNoTower_105 rfl (lv_at hl 1 rfl) ?_
                refine lv_iload hx hb dX3_whyNoTower_106 (lv_at hl 0 rfl) ?_
                refine tf_calli (va_runV (As := [.int (Int32.ofInt (((x6_66 * 10) + x7_78)))]) (rest := []) ⟨hx, hb, hml, hown, hts⟩ (c_X3_hasPlaceIn l g T a0 ha0 (((x6_66 * 10) + x7_78)) ⟨by omega, by omega⟩) (cwV 1 hts gv_X3_101 rfl rfl rfl hd_X3_hasPlaceIn ⟨Nat.le_trans (by decide) hR1, Nat.le_trans (by decide) hR2⟩) (tf_preV hk hW ha0 (ci := 3) rfl rfl trivial) rfl rfl hl.1 rfl (lv_room (Nat.le_of_ble_eq_true rfl)) dX3_whyNoTower_108 ⟨Nat.zero_le _, Nat.zero_le _⟩) hW (by decide) (fun z6 H6 locs6 hW hF6 hp6 => ?_)
                have hp6 : z6 = 0 ∨ z6 = 1 := hp6
                refine tf_if_ne (tgt := 126) hx hb ⟨by omega, by omega⟩ dX3_whyNoTower_111 (by decide) (fun h7 => ?_) (fun h7 => ?_)
                · refine tf_bipush hx hb dX3_whyNoTower_126 (by decide) ?_
                  exact tf_reti (z := (-3)) hx hb hr hlocks hQ hW (show (((-3)) = 0 ∧ 0 ≤ x1 ∧ x1 ≤ 9 ∧ 0 ≤ x2 ∧ x2 ≤ 9 ∧ 1 ≤ x3 ∧ x3 ≤ 5 ∧ 1 ≤ x4 ∧ x4 ≤ 5) ∨ ((-5) ≤ ((-3)) ∧ ((-3)) ≤ (-1)) by omega) dX3_whyNoTower_128
                · refine lv_aload_n hx hb dX3_whyNoTower_114 rfl (lv_at hl 1 rfl) ?_
                  refine tf_get hx hb hts inlX3 hown hK (ci := 3) rfl hW ha0 rfl 2 rfl (by decide) (hts _ fl_X3_28) dX3_whyNoTower_115 (fun v8 hv8 hsv8 => ?_)
                  obtain ⟨ad9, rfl, had9⟩ := tf_v1 hv8
                  refine lv_iload hx hb dX3_whyNoTower_118 (lv_at hl 0 rfl) ?_
                  refine tf_calli (va_runV (As := [.int (Int32.ofInt (((x6_66 * 10) + x7_78)))]) (rest := []) ⟨hx, hb, hml, hown, hts⟩ (c_X8_needCell l g T ad9 had9 (((x6_66 * 10) + x7_78)) ⟨by omega, by omega⟩) (cwV 1 hts gv_X3_104 rfl rfl rfl hd_X8_needCell ⟨Nat.le_trans (by decide) hR1, Nat.le_trans (by decide) hR2⟩) (tf_preV hk hW had9 (ci := 8) rfl rfl trivial) rfl rfl hl.1 rfl (lv_room (Nat.le_of_ble_eq_true rfl)) dX3_whyNoTower_120 ⟨Nat.zero_le _, Nat.zero_le _⟩) hW (by decide) (fun z10 H10 locs10 hW hF10 hp10 => ?_)
                  have hp10 : z10 = 0 ∨ z10 = 1 := hp10
                  refine tf_if_eq (tgt := 129) hx hb ⟨by omega, by omega⟩ dX3_whyNoTower_123 (by decide) (fun h11 => ?_) (fun h11 => ?_)
                  · refine lv_iinc (v := Int32.ofInt ((x7_78 + 1))) (lv' := [(7, .int (Int32.ofInt ((x7_78 + 1)))), (8, .int (Int32.ofInt (((x6_66 * 10) + x7_78)))), (0, .ref a0), (1, .int (Int32.ofInt x1)), (2, .int (Int32.ofInt x2)), (3, .int (Int32.ofInt x3)), (4, .int (Int32.ofInt x4)), (6, .int (Int32.ofInt x6_66))]) hx hb dX3_whyNoTower_129 hl (k := 7) rfl (Int32.ofInt_add _ _).symm (by decide) rfl (fun ls hl => ?_)
                    refine lv_goto (tgt := 78) hx hb dX3_whyNoTower_132 (by decide) ?_
                    exact ih_78 ⟨by omega, by omega⟩ ⟨by omega, by omega⟩ ⟨by omega, by omega⟩ ⟨by omega, by omega⟩ ⟨by omega, by omega⟩ ((x7_78 + 1)) ⟨by omega, by omega⟩ (by omega) _ _ hW  _ (lv_sub hl [2, 3, 4, 5, 6, 7, 0] rfl)
                  · refine tf_bipush hx hb dX3_whyNoTower_126 (by decide) ?_
                    exact tf_reti (z := (-3)) hx hb hr hlocks hQ hW (show (((-3)) = 0 ∧ 0 ≤ x1 ∧ x1 ≤ 9 ∧ 0 ≤ x2 ∧ x2 ≤ 9 ∧ 1 ≤ x3 ∧ x3 ≤ 5 ∧ 1 ≤ x4 ∧ x4 ≤ 5) ∨ ((-5) ≤ ((-3)) ∧ ((-3)) ≤ (-1)) by omega) dX3_whyNoTower_128
            · refine tf_if_eq (tgt := 126) hx hb ⟨by decide, by decide⟩ dX3_whyNoTower_102 (by decide) (fun h12 => ?_) (fun h12 => ?_)
              · refine tf_bipush hx hb dX3_whyNoTower_126 (by decide) ?_
                exact tf_reti (z := (-3)) hx hb hr hlocks hQ hW (show (((-3)) = 0 ∧ 0 ≤ x1 ∧ x1 ≤ 9 ∧ 0 ≤ x2 ∧ x2 ≤ 9 ∧ 1 ≤ x3 ∧ x3 ≤ 5 ∧ 1 ≤ x4 ∧ x4 ≤ 5) ∨ ((-5) ≤ ((-3)) ∧ ((-3)) ≤ (-1)) by omega) dX3_whyNoTower_128
              · exfalso; omega
      refine lv_iload hx hb dX3_whyNoTower_66 (lv_at hl 5 rfl) ?_
      refine lv_iload_n hx hb dX3_whyNoTower_68 rfl (lv_at hl 2 rfl) ?_
      refine lv_iload hx hb dX3_whyNoTower_69 (lv_at hl 4 rfl) ?_
      refine tf_iadd hx hb dX3_whyNoTower_71 ?_
      refine tf_icmp_ge (tgt := 141) hx hb ⟨by omega, by omega⟩ ⟨by omega, by omega⟩ dX3_whyNoTower_72 (by decide) (fun h13 => ?_) (fun h13 => ?_)
      · refine lv_aload_n hx hb dX3_whyNoTower_141 rfl (lv_at hl 0 rfl) ?_
        refine tf_get hx hb hts inlX3 hown hK (ci := 3) rfl hW ha0 rfl 1 rfl (by decide) (hts _ fl_X3_21) dX3_whyNoTower_142 (fun v14 hv14 hsv14 => ?_)
        obtain ⟨ad15, rfl, had15⟩ := tf_v1 hv14
        refine tf_get hx hb hts inlX5 hown hK (ci := 5) rfl hW had15 rfl 4 rfl (by decide) (hts _ fl_X3_107) dX3_whyNoTower_145 (fun v16 hv16 hsv16 => ?_)
        obtain ⟨z17, rfl, hz17⟩ := tf_v0 hv16
        refine tf_bipush hx hb dX3_whyNoTower_148 (by decide) ?_
        refine tf_icmp_lt (tgt := 158) hx hb ⟨by omega, by omega⟩ ⟨by decide, by decide⟩ dX3_whyNoTower_150 (by decide) (fun h18 => ?_) (fun h18 => ?_)
        · refine tf_iconst hx hb dX3_whyNoTower_158 ?_
          exact tf_reti (z := 0) hx hb hr hlocks hQ hW (show ((0) = 0 ∧ 0 ≤ x1 ∧ x1 ≤ 9 ∧ 0 ≤ x2 ∧ x2 ≤ 9 ∧ 1 ≤ x3 ∧ x3 ≤ 5 ∧ 1 ≤ x4 ∧ x4 ≤ 5) ∨ ((-5) ≤ (0) ∧ (0) ≤ (-1)) by omega) dX3_whyNoTower_159
        · refine tf_bipush hx hb dX3_whyNoTower_153 (by decide) ?_
          refine lv_goto (tgt := 159) hx hb dX3_whyNoTower_155 (by decide) ?_
          exact tf_reti (z := (-5)) hx hb hr hlocks hQ hW (show (((-5)) = 0 ∧ 0 ≤ x1 ∧ x1 ≤ 9 ∧ 0 ≤ x2 ∧ x2 ≤ 9 ∧ 1 ≤ x3 ∧ x3 ≤ 5 ∧ 1 ≤ x4 ∧ x4 ≤ 5) ∨ ((-5) ≤ ((-5)) ∧ ((-5)) ≤ (-1)) by omega) dX3_whyNoTower_159
      · refine lv_iload_n hx hb dX3_whyNoTower_75 rfl (lv_at hl 1 rfl) ?_
        refine lv_istore (lv' := [(7, .int (Int32.ofInt x1)), (0, .ref a0), (1, .int (Int32.ofInt x1)), (2, .int (Int32.ofInt x2)), (3, .int (Int32.ofInt x3)), (4, .int (Int32.ofInt x4)), (6, .int (Int32.ofInt x6_66))]) hx hb dX3_whyNoTower_76 hl (by decide) rfl (fun ls hl => ?_)
        exact j_78 ((16 - x1 + 1 : Int)).toNat ⟨by omega, by omega⟩ ⟨by omega, by omega⟩ ⟨by omega, by omega⟩ ⟨by omega, by omega⟩ ⟨by omega, by omega⟩ (x1) ⟨by omega, by omega⟩ (by omega) _ _ hW  _ (lv_sub hl [1, 2, 3, 4, 5, 6, 0] rfl)
  refine tf_enter (As := [.ref a0, .int (Int32.ofInt x1), .int (Int32.ofInt x2), .int (Int32.ofInt x3), .int (Int32.ofInt x4), .int (Int32.ofInt x5)]) hargs (Nat.le_of_ble_eq_true rfl) (fun ls hl => ?_)
  have hl : lv_has ls 9 [(0, .ref a0), (1, .int (Int32.ofInt x1)), (2, .int (Int32.ofInt x2)), (3, .int (Int32.ofInt x3)), (4, .int (Int32.ofInt x4)), (5, .int (Int32.ofInt x5))] := hl
  refine lv_iload_n hx hb dX3_whyNoTower_0 rfl (lv_at hl 1 rfl) ?_
  refine tf_calli (va_runSN (As := [.int (Int32.ofInt x1)]) (rest := []) ⟨hx, hb, hml, hown, hts⟩ (c_X9_isOnEdge l g T (x1) ⟨by omega, by omega⟩) ⟨va_cnB 1 hts (gw_ws cm_X9_isOnEdge) rfl rfl rfl (hk.2.1 _ nw_9) (hts _ (tw1 (i := 2) rfl)) hd_X9_isOnEdge.2 ⟨Nat.le_trans (by decide) hR1, Nat.le_trans (by decide) hR2⟩, hts _ (tw8 (i := 15) rfl), trivial⟩ (tf_preS hk hW trivial) rfl rfl hl.1 rfl (lv_room (Nat.le_of_ble_eq_true rfl)) dX3_whyNoTower_1 ⟨Nat.zero_le _, Nat.zero_le _⟩) hW (by decide) (fun z19 H19 locs19 hW hF19 hp19 => ?_)
  rcases hp19 with ⟨rfl, h20, h21⟩ | ⟨rfl, h22⟩
  · refine tf_if_eq (tgt := 61) hx hb ⟨by decide, by decide⟩ dX3_whyNoTower_4 (by decide) (fun h23 => ?_) (fun h23 => ?_)
    · exfalso; omega
    · refine lv_iload_n hx hb dX3_whyNoTower_7 rfl (lv_at hl 2 rfl) ?_
      refine tf_calli (va_runSN (As := [.int (Int32.ofInt x2)]) (rest := []) ⟨hx, hb, hml, hown, hts⟩ (c_X9_isOnEdge l g T (x2) ⟨by omega, by omega⟩) ⟨va_cnB 1 hts (gw_ws cm_X9_isOnEdge) rfl rfl rfl (hk.2.1 _ nw_9) (hts _ (tw1 (i := 2) rfl)) hd_X9_isOnEdge.2 ⟨Nat.le_trans (by decide) hR1, Nat.le_trans (by decide) hR2⟩, hts _ (tw8 (i := 15) rfl), trivial⟩ (tf_preS hk hW trivial) rfl rfl hl.1 rfl (lv_room (Nat.le_of_ble_eq_true rfl)) dX3_whyNoTower_8 ⟨Nat.zero_le _, Nat.zero_le _⟩) hW (by decide) (fun z24 H24 locs24 hW hF24 hp24 => ?_)
      rcases hp24 with ⟨rfl, h25, h26⟩ | ⟨rfl, h27⟩
      · refine tf_if_eq (tgt := 61) hx hb ⟨by decide, by decide⟩ dX3_whyNoTower_11 (by decide) (fun h28 => ?_) (fun h28 => ?_)
        · exfalso; omega
        · refine lv_iload_n hx hb dX3_whyNoTower_14 rfl (lv_at hl 3 rfl) ?_
          refine tf_iconst hx hb dX3_whyNoTower_15 ?_
          refine tf_iconst hx hb dX3_whyNoTower_16 ?_
          refine tf_calli (va_runSN (As := [.int (Int32.ofInt x3), .int (Int32.ofInt 1), .int (Int32.ofInt 5)]) (rest := []) ⟨hx, hb, hml, hown, hts⟩ (c_X9_isWithin l g T (x3) ⟨by omega, by omega⟩ (1) ⟨by omega, by omega⟩ (5) ⟨by omega, by omega⟩) ⟨va_cnB 3 hts (gw_ws cm_X9_isWithin) rfl rfl rfl (hk.2.1 _ nw_10) (hts _ (tw1 (i := 2) rfl)) hd_X9_isWithin.2 ⟨Nat.le_trans (by decide) hR1, Nat.le_trans (by decide) hR2⟩, hts _ (tw8 (i := 17) rfl), trivial⟩ (tf_preS hk hW trivial) rfl rfl hl.1 rfl (lv_room (Nat.le_of_ble_eq_true rfl)) dX3_whyNoTower_17 ⟨Nat.zero_le _, Nat.zero_le _⟩) hW (by decide) (fun z29 H29 locs29 hW hF29 hp29 => ?_)
          rcases hp29 with ⟨rfl, h30, h31⟩ | ⟨rfl, h32⟩
          · refine tf_if_eq (tgt := 61) hx hb ⟨by decide, by decide⟩ dX3_whyNoTower_20 (by decide) (fun h33 => ?_) (fun h33 => ?_)
            · exfalso; omega
            · refine lv_iload hx hb dX3_whyNoTower_23 (lv_at hl 4 rfl) ?_
              refine tf_iconst hx hb dX3_whyNoTower_25 ?_
              refine tf_iconst hx hb dX3_whyNoTower_26 ?_
              refine tf_calli (va_runSN (As := [.int (Int32.ofInt x4), .int (Int32.ofInt 1), .int (Int32.ofInt 5)]) (rest := []) ⟨hx, hb, hml, hown, hts⟩ (c_X9_isWithin l g T (x4) ⟨by omega, by omega⟩ (1) ⟨by omega, by omega⟩ (5) ⟨by omega, by omega⟩) ⟨va_cnB 3 hts (gw_ws cm_X9_isWithin) rfl rfl rfl (hk.2.1 _ nw_10) (hts _ (tw1 (i := 2) rfl)) hd_X9_isWithin.2 ⟨Nat.le_trans (by decide) hR1, Nat.le_trans (by decide) hR2⟩, hts _ (tw8 (i := 17) rfl), trivial⟩ (tf_preS hk hW trivial) rfl rfl hl.1 rfl (lv_room (Nat.le_of_ble_eq_true rfl)) dX3_whyNoTower_27 ⟨Nat.zero_le _, Nat.zero_le _⟩) hW (by decide) (fun z34 H34 locs34 hW hF34 hp34 => ?_)
              rcases hp34 with ⟨rfl, h35, h36⟩ | ⟨rfl, h37⟩
              · refine tf_if_eq (tgt := 61) hx hb ⟨by decide, by decide⟩ dX3_whyNoTower_30 (by decide) (fun h38 => ?_) (fun h38 => ?_)
                · exfalso; omega
                · refine lv_iload hx hb dX3_whyNoTower_33 (lv_at hl 5 rfl) ?_
                  refine tf_iconst hx hb dX3_whyNoTower_35 ?_
                  refine tf_bipush hx hb dX3_whyNoTower_36 (by decide) ?_
                  refine tf_calli (va_runSN (As := [.int (Int32.ofInt x5), .int (Int32.ofInt 1), .int (Int32.ofInt 40)]) (rest := []) ⟨hx, hb, hml, hown, hts⟩ (c_X9_isWithin l g T (x5) ⟨by omega, by omega⟩ (1) ⟨by omega, by omega⟩ (40) ⟨by omega, by omega⟩) ⟨va_cnB 3 hts (gw_ws cm_X9_isWithin) rfl rfl rfl (hk.2.1 _ nw_10) (hts _ (tw1 (i := 2) rfl)) hd_X9_isWithin.2 ⟨Nat.le_trans (by decide) hR1, Nat.le_trans (by decide) hR2⟩, hts _ (tw8 (i := 17) rfl), trivial⟩ (tf_preS hk hW trivial) rfl rfl hl.1 rfl (lv_room (Nat.le_of_ble_eq_true rfl)) dX3_whyNoTower_38 ⟨Nat.zero_le _, Nat.zero_le _⟩) hW (by decide) (fun z39 H39 locs39 hW hF39 hp39 => ?_)
                  rcases hp39 with ⟨rfl, h40, h41⟩ | ⟨rfl, h42⟩
                  · refine tf_if_eq (tgt := 61) hx hb ⟨by decide, by decide⟩ dX3_whyNoTower_41 (by decide) (fun h43 => ?_) (fun h43 => ?_)
                    · exfalso; omega
                    · refine lv_iload_n hx hb dX3_whyNoTower_44 rfl (lv_at hl 1 rfl) ?_
                      refine lv_iload_n hx hb dX3_whyNoTower_45 rfl (lv_at hl 3 rfl) ?_
                      refine tf_iadd hx hb dX3_whyNoTower_46 ?_
                      refine tf_bipush hx hb dX3_whyNoTower_47 (by decide) ?_
                      refine tf_icmp_gt (tgt := 61) hx hb ⟨by omega, by omega⟩ ⟨by decide, by decide⟩ dX3_whyNoTower_49 (by decide) (fun h44 => ?_) (fun h44 => ?_)
                      · refine tf_iconst hx hb dX3_whyNoTower_61 ?_
                        exact tf_reti (z := (-1)) hx hb hr hlocks hQ hW (show (((-1)) = 0 ∧ 0 ≤ x1 ∧ x1 ≤ 9 ∧ 0 ≤ x2 ∧ x2 ≤ 9 ∧ 1 ≤ x3 ∧ x3 ≤ 5 ∧ 1 ≤ x4 ∧ x4 ≤ 5) ∨ ((-5) ≤ ((-1)) ∧ ((-1)) ≤ (-1)) by omega) dX3_whyNoTower_62
                      · refine lv_iload_n hx hb dX3_whyNoTower_52 rfl (lv_at hl 2 rfl) ?_
                        refine lv_iload hx hb dX3_whyNoTower_53 (lv_at hl 4 rfl) ?_
                        refine tf_iadd hx hb dX3_whyNoTower_55 ?_
                        refine tf_bipush hx hb dX3_whyNoTower_56 (by decide) ?_
                        refine tf_icmp_le (tgt := 63) hx hb ⟨by omega, by omega⟩ ⟨by decide, by decide⟩ dX3_whyNoTower_58 (by decide) (fun h45 => ?_) (fun h45 => ?_)
                        · refine lv_iload_n hx hb dX3_whyNoTower_63 rfl (lv_at hl 2 rfl) ?_
                          refine lv_istore (lv' := [(6, .int (Int32.ofInt x2)), (0, .ref a0), (1, .int (Int32.ofInt x1)), (2, .int (Int32.ofInt x2)), (3, .int (Int32.ofInt x3)), (4, .int (Int32.ofInt x4)), (5, .int (Int32.ofInt x5))]) hx hb dX3_whyNoTower_64 hl (by decide) rfl (fun ls hl => ?_)
                          exact j_66 ((16 - x2 + 1 : Int)).toNat ⟨by omega, by omega⟩ ⟨by omega, by omega⟩ ⟨by omega, by omega⟩ ⟨by omega, by omega⟩ (x2) ⟨by omega, by omega⟩ (by omega) _ _ hW  _ (lv_sub hl [1, 2, 3, 4, 5, 0] rfl)
                        · refine tf_iconst hx hb dX3_whyNoTower_61 ?_
                          exact tf_reti (z := (-1)) hx hb hr hlocks hQ hW (show (((-1)) = 0 ∧ 0 ≤ x1 ∧ x1 ≤ 9 ∧ 0 ≤ x2 ∧ x2 ≤ 9 ∧ 1 ≤ x3 ∧ x3 ≤ 5 ∧ 1 ≤ x4 ∧ x4 ≤ 5) ∨ ((-5) ≤ ((-1)) ∧ ((-1)) ≤ (-1)) by omega) dX3_whyNoTower_62
                  · refine tf_if_eq (tgt := 61) hx hb ⟨by decide, by decide⟩ dX3_whyNoTower_41 (by decide) (fun h46 => ?_) (fun h46 => ?_)
                    · refine tf_iconst hx hb dX3_whyNoTower_61 ?_
                      exact tf_reti (z := (-1)) hx hb hr hlocks hQ hW (show (((-1)) = 0 ∧ 0 ≤ x1 ∧ x1 ≤ 9 ∧ 0 ≤ x2 ∧ x2 ≤ 9 ∧ 1 ≤ x3 ∧ x3 ≤ 5 ∧ 1 ≤ x4 ∧ x4 ≤ 5) ∨ ((-5) ≤ ((-1)) ∧ ((-1)) ≤ (-1)) by omega) dX3_whyNoTower_62
                    · exfalso; omega
              · refine tf_if_eq (tgt := 61) hx hb ⟨by decide, by decide⟩ dX3_whyNoTower_30 (by decide) (fun h47 => ?_) (fun h47 => ?_)
                · refine tf_iconst hx hb dX3_whyNoTower_61 ?_
                  exact tf_reti (z := (-1)) hx hb hr hlocks hQ hW (show (((-1)) = 0 ∧ 0 ≤ x1 ∧ x1 ≤ 9 ∧ 0 ≤ x2 ∧ x2 ≤ 9 ∧ 1 ≤ x3 ∧ x3 ≤ 5 ∧ 1 ≤ x4 ∧ x4 ≤ 5) ∨ ((-5) ≤ ((-1)) ∧ ((-1)) ≤ (-1)) by omega) dX3_whyNoTower_62
                · exfalso; omega
          · refine tf_if_eq (tgt := 61) hx hb ⟨by decide, by decide⟩ dX3_whyNoTower_20 (by decide) (fun h48 => ?_) (fun h48 => ?_)
            · refine tf_iconst hx hb dX3_whyNoTower_61 ?_
              exact tf_reti (z := (-1)) hx hb hr hlocks hQ hW (show (((-1)) = 0 ∧ 0 ≤ x1 ∧ x1 ≤ 9 ∧ 0 ≤ x2 ∧ x2 ≤ 9 ∧ 1 ≤ x3 ∧ x3 ≤ 5 ∧ 1 ≤ x4 ∧ x4 ≤ 5) ∨ ((-5) ≤ ((-1)) ∧ ((-1)) ≤ (-1)) by omega) dX3_whyNoTower_62
            · exfalso; omega
      · refine tf_if_eq (tgt := 61) hx hb ⟨by decide, by decide⟩ dX3_whyNoTower_11 (by decide) (fun h49 => ?_) (fun h49 => ?_)
        · refine tf_iconst hx hb dX3_whyNoTower_61 ?_
          exact tf_reti (z := (-1)) hx hb hr hlocks hQ hW (show (((-1)) = 0 ∧ 0 ≤ x1 ∧ x1 ≤ 9 ∧ 0 ≤ x2 ∧ x2 ≤ 9 ∧ 1 ≤ x3 ∧ x3 ≤ 5 ∧ 1 ≤ x4 ∧ x4 ≤ 5) ∨ ((-5) ≤ ((-1)) ∧ ((-1)) ≤ (-1)) by omega) dX3_whyNoTower_62
        · exfalso; omega
  · refine tf_if_eq (tgt := 61) hx hb ⟨by decide, by decide⟩ dX3_whyNoTower_4 (by decide) (fun h50 => ?_) (fun h50 => ?_)
    · refine tf_iconst hx hb dX3_whyNoTower_61 ?_
      exact tf_reti (z := (-1)) hx hb hr hlocks hQ hW (show (((-1)) = 0 ∧ 0 ≤ x1 ∧ x1 ≤ 9 ∧ 0 ≤ x2 ∧ x2 ≤ 9 ∧ 1 ≤ x3 ∧ x3 ≤ 5 ∧ 1 ≤ x4 ∧ x4 ≤ 5) ∨ ((-5) ≤ ((-1)) ∧ ((-1)) ≤ (-1)) by omega) dX3_whyNoTower_62
    · exfalso; omega

abbrev M_X3_whyNoWork : List (Nat × Nat) := []
set_option maxHeartbeats 4000000 in
set_option maxRecDepth 100000 in
theorem c_X3_whyNoWork (l : Launch) (g : tf_G) (T : tf_T) (a0 : Nat) (ha0 : T a0 = some (20, 0)) (x1 : Int) (hp1 : (-2147483648) ≤ x1 ∧ x1 ≤ 2147483647) (x2 : Int) (hp2 : (-2147483648) ≤ x2 ∧ x2 ≤ 2147483647) (x3 : Int) (hp3 : (-2147483648) ≤ x3 ∧ x3 ≤ 2147483647) (x4 : Int) (hp4 : (-2147483648) ≤ x4 ∧ x4 ≤ 2147483647) : Met l yX3_whyNoWork (cd_X3_whyNoWork :: wsL_law) ({ frames := 4, cells := 0, slots := 0, locals := 86 }) (tf_P g T [.ref a0, .int (Int32.ofInt x1), .int (Int32.ofInt x2), .int (Int32.ofInt x3), .int (Int32.ofInt x4)] (fun H => True)) (tf_Qi g M_X3_whyNoWork T (fun z _ _ => (-5) ≤ z ∧ z ≤ 0)) 0 0 (fun q => tf_B g ≤ q) := by
  refine Met.ofW (cc := cX3_whyNoWork) (maxL := 6) (ret := (some .int)) (by decide) rfl ?_
  intro p e s m args below meth c s₁ B hml hv
  obtain ⟨hargs, hk, hW0, hB, hpre⟩ := hv
  have hx := B.exec
  have hb := B.bytes
  have hr := B.returns
  have hts : ∀ w ∈ wsL_law, w.before args s = true := fun w h => atoms_spec (ws := cd_X3_whyNoWork :: wsL_law) B.pre w (List.mem_cons_of_mem _ h)
  have hown : s.vm.findClass RX3 = some m.cls := findClass_of_methodNamed B.named
  have hlocks := B.notSynchronized
  have hK := hk.1
  have hW := tf_n.start (M := M_X3_whyNoWork) hW0 hB
  obtain ⟨Q, hQ⟩ : ∃ q, q = MQ below (tf_Qi g M_X3_whyNoWork T (fun z _ _ => (-5) ≤ z ∧ z ≤ 0)) args s 0 0 (fun q => tf_B g ≤ q) := ⟨_, rfl⟩
  rw [← hQ]
  obtain ⟨R, hR⟩ : ∃ q, q = (headSpec (cd_X3_whyNoWork :: wsL_law) ({ frames := 4, cells := 0, slots := 0, locals := 86 })).room := ⟨_, rfl⟩
  rw [← hR]
  have hR1 : 4 ≤ R.frames := by rw [hR]; exact Nat.le_refl _
  have hR2 : 86 ≤ R.locals := by rw [hR]; exact Nat.le_refl _
  have hR3 : 0 ≤ R.cells := by rw [hR]; exact Nat.le_refl _
  have hR4 : 0 ≤ R.slots := by rw [hR]; exact Nat.le_refl _
  have hin := (name_of_methodNamed B.named B.method).1
  clear hR B
  have j_119 : ∀ (H : Heap) (locs : List Loc), tf_n tf_kt g M_X3_whyNoWork T s.heap T H locs → ∀ (ls : Array Slot), lv_has ls 6 [(0, .ref a0)] → W p l e R s m args below meth c H locs 0 0 Q (F0 m 119 ls []) := by
    intro  H locs hW  ls hl
    refine lv_aload_n hx hb dX3_whyNoWork_119 rfl (lv_at hl 0 rfl) ?_
    refine tf_get hx hb hts inlX3 hown hK (ci := 3) rfl hW ha0 rfl 2 rfl (by decide) (hts _ fl_X3_28) dX3_whyNoWork_120 (fun v1 hv1 hsv1 => ?_)
    obtain ⟨ad2, rfl, had2⟩ := tf_v1 hv1
    refine tf_get hx hb hts inlX8 hown hK (ci := 8) rfl hW had2 rfl 4 rfl (by decide) (hts _ fl_X3_113) dX3_whyNoWork_123 (fun v3 hv3 hsv3 => ?_)
    obtain ⟨z4, rfl, hz4⟩ := tf_v0 hv3
    refine tf_bipush hx hb dX3_whyNoWork_126 (by decide) ?_
    refine tf_icmp_lt (tgt := 136) hx hb ⟨by omega, by omega⟩ ⟨by decide, by decide⟩ dX3_whyNoWork_128 (by decide) (fun h5 => ?_) (fun h5 => ?_)
    · refine tf_iconst hx hb dX3_whyNoWork_136 ?_
      exact tf_reti (z := 0) hx hb hr hlocks hQ hW (show (-5) ≤ (0) ∧ (0) ≤ 0 by omega) dX3_whyNoWork_137
    · refine tf_bipush hx hb dX3_whyNoWork_131 (by decide) ?_
      refine lv_goto (tgt := 137) hx hb dX3_whyNoWork_133 (by decide) ?_
      exact tf_reti (z := (-5)) hx hb hr hlocks hQ hW (show (-5) ≤ ((-5)) ∧ ((-5)) ≤ 0 by omega) dX3_whyNoWork_137
  have j_67 : 0 ≤ x1 ∧ x1 ≤ 3 → (-2147483648) ≤ x2 ∧ x2 ≤ 2147483647 → 0 ≤ x3 ∧ x3 ≤ 99 → ∀ (x5_67 : Int), 0 ≤ x5_67 ∧ x5_67 ≤ 1 → ∀ (H : Heap) (locs : List Loc), tf_n tf_kt g M_X3_whyNoWork T s.heap T H locs → ∀ (ls : Array Slot), lv_has ls 6 [(0, .ref a0), (1, .int (Int32.ofInt x1)), (2, .int (Int32.ofInt x2)), (3, .int (Int32.ofInt x3)), (5, .int (Int32.ofInt x5_67))] → W p l e R s m args below meth c H locs 0 0 Q (F0 m 67 ls []) := by
    intro hx1_67 hx2_67 hx3_67 x5_67 hx5_67 H locs hW  ls hl
    refine lv_iload_n hx hb dX3_whyNoWork_67 rfl (lv_at hl 1 rfl) ?_
    refine tf_iconst hx hb dX3_whyNoWork_68 ?_
    refine tf_icmp_ne (tgt := 86) hx hb ⟨by omega, by omega⟩ ⟨by decide, by decide⟩ dX3_whyNoWork_69 (by decide) (fun h6 => ?_) (fun h6 => ?_)
    · refine lv_iload_n hx hb dX3_whyNoWork_86 rfl (lv_at hl 2 rfl) ?_
      refine tf_calli (va_runSN (As := [.int (Int32.ofInt x2)]) (rest := []) ⟨hx, hb, hml, hown, hts⟩ (c_X9_isCell l g T (x2) ⟨by omega, by omega⟩) ⟨va_cnB 1 hts (gw_ws cm_X9_isCell) rfl rfl rfl (hk.2.1 _ nw_11) (hts _ (tw1 (i := 2) rfl)) hd_X9_isCell.2 ⟨Nat.le_trans (by decide) hR1, Nat.le_trans (by decide) hR2⟩, hts _ (tw9 (i := 0) rfl), trivial⟩ (tf_preS hk hW trivial) rfl rfl hl.1 rfl (lv_room (Nat.le_of_ble_eq_true rfl)) dX3_whyNoWork_87 ⟨Nat.zero_le _, Nat.zero_le _⟩) hW (by decide) (fun z7 H7 locs7 hW hF7 hp7 => ?_)
      rcases hp7 with ⟨rfl, h8, h9⟩ | ⟨rfl, h10⟩
      · refine tf_if_ne (tgt := 95) hx hb ⟨by decide, by decide⟩ dX3_whyNoWork_90 (by decide) (fun h11 => ?_) (fun h11 => ?_)
        · refine lv_aload_n hx hb dX3_whyNoWork_95 rfl (lv_at hl 0 rfl) ?_
          refine lv_iload_n hx hb dX3_whyNoWork_96 rfl (lv_at hl 2 rfl) ?_
          refine tf_calli (va_runV (As := [.int (Int32.ofInt x2)]) (rest := []) ⟨hx, hb, hml, hown, hts⟩ (c_X3_isGround l g T a0 ha0 (x2) ⟨by omega, by omega⟩) (cwV 1 hts gv_X3_91 rfl rfl rfl hd_X3_isGround ⟨Nat.le_trans (by decide) hR1, Nat.le_trans (by decide) hR2⟩) (tf_preV hk hW ha0 (ci := 3) rfl rfl trivial) rfl rfl hl.1 rfl (lv_room (Nat.le_of_ble_eq_true rfl)) dX3_whyNoWork_97 ⟨Nat.zero_le _, Nat.zero_le _⟩) hW (by decide) (fun z12 H12 locs12 hW hF12 hp12 => ?_)
          rcases hp12 with ⟨rfl, h13, h14⟩ | ⟨rfl⟩
          · refine tf_if_eq (tgt := 116) hx hb ⟨by decide, by decide⟩ dX3_whyNoWork_100 (by decide) (fun h15 => ?_) (fun h15 => ?_)
            · exfalso; omega
            · refine lv_iload hx hb dX3_whyNoWork_103 (lv_at hl 4 rfl) ?_
              refine tf_if_eq (tgt := 119) hx hb ⟨by omega, by omega⟩ dX3_whyNoWork_105 (by decide) (fun h16 => ?_) (fun h16 => ?_)
              · exact j_119  _ _ hW  _ (lv_sub hl [0] rfl)
              · refine lv_aload_n hx hb dX3_whyNoWork_108 rfl (lv_at hl 0 rfl) ?_
                refine lv_iload_n hx hb dX3_whyNoWork_109 rfl (lv_at hl 3 rfl) ?_
                refine tf_calli (va_runV (As := [.int (Int32.ofInt x3)]) (rest := []) ⟨hx, hb, hml, hown, hts⟩ (c_X3_isGround l g T a0 ha0 (x3) ⟨by omega, by omega⟩) (cwV 1 hts gv_X3_91 rfl rfl rfl hd_X3_isGround ⟨Nat.le_trans (by decide) hR1, Nat.le_trans (by decide) hR2⟩) (tf_preV hk hW ha0 (ci := 3) rfl rfl trivial) rfl rfl hl.1 rfl (lv_room (Nat.le_of_ble_eq_true rfl)) dX3_whyNoWork_110 ⟨Nat.zero_le _, Nat.zero_le _⟩) hW (by decide) (fun z17 H17 locs17 hW hF17 hp17 => ?_)
                rcases hp17 with ⟨rfl, h18, h19⟩ | ⟨rfl⟩
                · refine tf_if_ne (tgt := 119) hx hb ⟨by decide, by decide⟩ dX3_whyNoWork_113 (by decide) (fun h20 => ?_) (fun h20 => ?_)
                  · exact j_119  _ _ hW  _ (lv_sub hl [0] rfl)
                  · exfalso; omega
                · refine tf_if_ne (tgt := 119) hx hb ⟨by decide, by decide⟩ dX3_whyNoWork_113 (by decide) (fun h21 => ?_) (fun h21 => ?_)
                  · exfalso; omega
                  · refine tf_bipush hx hb dX3_whyNoWork_116 (by decide) ?_
                    exact tf_reti (z := (-3)) hx hb hr hlocks hQ hW (show (-5) ≤ ((-3)) ∧ ((-3)) ≤ 0 by omega) dX3_whyNoWork_118
          · refine tf_if_eq (tgt := 116) hx hb ⟨by decide, by decide⟩ dX3_whyNoWork_100 (by decide) (fun h22 => ?_) (fun h22 => ?_)
            · refine tf_bipush hx hb dX3_whyNoWork_116 (by decide) ?_
              exact tf_reti (z := (-3)) hx hb hr hlocks hQ hW (show (-5) ≤ ((-3)) ∧ ((-3)) ≤ 0 by omega) dX3_whyNoWork_118
            · exfalso; omega
        · exfalso; omega
      · refine tf_if_ne (tgt := 95) hx hb ⟨by decide, by decide⟩ dX3_whyNoWork_90 (by decide) (fun h23 => ?_) (fun h23 => ?_)
        · exfalso; omega
        · refine tf_iconst hx hb dX3_whyNoWork_93 ?_
          exact tf_reti (z := (-1)) hx hb hr hlocks hQ hW (show (-5) ≤ ((-1)) ∧ ((-1)) ≤ 0 by omega) dX3_whyNoWork_94
    · refine lv_aload_n hx hb dX3_whyNoWork_72 rfl (lv_at hl 0 rfl) ?_
      refine tf_get hx hb hts inlX3 hown hK (ci := 3) rfl hW ha0 rfl 1 rfl (by decide) (hts _ fl_X3_21) dX3_whyNoWork_73 (fun v24 hv24 hsv24 => ?_)
      obtain ⟨ad25, rfl, had25⟩ := tf_v1 hv24
      refine lv_iload_n hx hb dX3_whyNoWork_76 rfl (lv_at hl 2 rfl) ?_
      refine tf_calli (va_runV (As := [.int (Int32.ofInt x2)]) (rest := []) ⟨hx, hb, hml, hown, hts⟩ (c_X5_has l g T ad25 had25 (x2) ⟨by omega, by omega⟩) (cwV 1 hts gv_X3_110 rfl rfl rfl hd_X5_has ⟨Nat.le_trans (by decide) hR1, Nat.le_trans (by decide) hR2⟩) (tf_preV hk hW had25 (ci := 5) rfl rfl trivial) rfl rfl hl.1 rfl (lv_room (Nat.le_of_ble_eq_true rfl)) dX3_whyNoWork_77 ⟨Nat.zero_le _, Nat.zero_le _⟩) hW (by decide) (fun z26 H26 locs26 hW hF26 hp26 => ?_)
      rcases hp26 with ⟨rfl, h27, h28⟩ | ⟨rfl⟩
      · refine tf_if_ne (tgt := 119) hx hb ⟨by decide, by decide⟩ dX3_whyNoWork_80 (by decide) (fun h29 => ?_) (fun h29 => ?_)
        · exact j_119  _ _ hW  _ (lv_sub hl [0] rfl)
        · exfalso; omega
      · refine tf_if_ne (tgt := 119) hx hb ⟨by decide, by decide⟩ dX3_whyNoWork_80 (by decide) (fun h30 => ?_) (fun h30 => ?_)
        · exfalso; omega
        · refine tf_bipush hx hb dX3_whyNoWork_83 (by decide) ?_
          exact tf_reti (z := (-2)) hx hb hr hlocks hQ hW (show (-5) ≤ ((-2)) ∧ ((-2)) ≤ 0 by omega) dX3_whyNoWork_85
  have j_33 : 0 ≤ x1 ∧ x1 ≤ 3 → (-2147483648) ≤ x2 ∧ x2 ≤ 2147483647 → (-2147483648) ≤ x3 ∧ x3 ≤ 2147483647 → ∀ (y0_33 : Int), 0 ≤ y0_33 ∧ y0_33 ≤ 1 → ∀ (H : Heap) (locs : List Loc), tf_n tf_kt g M_X3_whyNoWork T s.heap T H locs → ∀ (ls : Array Slot), lv_has ls 6 [(0, .ref a0), (1, .int (Int32.ofInt x1)), (2, .int (Int32.ofInt x2)), (3, .int (Int32.ofInt x3))] → W p l e R s m args below meth c H locs 0 0 Q (F0 m 33 ls [.int (Int32.ofInt y0_33)]) := by
    intro hx1_33 hx2_33 hx3_33 y0_33 hy0_33 H locs hW  ls hl
    refine lv_istore (lv' := [(5, .int (Int32.ofInt y0_33)), (0, .ref a0), (1, .int (Int32.ofInt x1)), (2, .int (Int32.ofInt x2)), (3, .int (Int32.ofInt x3))]) hx hb dX3_whyNoWork_33 hl (by decide) rfl (fun ls hl => ?_)
    refine lv_iload hx hb dX3_whyNoWork_35 (lv_at hl 0 rfl) ?_
    refine tf_if_eq (tgt := 55) hx hb ⟨by omega, by omega⟩ dX3_whyNoWork_37 (by decide) (fun h31 => ?_) (fun h31 => ?_)
    · refine lv_iload_n hx hb dX3_whyNoWork_55 rfl (lv_at hl 4 rfl) ?_
      refine tf_iconst hx hb dX3_whyNoWork_56 ?_
      refine tf_bipush hx hb dX3_whyNoWork_57 (by decide) ?_
      refine tf_calli (va_runSN (As := [.int (Int32.ofInt x3), .int (Int32.ofInt 1), .int (Int32.ofInt 9)]) (rest := []) ⟨hx, hb, hml, hown, hts⟩ (c_X9_isWithin l g T (x3) ⟨by omega, by omega⟩ (1) ⟨by omega, by omega⟩ (9) ⟨by omega, by omega⟩) ⟨va_cnB 3 hts (gw_ws cm_X9_isWithin) rfl rfl rfl (hk.2.1 _ nw_10) (hts _ (tw1 (i := 2) rfl)) hd_X9_isWithin.2 ⟨Nat.le_trans (by decide) hR1, Nat.le_trans (by decide) hR2⟩, hts _ (tw8 (i := 17) rfl), trivial⟩ (tf_preS hk hW trivial) rfl rfl hl.1 rfl (lv_room (Nat.le_of_ble_eq_true rfl)) dX3_whyNoWork_59 ⟨Nat.zero_le _, Nat.zero_le _⟩) hW (by decide) (fun z32 H32 locs32 hW hF32 hp32 => ?_)
      rcases hp32 with ⟨rfl, h33, h34⟩ | ⟨rfl, h35⟩
      · refine tf_if_ne (tgt := 67) hx hb ⟨by decide, by decide⟩ dX3_whyNoWork_62 (by decide) (fun h36 => ?_) (fun h36 => ?_)
        · exact j_67 ⟨by omega, by omega⟩ ⟨by omega, by omega⟩ ⟨by omega, by omega⟩ (y0_33) ⟨by omega, by omega⟩ _ _ hW  _ (lv_sub hl [1, 2, 3, 4, 0] rfl)
        · exfalso; omega
      · refine tf_if_ne (tgt := 67) hx hb ⟨by decide, by decide⟩ dX3_whyNoWork_62 (by decide) (fun h37 => ?_) (fun h37 => ?_)
        · exfalso; omega
        · refine tf_iconst hx hb dX3_whyNoWork_65 ?_
          exact tf_reti (z := (-1)) hx hb hr hlocks hQ hW (show (-5) ≤ ((-1)) ∧ ((-1)) ≤ 0 by omega) dX3_whyNoWork_66
    · refine lv_iload_n hx hb dX3_whyNoWork_40 rfl (lv_at hl 4 rfl) ?_
      refine tf_calli (va_runSN (As := [.int (Int32.ofInt x3)]) (rest := []) ⟨hx, hb, hml, hown, hts⟩ (c_X9_isCell l g T (x3) ⟨by omega, by omega⟩) ⟨va_cnB 1 hts (gw_ws cm_X9_isCell) rfl rfl rfl (hk.2.1 _ nw_11) (hts _ (tw1 (i := 2) rfl)) hd_X9_isCell.2 ⟨Nat.le_trans (by decide) hR1, Nat.le_trans (by decide) hR2⟩, hts _ (tw9 (i := 0) rfl), trivial⟩ (tf_preS hk hW trivial) rfl rfl hl.1 rfl (lv_room (Nat.le_of_ble_eq_true rfl)) dX3_whyNoWork_41 ⟨Nat.zero_le _, Nat.zero_le _⟩) hW (by decide) (fun z38 H38 locs38 hW hF38 hp38 => ?_)
      rcases hp38 with ⟨rfl, h39, h40⟩ | ⟨rfl, h41⟩
      · refine tf_if_eq (tgt := 65) hx hb ⟨by decide, by decide⟩ dX3_whyNoWork_44 (by decide) (fun h42 => ?_) (fun h42 => ?_)
        · exfalso; omega
        · refine lv_iload_n hx hb dX3_whyNoWork_47 rfl (lv_at hl 3 rfl) ?_
          refine lv_iload_n hx hb dX3_whyNoWork_48 rfl (lv_at hl 4 rfl) ?_
          refine tf_icmp_ne (tgt := 67) hx hb ⟨by omega, by omega⟩ ⟨by omega, by omega⟩ dX3_whyNoWork_49 (by decide) (fun h43 => ?_) (fun h43 => ?_)
          · exact j_67 ⟨by omega, by omega⟩ ⟨by omega, by omega⟩ ⟨by omega, by omega⟩ (y0_33) ⟨by omega, by omega⟩ _ _ hW  _ (lv_sub hl [1, 2, 3, 4, 0] rfl)
          · refine lv_goto (tgt := 65) hx hb dX3_whyNoWork_52 (by decide) ?_
            refine tf_iconst hx hb dX3_whyNoWork_65 ?_
            exact tf_reti (z := (-1)) hx hb hr hlocks hQ hW (show (-5) ≤ ((-1)) ∧ ((-1)) ≤ 0 by omega) dX3_whyNoWork_66
      · refine tf_if_eq (tgt := 65) hx hb ⟨by decide, by decide⟩ dX3_whyNoWork_44 (by decide) (fun h44 => ?_) (fun h44 => ?_)
        · refine tf_iconst hx hb dX3_whyNoWork_65 ?_
          exact tf_reti (z := (-1)) hx hb hr hlocks hQ hW (show (-5) ≤ ((-1)) ∧ ((-1)) ≤ 0 by omega) dX3_whyNoWork_66
        · exfalso; omega
  refine tf_enter (As := [.ref a0, .int (Int32.ofInt x1), .int (Int32.ofInt x2), .int (Int32.ofInt x3), .int (Int32.ofInt x4)]) hargs (Nat.le_of_ble_eq_true rfl) (fun ls hl => ?_)
  have hl : lv_has ls 6 [(0, .ref a0), (1, .int (Int32.ofInt x1)), (2, .int (Int32.ofInt x2)), (3, .int (Int32.ofInt x3)), (4, .int (Int32.ofInt x4))] := hl
  refine lv_iload_n hx hb dX3_whyNoWork_0 rfl (lv_at hl 1 rfl) ?_
  refine tf_iconst hx hb dX3_whyNoWork_1 ?_
  refine tf_iconst hx hb dX3_whyNoWork_2 ?_
  refine tf_calli (va_runSN (As := [.int (Int32.ofInt x1), .int (Int32.ofInt 0), .int (Int32.ofInt 3)]) (rest := []) ⟨hx, hb, hml, hown, hts⟩ (c_X9_isWithin l g T (x1) ⟨by omega, by omega⟩ (0) ⟨by omega, by omega⟩ (3) ⟨by omega, by omega⟩) ⟨va_cnB 3 hts (gw_ws cm_X9_isWithin) rfl rfl rfl (hk.2.1 _ nw_10) (hts _ (tw1 (i := 2) rfl)) hd_X9_isWithin.2 ⟨Nat.le_trans (by decide) hR1, Nat.le_trans (by decide) hR2⟩, hts _ (tw8 (i := 17) rfl), trivial⟩ (tf_preS hk hW trivial) rfl rfl hl.1 rfl (lv_room (Nat.le_of_ble_eq_true rfl)) dX3_whyNoWork_3 ⟨Nat.zero_le _, Nat.zero_le _⟩) hW (by decide) (fun z45 H45 locs45 hW hF45 hp45 => ?_)
  rcases hp45 with ⟨rfl, h46, h47⟩ | ⟨rfl, h48⟩
  · refine tf_if_eq (tgt := 21) hx hb ⟨by decide, by decide⟩ dX3_whyNoWork_6 (by decide) (fun h49 => ?_) (fun h49 => ?_)
    · exfalso; omega
    · refine lv_iload hx hb dX3_whyNoWork_9 (lv_at hl 4 rfl) ?_
      refine tf_iconst hx hb dX3_whyNoWork_11 ?_
      refine tf_sipush hx hb dX3_whyNoWork_12 (by decide) ?_
      refine tf_calli (va_runSN (As := [.int (Int32.ofInt x4), .int (Int32.ofInt 0), .int (Int32.ofInt 999)]) (rest := []) ⟨hx, hb, hml, hown, hts⟩ (c_X9_isWithin l g T (x4) ⟨by omega, by omega⟩ (0) ⟨by omega, by omega⟩ (999) ⟨by omega, by omega⟩) ⟨va_cnB 3 hts (gw_ws cm_X9_isWithin) rfl rfl rfl (hk.2.1 _ nw_10) (hts _ (tw1 (i := 2) rfl)) hd_X9_isWithin.2 ⟨Nat.le_trans (by decide) hR1, Nat.le_trans (by decide) hR2⟩, hts _ (tw8 (i := 17) rfl), trivial⟩ (tf_preS hk hW trivial) rfl rfl hl.1 rfl (lv_room (Nat.le_of_ble_eq_true rfl)) dX3_whyNoWork_15 ⟨Nat.zero_le _, Nat.zero_le _⟩) hW (by decide) (fun z50 H50 locs50 hW hF50 hp50 => ?_)
      rcases hp50 with ⟨rfl, h51, h52⟩ | ⟨rfl, h53⟩
      · refine tf_if_ne (tgt := 23) hx hb ⟨by decide, by decide⟩ dX3_whyNoWork_18 (by decide) (fun h54 => ?_) (fun h54 => ?_)
        · refine lv_iload_n hx hb dX3_whyNoWork_23 rfl (lv_at hl 1 rfl) ?_
          refine tf_iconst hx hb dX3_whyNoWork_24 ?_
          refine tf_icmp_ne (tgt := 32) hx hb ⟨by omega, by omega⟩ ⟨by decide, by decide⟩ dX3_whyNoWork_25 (by decide) (fun h55 => ?_) (fun h55 => ?_)
          · refine tf_iconst hx hb dX3_whyNoWork_32 ?_
            exact j_33 ⟨by omega, by omega⟩ ⟨by omega, by omega⟩ ⟨by omega, by omega⟩ (0) ⟨by omega, by omega⟩ _ _ hW  _ (lv_sub hl [0, 1, 2, 3] rfl)
          · refine tf_iconst hx hb dX3_whyNoWork_28 ?_
            refine lv_goto (tgt := 33) hx hb dX3_whyNoWork_29 (by decide) ?_
            exact j_33 ⟨by omega, by omega⟩ ⟨by omega, by omega⟩ ⟨by omega, by omega⟩ (1) ⟨by omega, by omega⟩ _ _ hW  _ (lv_sub hl [0, 1, 2, 3] rfl)
        · exfalso; omega
      · refine tf_if_ne (tgt := 23) hx hb ⟨by decide, by decide⟩ dX3_whyNoWork_18 (by decide) (fun h56 => ?_) (fun h56 => ?_)
        · exfalso; omega
        · refine tf_iconst hx hb dX3_whyNoWork_21 ?_
          exact tf_reti (z := (-1)) hx hb hr hlocks hQ hW (show (-5) ≤ ((-1)) ∧ ((-1)) ≤ 0 by omega) dX3_whyNoWork_22
  · refine tf_if_eq (tgt := 21) hx hb ⟨by decide, by decide⟩ dX3_whyNoWork_6 (by decide) (fun h57 => ?_) (fun h57 => ?_)
    · refine tf_iconst hx hb dX3_whyNoWork_21 ?_
      exact tf_reti (z := (-1)) hx hb hr hlocks hQ hW (show (-5) ≤ ((-1)) ∧ ((-1)) ≤ 0 by omega) dX3_whyNoWork_22
    · exfalso; omega

abbrev M_X3_doWork : List (Nat × Nat) := [(1, 0)]
set_option maxHeartbeats 4000000 in
set_option maxRecDepth 100000 in
theorem c_X3_doWork (l : Launch) (g : tf_G) (T : tf_T) (a0 : Nat) (ha0 : T a0 = some (20, 0)) (x1 : Int) (hp1 : (-2147483648) ≤ x1 ∧ x1 ≤ 2147483647) (a2 : Nat) (ha2 : T a2 = some (17, 0)) : Met l yX3_doWork (cd_X3_doWork :: wsL_law) ({ frames := 4, cells := 0, slots := 0, locals := 96 }) (tf_P g T [.ref a0, .int (Int32.ofInt x1), .ref a2] (fun H => True)) (tf_Qv g M_X3_doWork T (fun _ H => True)) 0 0 (fun q => tf_B g ≤ q) := by
  refine Met.ofW (cc := cX3_doWork) (maxL := 7) (ret := none) (by decide) rfl ?_
  intro p e s m args below meth c s₁ B hml hv
  obtain ⟨hargs, hk, hW0, hB, hpre⟩ := hv
  have hx := B.exec
  have hb := B.bytes
  have hr := B.returns
  have hts : ∀ w ∈ wsL_law, w.before args s = true := fun w h => atoms_spec (ws := cd_X3_doWork :: wsL_law) B.pre w (List.mem_cons_of_mem _ h)
  have hown : s.vm.findClass RX3 = some m.cls := findClass_of_methodNamed B.named
  have hlocks := B.notSynchronized
  have hK := hk.1
  have hW := tf_n.start (M := M_X3_doWork) hW0 hB
  obtain ⟨Q, hQ⟩ : ∃ q, q = MQ below (tf_Qv g M_X3_doWork T (fun _ H => True)) args s 0 0 (fun q => tf_B g ≤ q) := ⟨_, rfl⟩
  rw [← hQ]
  obtain ⟨R, hR⟩ : ∃ q, q = (headSpec (cd_X3_doWork :: wsL_law) ({ frames := 4, cells := 0, slots := 0, locals := 96 })).room := ⟨_, rfl⟩
  rw [← hR]
  have hR1 : 4 ≤ R.frames := by rw [hR]; exact Nat.le_refl _
  have hR2 : 96 ≤ R.locals := by rw [hR]; exact Nat.le_refl _
  have hR3 : 0 ≤ R.cells := by rw [hR]; exact Nat.le_refl _
  have hR4 : 0 ≤ R.slots := by rw [hR]; exact Nat.le_refl _
  have hin := (name_of_methodNamed B.named B.method).1
  clear hR B
  refine tf_enter (As := [.ref a0, .int (Int32.ofInt x1), .ref a2]) hargs (Nat.le_of_ble_eq_true rfl) (fun ls hl => ?_)
  have hl : lv_has ls 7 [(0, .ref a0), (1, .int (Int32.ofInt x1)), (2, .ref a2)] := hl
  refine lv_iload_n hx hb dX3_doWork_0 rfl (lv_at hl 1 rfl) ?_
  refine tf_iconst hx hb dX3_doWork_1 ?_
  refine lv_aload_n hx hb dX3_doWork_2 rfl (lv_at hl 0 rfl) ?_
  refine tf_get hx hb hts inlX3 hown hK (ci := 3) rfl hW ha0 rfl 2 rfl (by decide) (hts _ fl_X3_28) dX3_doWork_3 (fun v1 hv1 hsv1 => ?_)
  obtain ⟨ad2, rfl, had2⟩ := tf_v1 hv1
  refine tf_get hx hb hts inlX8 hown hK (ci := 8) rfl hW had2 rfl 4 rfl (by decide) (hts _ fl_X3_113) dX3_doWork_6 (fun v3 hv3 hsv3 => ?_)
  obtain ⟨z4, rfl, hz4⟩ := tf_v0 hv3
  refine tf_iconst hx hb dX3_doWork_9 ?_
  refine tf_isub hx hb dX3_doWork_10 ?_
  refine tf_calli (va_runSN (As := [.int (Int32.ofInt x1), .int (Int32.ofInt 0), .int (Int32.ofInt ((z4 - 1)))]) (rest := []) ⟨hx, hb, hml, hown, hts⟩ (c_X9_isWithin l g T (x1) ⟨by omega, by omega⟩ (0) ⟨by omega, by omega⟩ ((z4 - 1)) ⟨by omega, by omega⟩) ⟨va_cnB 3 hts (gw_ws cm_X9_isWithin) rfl rfl rfl (hk.2.1 _ nw_10) (hts _ (tw1 (i := 2) rfl)) hd_X9_isWithin.2 ⟨Nat.le_trans (by decide) hR1, Nat.le_trans (by decide) hR2⟩, hts _ (tw8 (i := 17) rfl), trivial⟩ (tf_preS hk hW trivial) rfl rfl hl.1 rfl (lv_room (Nat.le_of_ble_eq_true rfl)) dX3_doWork_11 ⟨Nat.zero_le _, Nat.zero_le _⟩) hW (by decide) (fun z5 H5 locs5 hW hF5 hp5 => ?_)
  have hs6 := tf_keepF hF5 ha0 rfl rfl (by decide) hsv1
  rcases hp5 with ⟨rfl, h7, h8⟩ | ⟨rfl, h9⟩
  · refine tf_if_ne (tgt := 18) hx hb ⟨by decide, by decide⟩ dX3_doWork_14 (by decide) (fun h10 => ?_) (fun h10 => ?_)
    · refine lv_aload_n hx hb dX3_doWork_18 rfl (lv_at hl 0 rfl) ?_
      refine tf_get hx hb hts inlX3 hown hK (ci := 3) rfl hW ha0 rfl 2 rfl (by decide) (hts _ fl_X3_28) dX3_doWork_19 (fun v11 hv11 hsv11 => ?_)
      obtain rfl : v11 = .ref ad2 := Option.some.inj (hsv11.symm.trans hs6)
      refine tf_get hx hb hts inlX8 hown hK (ci := 8) rfl hW had2 rfl 1 rfl (by decide) (hts _ fl_X3_114) dX3_doWork_22 (fun v12 hv12 hsv12 => ?_)
      obtain ⟨ad13, rfl, had13⟩ := tf_v1 hv12
      refine lv_iload_n hx hb dX3_doWork_25 rfl (lv_at hl 1 rfl) ?_
      refine tf_iald (t0 := 0) hx hb hK hW had13 rfl rfl (by omega) (by omega) dX3_doWork_26 (fun v14 hv14 hsv14 => ?_)
      obtain ⟨z15, rfl, hz15⟩ := tf_v0 hv14
      refine lv_istore_n (lv' := [(3, .int (Int32.ofInt z15)), (0, .ref a0), (1, .int (Int32.ofInt x1)), (2, .ref a2)]) hx hb dX3_doWork_27 rfl hl (by decide) rfl (fun ls hl => ?_)
      refine lv_aload_n hx hb dX3_doWork_28 rfl (lv_at hl 1 rfl) ?_
      refine tf_get hx hb hts inlX3 hown hK (ci := 3) rfl hW ha0 rfl 2 rfl (by decide) (hts _ fl_X3_28) dX3_doWork_29 (fun v16 hv16 hsv16 => ?_)
      obtain rfl : v16 = .ref ad2 := Option.some.inj (hsv16.symm.trans hs6)
      refine tf_get hx hb hts inlX8 hown hK (ci := 8) rfl hW had2 rfl 2 rfl (by decide) (hts _ fl_X3_117) dX3_doWork_32 (fun v17 hv17 hsv17 => ?_)
      obtain ⟨ad18, rfl, had18⟩ := tf_v1 hv17
      refine lv_iload_n hx hb dX3_doWork_35 rfl (lv_at hl 2 rfl) ?_
      refine tf_iald (t0 := 0) hx hb hK hW had18 rfl rfl (by omega) (by omega) dX3_doWork_36 (fun v19 hv19 hsv19 => ?_)
      obtain ⟨z20, rfl, hz20⟩ := tf_v0 hv19
      refine lv_istore (lv' := [(4, .int (Int32.ofInt z20)), (3, .int (Int32.ofInt z15)), (0, .ref a0), (1, .int (Int32.ofInt x1)), (2, .ref a2)]) hx hb dX3_doWork_37 hl (by decide) rfl (fun ls hl => ?_)
      refine lv_aload_n hx hb dX3_doWork_39 rfl (lv_at hl 2 rfl) ?_
      refine tf_get hx hb hts inlX3 hown hK (ci := 3) rfl hW ha0 rfl 2 rfl (by decide) (hts _ fl_X3_28) dX3_doWork_40 (fun v21 hv21 hsv21 => ?_)
      obtain rfl : v21 = .ref ad2 := Option.some.inj (hsv21.symm.trans hs6)
      refine tf_get hx hb hts inlX8 hown hK (ci := 8) rfl hW had2 rfl 0 rfl (by decide) (hts _ fl_X3_120) dX3_doWork_43 (fun v22 hv22 hsv22 => ?_)
      obtain ⟨ad23, rfl, had23⟩ := tf_v1 hv22
      refine lv_iload_n hx hb dX3_doWork_46 rfl (lv_at hl 3 rfl) ?_
      refine tf_iald (t0 := 0) hx hb hK hW had23 rfl rfl (by omega) (by omega) dX3_doWork_47 (fun v24 hv24 hsv24 => ?_)
      obtain ⟨z25, rfl, hz25⟩ := tf_v0 hv24
      refine tf_iconst hx hb dX3_doWork_48 ?_
      refine tf_icmp_ne (tgt := 78) hx hb ⟨by omega, by omega⟩ ⟨by decide, by decide⟩ dX3_doWork_49 (by decide) (fun h26 => ?_) (fun h26 => ?_)
      · refine lv_iload_n hx hb dX3_doWork_78 rfl (lv_at hl 1 rfl) ?_
        refine tf_calli (va_runSN (As := [.int (Int32.ofInt z15)]) (rest := []) ⟨hx, hb, hml, hown, hts⟩ (c_X9_isCell l g T (z15) ⟨by omega, by omega⟩) ⟨va_cnB 1 hts (gw_ws cm_X9_isCell) rfl rfl rfl (hk.2.1 _ nw_11) (hts _ (tw1 (i := 2) rfl)) hd_X9_isCell.2 ⟨Nat.le_trans (by decide) hR1, Nat.le_trans (by decide) hR2⟩, hts _ (tw9 (i := 0) rfl), trivial⟩ (tf_preS hk hW trivial) rfl rfl hl.1 rfl (lv_room (Nat.le_of_ble_eq_true rfl)) dX3_doWork_79 ⟨Nat.zero_le _, Nat.zero_le _⟩) hW (by decide) (fun z27 H27 locs27 hW hF27 hp27 => ?_)
        have hs28 := tf_keepF hF27 ha0 rfl rfl (by decide) hs6
        have hs29 := tf_keepF hF27 had2 rfl rfl (by decide) hsv22
        rcases hp27 with ⟨rfl, h30, h31⟩ | ⟨rfl, h32⟩
        · refine tf_if_eq (tgt := 97) hx hb ⟨by decide, by decide⟩ dX3_doWork_82 (by decide) (fun h33 => ?_) (fun h33 => ?_)
          · exfalso; omega
          · refine lv_aload_n hx hb dX3_doWork_85 rfl (lv_at hl 4 rfl) ?_
            refine tf_get hx hb hts inlX0 hown hK (ci := 0) rfl hW ha2 rfl 0 rfl (by decide) (hts _ fl_X3_84) dX3_doWork_86 (fun v34 hv34 hsv34 => ?_)
            obtain ⟨ad35, rfl, had35⟩ := tf_v1 hv34
            refine lv_iload_n hx hb dX3_doWork_89 rfl (lv_at hl 1 rfl) ?_
            refine tf_calli (va_runSN (As := [.int (Int32.ofInt z15)]) (rest := [.ref ad35]) ⟨hx, hb, hml, hown, hts⟩ (c_X9_spotOf l g T (z15) ⟨by omega, by omega⟩) ⟨va_cnB 1 hts (gw_ws cm_X9_spotOf) rfl rfl rfl (hk.2.1 _ nw_12) (hts _ (tw1 (i := 2) rfl)) hd_X9_spotOf.2 ⟨Nat.le_trans (by decide) hR1, Nat.le_trans (by decide) hR2⟩, hts _ (tw9 (i := 2) rfl), trivial⟩ (tf_preS hk hW trivial) rfl rfl hl.1 rfl (lv_room (Nat.le_of_ble_eq_true rfl)) dX3_doWork_90 ⟨Nat.zero_le _, Nat.zero_le _⟩) hW (by decide) (fun z36 H36 locs36 hW hF36 hp36 => ?_)
            have hs37 := tf_keepF hF36 ha0 rfl rfl (by decide) hs28
            have hs38 := tf_keepF hF36 had2 rfl rfl (by decide) hs29
            have hs39 := tf_keepF hF36 ha2 rfl rfl (by decide) hsv34
            obtain ⟨hp36_0, hp36_1⟩ := hp36
            refine tf_iald (t0 := 0) hx hb hK hW had35 rfl rfl (by omega) (by omega) dX3_doWork_93 (fun v40 hv40 hsv40 => ?_)
            obtain ⟨z41, rfl, hz41⟩ := tf_v0 hv40
            refine tf_if_eq (tgt := 98) hx hb ⟨by omega, by omega⟩ dX3_doWork_94 (by decide) (fun h42 => ?_) (fun h42 => ?_)
            · refine lv_iload_n hx hb dX3_doWork_98 rfl (lv_at hl 1 rfl) ?_
              refine tf_calli (va_runSN (As := [.int (Int32.ofInt z15)]) (rest := []) ⟨hx, hb, hml, hown, hts⟩ (c_X9_spotOf l g T (z15) ⟨by omega, by omega⟩) ⟨va_cnB 1 hts (gw_ws cm_X9_spotOf) rfl rfl rfl (hk.2.1 _ nw_12) (hts _ (tw1 (i := 2) rfl)) hd_X9_spotOf.2 ⟨Nat.le_trans (by decide) hR1, Nat.le_trans (by decide) hR2⟩, hts _ (tw9 (i := 2) rfl), trivial⟩ (tf_preS hk hW trivial) rfl rfl hl.1 rfl (lv_room (Nat.le_of_ble_eq_true rfl)) dX3_doWork_99 ⟨Nat.zero_le _, Nat.zero_le _⟩) hW (by decide) (fun z43 H43 locs43 hW hF43 hp43 => ?_)
              have hs44 := tf_keepF hF43 ha0 rfl rfl (by decide) hs37
              have hs45 := tf_keepF hF43 had2 rfl rfl (by decide) hs38
              have hs46 := tf_keepF hF43 ha2 rfl rfl (by decide) hs39
              obtain ⟨hp43_0, hp43_1⟩ := hp43
              refine lv_istore (lv' := [(5, .int (Int32.ofInt z43)), (4, .int (Int32.ofInt z20)), (3, .int (Int32.ofInt z15)), (0, .ref a0), (1, .int (Int32.ofInt x1)), (2, .ref a2)]) hx hb dX3_doWork_102 hl (by decide) rfl (fun ls hl => ?_)
              refine lv_aload_n hx hb dX3_doWork_104 rfl (lv_at hl 3 rfl) ?_
              refine tf_get hx hb hts inlX3 hown hK (ci := 3) rfl hW ha0 rfl 2 rfl (by decide) (hts _ fl_X3_28) dX3_doWork_105 (fun v47 hv47 hsv47 => ?_)
              obtain rfl : v47 = .ref ad2 := Option.some.inj (hsv47.symm.trans hs44)
              refine tf_get hx hb hts inlX8 hown hK (ci := 8) rfl hW had2 rfl 0 rfl (by decide) (hts _ fl_X3_120) dX3_doWork_108 (fun v48 hv48 hsv48 => ?_)
              obtain rfl : v48 = .ref ad23 := Option.some.inj (hsv48.symm.trans hs45)
              refine lv_iload_n hx hb dX3_doWork_111 rfl (lv_at hl 4 rfl) ?_
              refine tf_iald (t0 := 0) hx hb hK hW had23 rfl rfl (by omega) (by omega) dX3_doWork_112 (fun v49 hv49 hsv49 => ?_)
              obtain ⟨z50, rfl, hz50⟩ := tf_v0 hv49
              refine tf_if_ne (tgt := 141) hx hb ⟨by omega, by omega⟩ dX3_doWork_113 (by decide) (fun h51 => ?_) (fun h51 => ?_)
              · refine lv_aload_n hx hb dX3_doWork_141 rfl (lv_at hl 3 rfl) ?_
                refine tf_get hx hb hts inlX3 hown hK (ci := 3) rfl hW ha0 rfl 2 rfl (by decide) (hts _ fl_X3_28) dX3_doWork_142 (fun v52 hv52 hsv52 => ?_)
                obtain rfl : v52 = .ref ad2 := Option.some.inj (hsv52.symm.trans hs44)
                refine tf_get hx hb hts inlX8 hown hK (ci := 8) rfl hW had2 rfl 0 rfl (by decide) (hts _ fl_X3_120) dX3_doWork_145 (fun v53 hv53 hsv53 => ?_)
                obtain rfl : v53 = .ref ad23 := Option.some.inj (hsv53.symm.trans hs45)
                refine lv_iload_n hx hb dX3_doWork_148 rfl (lv_at hl 4 rfl) ?_
                refine tf_iald (t0 := 0) hx hb hK hW had23 rfl rfl (by omega) (by omega) dX3_doWork_149 (fun v54 hv54 hsv54 => ?_)
                obtain ⟨z55, rfl, hz55⟩ := tf_v0 hv54
                refine tf_iconst hx hb dX3_doWork_150 ?_
                refine tf_icmp_ne (tgt := 176) hx hb ⟨by omega, by omega⟩ ⟨by decide, by decide⟩ dX3_doWork_151 (by decide) (fun h56 => ?_) (fun h56 => ?_)
                · refine lv_iload hx hb dX3_doWork_176 (lv_at hl 1 rfl) ?_
                  refine tf_calli (va_runSN (As := [.int (Int32.ofInt z20)]) (rest := []) ⟨hx, hb, hml, hown, hts⟩ (c_X9_isCell l g T (z20) ⟨by omega, by omega⟩) ⟨va_cnB 1 hts (gw_ws cm_X9_isCell) rfl rfl rfl (hk.2.1 _ nw_11) (hts _ (tw1 (i := 2) rfl)) hd_X9_isCell.2 ⟨Nat.le_trans (by decide) hR1, Nat.le_trans (by decide) hR2⟩, hts _ (tw9 (i := 0) rfl), trivial⟩ (tf_preS hk hW trivial) rfl rfl hl.1 rfl (lv_room (Nat.le_of_ble_eq_true rfl)) dX3_doWork_178 ⟨Nat.zero_le _, Nat.zero_le _⟩) hW (by decide) (fun z57 H57 locs57 hW hF57 hp57 => ?_)
                  have hs58 := tf_keepF hF57 ha0 rfl rfl (by decide) hs44
                  have hs59 := tf_keepF hF57 had2 rfl rfl (by decide) hs45
                  have hs60 := tf_keepF hF57 ha2 rfl rfl (by decide) hs46
                  rcases hp57 with ⟨rfl, h61, h62⟩ | ⟨rfl, h63⟩
                  · refine tf_if_eq (tgt := 226) hx hb ⟨by decide, by decide⟩ dX3_doWork_181 (by decide) (fun h64 => ?_) (fun h64 => ?_)
                    · exfalso; omega
                    · refine lv_aload_n hx hb dX3_doWork_184 rfl (lv_at hl 5 rfl) ?_
                      refine tf_get hx hb hts inlX0 hown hK (ci := 0) rfl hW ha2 rfl 0 rfl (by decide) (hts _ fl_X3_84) dX3_doWork_185 (fun v65 hv65 hsv65 => ?_)
                      obtain rfl : v65 = .ref ad35 := Option.some.inj (hsv65.symm.trans hs60)
                      refine lv_iload hx hb dX3_doWork_188 (lv_at hl 1 rfl) ?_
                      refine tf_calli (va_runSN (As := [.int (Int32.ofInt z20)]) (rest := [.ref ad35]) ⟨hx, hb, hml, hown, hts⟩ (c_X9_spotOf l g T (z20) ⟨by omega, by omega⟩) ⟨va_cnB 1 hts (gw_ws cm_X9_spotOf) rfl rfl rfl (hk.2.1 _ nw_12) (hts _ (tw1 (i := 2) rfl)) hd_X9_spotOf.2 ⟨Nat.le_trans (by decide) hR1, Nat.le_trans (by decide) hR2⟩, hts _ (tw9 (i := 2) rfl), trivial⟩ (tf_preS hk hW trivial) rfl rfl hl.1 rfl (lv_room (Nat.le_of_ble_eq_true rfl)) dX3_doWork_190 ⟨Nat.zero_le _, Nat.zero_le _⟩) hW (by decide) (fun z66 H66 locs66 hW hF66 hp66 => ?_)
                      have hs67 := tf_keepF hF66 ha0 rfl rfl (by decide) hs58
                      have hs68 := tf_keepF hF66 had2 rfl rfl (by decide) hs59
                      have hs69 := tf_keepF hF66 ha2 rfl rfl (by decide) hs60
                      obtain ⟨hp66_0, hp66_1⟩ := hp66
                      refine tf_iald (t0 := 0) hx hb hK hW had35 rfl rfl (by omega) (by omega) dX3_doWork_193 (fun v70 hv70 hsv70 => ?_)
                      obtain ⟨z71, rfl, hz71⟩ := tf_v0 hv70
                      refine tf_if_ne (tgt := 226) hx hb ⟨by omega, by omega⟩ dX3_doWork_194 (by decide) (fun h72 => ?_) (fun h72 => ?_)
                      · exact tf_retv hx hb hr hlocks hQ hW trivial dX3_doWork_226
                      · refine lv_aload_n hx hb dX3_doWork_197 rfl (lv_at hl 5 rfl) ?_
                        refine tf_get hx hb hts inlX0 hown hK (ci := 0) rfl hW ha2 rfl 3 rfl (by decide) (hts _ fl_X3_146) dX3_doWork_198 (fun v73 hv73 hsv73 => ?_)
                        obtain ⟨ad74, rfl, had74⟩ := tf_v1 hv73
                        refine lv_iload hx hb dX3_doWork_201 (lv_at hl 0 rfl) ?_
                        refine tf_iald (t0 := 0) hx hb hK hW had74 rfl rfl (by omega) (by omega) dX3_doWork_203 (fun v75 hv75 hsv75 => ?_)
                        obtain ⟨z76, rfl, hz76⟩ := tf_v0 hv75
                        refine lv_istore (lv' := [(6, .int (Int32.ofInt z76)), (5, .int (Int32.ofInt z43)), (4, .int (Int32.ofInt z20)), (3, .int (Int32.ofInt z15)), (0, .ref a0), (1, .int (Int32.ofInt x1)), (2, .ref a2)]) hx hb dX3_doWork_204 hl (by decide) rfl (fun ls hl => ?_)
                        refine lv_aload_n hx hb dX3_doWork_206 rfl (lv_at hl 6 rfl) ?_
                        refine tf_get hx hb hts inlX0 hown hK (ci := 0) rfl hW ha2 rfl 3 rfl (by decide) (hts _ fl_X3_146) dX3_doWork_207 (fun v77 hv77 hsv77 => ?_)
                        obtain rfl : v77 = .ref ad74 := Option.some.inj (hsv77.symm.trans hsv73)
                        refine lv_iload hx hb dX3_doWork_210 (lv_at hl 1 rfl) ?_
                        refine tf_iconst hx hb dX3_doWork_212 ?_
                        refine tf_iast (t0 := 0) hx hb hK hW had74 rfl rfl (by omega) (by omega) (by decide) (tf_u0 (by omega) (by omega)) dX3_doWork_213 (fun H78 locs78 hW hs78 ht78 hq78 => ?_)
                        have hs79 := tf_keepQ hs67 (hq78 _ (tf_ne ha0 had74 (by decide)))
                        have hs80 := tf_keepQ hs68 (hq78 _ (tf_ne had2 had74 (by decide)))
                        have hs81 := tf_keepQ hs69 (hq78 _ (tf_ne ha2 had74 (by decide)))
                        have hs82 := tf_keepQ hsv73 (hq78 _ (tf_ne ha2 had74 (by decide)))
                        refine lv_aload_n hx hb dX3_doWork_214 rfl (lv_at hl 6 rfl) ?_
                        refine tf_get hx hb hts inlX0 hown hK (ci := 0) rfl hW ha2 rfl 3 rfl (by decide) (hts _ fl_X3_146) dX3_doWork_215 (fun v83 hv83 hsv83 => ?_)
                        obtain rfl : v83 = .ref ad74 := Option.some.inj (hsv83.symm.trans hs82)
                        refine lv_iload hx hb dX3_doWork_218 (lv_at hl 2 rfl) ?_
                        refine tf_calli (va_runSN (As := [.int (Int32.ofInt z20)]) (rest := [.ref ad74]) ⟨hx, hb, hml, hown, hts⟩ (c_X9_spotOf l g T (z20) ⟨by omega, by omega⟩) ⟨va_cnB 1 hts (gw_ws cm_X9_spotOf) rfl rfl rfl (hk.2.1 _ nw_12) (hts _ (tw1 (i := 2) rfl)) hd_X9_spotOf.2 ⟨Nat.le_trans (by decide) hR1, Nat.le_trans (by decide) hR2⟩, hts _ (tw9 (i := 2) rfl), trivial⟩ (tf_preS hk hW trivial) rfl rfl hl.1 rfl (lv_room (Nat.le_of_ble_eq_true rfl)) dX3_doWork_220 ⟨Nat.zero_le _, Nat.zero_le _⟩) hW (by decide) (fun z84 H84 locs84 hW hF84 hp84 => ?_)
                        have hs85 := tf_keepF hF84 ha0 rfl rfl (by decide) hs79
                        have hs86 := tf_keepF hF84 had2 rfl rfl (by decide) hs80
                        have hs87 := tf_keepF hF84 ha2 rfl rfl (by decide) hs81
                        have hs88 := tf_keepF hF84 ha2 rfl rfl (by decide) hs82
                        obtain ⟨hp84_0, hp84_1⟩ := hp84
                        refine lv_iload hx hb dX3_doWork_223 (lv_at hl 0 rfl) ?_
                        refine tf_iast (t0 := 0) hx hb hK hW had74 rfl rfl (by omega) (by omega) (by decide) (tf_u0 (by omega) (by omega)) dX3_doWork_225 (fun H89 locs89 hW hs89 ht89 hq89 => ?_)
                        have hs90 := tf_keepQ hs85 (hq89 _ (tf_ne ha0 had74 (by decide)))
                        have hs91 := tf_keepQ hs86 (hq89 _ (tf_ne had2 had74 (by decide)))
                        have hs92 := tf_keepQ hs87 (hq89 _ (tf_ne ha2 had74 (by decide)))
                        have hs93 := tf_keepQ hs88 (hq89 _ (tf_ne ha2 had74 (by decide)))
                        exact tf_retv hx hb hr hlocks hQ hW trivial dX3_doWork_226
                  · refine tf_if_eq (tgt := 226) hx hb ⟨by decide, by decide⟩ dX3_doWork_181 (by decide) (fun h94 => ?_) (fun h94 => ?_)
                    · exact tf_retv hx hb hr hlocks hQ hW trivial dX3_doWork_226
                    · exfalso; omega
                · refine lv_aload_n hx hb dX3_doWork_154 rfl (lv_at hl 5 rfl) ?_
                  refine tf_get hx hb hts inlX0 hown hK (ci := 0) rfl hW ha2 rfl 2 rfl (by decide) (hts _ fl_X3_143) dX3_doWork_155 (fun v95 hv95 hsv95 => ?_)
                  obtain ⟨ad96, rfl, had96⟩ := tf_v1 hv95
                  refine lv_iload hx hb dX3_doWork_158 (lv_at hl 0 rfl) ?_
                  refine lv_aload_n hx hb dX3_doWork_160 rfl (lv_at hl 5 rfl) ?_
                  refine tf_get hx hb hts inlX0 hown hK (ci := 0) rfl hW ha2 rfl 2 rfl (by decide) (hts _ fl_X3_143) dX3_doWork_161 (fun v97 hv97 hsv97 => ?_)
                  obtain rfl : v97 = .ref ad96 := Option.some.inj (hsv97.symm.trans hsv95)
                  refine lv_iload hx hb dX3_doWork_164 (lv_at hl 0 rfl) ?_
                  refine tf_iald (t0 := 0) hx hb hK hW had96 rfl rfl (by omega) (by omega) dX3_doWork_166 (fun v98 hv98 hsv98 => ?_)
                  obtain ⟨z99, rfl, hz99⟩ := tf_v0 hv98
                  refine lv_iload hx hb dX3_doWork_167 (lv_at hl 1 rfl) ?_
                  refine tf_mmax hx hb hml hl hown (hts _ (tw48 (i := 12) rfl)) (hts _ (tw10 (i := 1) rfl)) (hts _ (tw10 (i := 2) rfl)) (hts _ (tw10 (i := 3) rfl)) ⟨by omega, by omega⟩ ⟨by omega, by omega⟩ (Nat.le_of_ble_eq_true rfl) (Nat.le_trans (by decide) hR1) (Nat.le_trans (by decide) hR2) (Nat.zero_le _) (Nat.zero_le _) dX3_doWork_169 (fun z100 hz100 => ?_)
                  refine tf_iast (t0 := 0) hx hb hK hW had96 rfl rfl (by omega) (by omega) (by decide) (tf_u0 (by omega) (by omega)) dX3_doWork_172 (fun H101 locs101 hW hs101 ht101 hq101 => ?_)
                  have hs102 := tf_keepQ hs44 (hq101 _ (tf_ne ha0 had96 (by decide)))
                  have hs103 := tf_keepQ hs45 (hq101 _ (tf_ne had2 had96 (by decide)))
                  have hs104 := tf_keepQ hs46 (hq101 _ (tf_ne ha2 had96 (by decide)))
                  have hs105 := tf_keepQ hsv95 (hq101 _ (tf_ne ha2 had96 (by decide)))
                  refine lv_goto (tgt := 226) hx hb dX3_doWork_173 (by decide) ?_
                  exact tf_retv hx hb hr hlocks hQ hW trivial dX3_doWork_226
              · refine lv_aload_n hx hb dX3_doWork_116 rfl (lv_at hl 5 rfl) ?_
                refine tf_get hx hb hts inlX0 hown hK (ci := 0) rfl hW ha2 rfl 1 rfl (by decide) (hts _ fl_X3_137) dX3_doWork_117 (fun v106 hv106 hsv106 => ?_)
                obtain ⟨ad107, rfl, had107⟩ := tf_v1 hv106
                refine lv_iload hx hb dX3_doWork_120 (lv_at hl 0 rfl) ?_
                refine tf_bipush hx hb dX3_doWork_122 (by decide) ?_
                refine lv_aload_n hx hb dX3_doWork_124 rfl (lv_at hl 5 rfl) ?_
                refine tf_get hx hb hts inlX0 hown hK (ci := 0) rfl hW ha2 rfl 1 rfl (by decide) (hts _ fl_X3_137) dX3_doWork_125 (fun v108 hv108 hsv108 => ?_)
                obtain rfl : v108 = .ref ad107 := Option.some.inj (hsv108.symm.trans hsv106)
                refine lv_iload hx hb dX3_doWork_128 (lv_at hl 0 rfl) ?_
                refine tf_iald (t0 := 0) hx hb hK hW had107 rfl rfl (by omega) (by omega) dX3_doWork_130 (fun v109 hv109 hsv109 => ?_)
                obtain ⟨z110, rfl, hz110⟩ := tf_v0 hv109
                refine lv_iload hx hb dX3_doWork_131 (lv_at hl 1 rfl) ?_
                refine tf_iadd_any hx hb dX3_doWork_133 (fun z111 hz111 => ?_)
                refine tf_mmin hx hb hml hl hown (hts _ (tw48 (i := 14) rfl)) (hts _ (tw18 (i := 17) rfl)) (hts _ (tw10 (i := 2) rfl)) (hts _ (tw18 (i := 18) rfl)) ⟨by decide, by decide⟩ ⟨by omega, by omega⟩ (Nat.le_of_ble_eq_true rfl) (Nat.le_trans (by decide) hR1) (Nat.le_trans (by decide) hR2) (Nat.zero_le _) (Nat.zero_le _) dX3_doWork_134 (fun z112 hz112 => ?_)
                refine tf_iast (t0 := 0) hx hb hK hW had107 rfl rfl (by omega) (by omega) (by decide) (tf_u0 (by omega) (by omega)) dX3_doWork_137 (fun H113 locs113 hW hs113 ht113 hq113 => ?_)
                have hs114 := tf_keepQ hs44 (hq113 _ (tf_ne ha0 had107 (by decide)))
                have hs115 := tf_keepQ hs45 (hq113 _ (tf_ne had2 had107 (by decide)))
                have hs116 := tf_keepQ hs46 (hq113 _ (tf_ne ha2 had107 (by decide)))
                have hs117 := tf_keepQ hsv106 (hq113 _ (tf_ne ha2 had107 (by decide)))
                refine lv_goto (tgt := 226) hx hb dX3_doWork_138 (by decide) ?_
                exact tf_retv hx hb hr hlocks hQ hW trivial dX3_doWork_226
            · exact tf_retv hx hb hr hlocks hQ hW trivial dX3_doWork_97
        · refine tf_if_eq (tgt := 97) hx hb ⟨by decide, by decide⟩ dX3_doWork_82 (by decide) (fun h118 => ?_) (fun h118 => ?_)
          · exact tf_retv hx hb hr hlocks hQ hW trivial dX3_doWork_97
          · exfalso; omega
      · refine lv_aload_n hx hb dX3_doWork_52 rfl (lv_at hl 2 rfl) ?_
        refine tf_get hx hb hts inlX3 hown hK (ci := 3) rfl hW ha0 rfl 1 rfl (by decide) (hts _ fl_X3_21) dX3_doWork_53 (fun v119 hv119 hsv119 => ?_)
        obtain ⟨ad120, rfl, had120⟩ := tf_v1 hv119
        refine lv_iload_n hx hb dX3_doWork_56 rfl (lv_at hl 1 rfl) ?_
        refine tf_iconst hx hb dX3_doWork_57 ?_
        refine lv_aload_n hx hb dX3_doWork_58 rfl (lv_at hl 2 rfl) ?_
        refine tf_get hx hb hts inlX3 hown hK (ci := 3) rfl hW ha0 rfl 1 rfl (by decide) (hts _ fl_X3_21) dX3_doWork_59 (fun v121 hv121 hsv121 => ?_)
        obtain rfl : v121 = .ref ad120 := Option.some.inj (hsv121.symm.trans hsv119)
        refine lv_iload_n hx hb dX3_doWork_62 rfl (lv_at hl 1 rfl) ?_
        refine lv_aload_n hx hb dX3_doWork_63 rfl (lv_at hl 4 rfl) ?_
        refine tf_calli (va_runV (As := [.int (Int32.ofInt z15), .ref a2]) (rest := [.int (Int32.ofInt 1), .int (Int32.ofInt z15), .ref ad120]) ⟨hx, hb, hml, hown, hts⟩ (c_X5_highOf l g T ad120 had120 (z15) ⟨by omega, by omega⟩ a2 ha2) (cwV 2 hts gv_X3_123 rfl rfl rfl hd_X5_highOf ⟨Nat.le_trans (by decide) hR1, Nat.le_trans (by decide) hR2⟩) (tf_preV hk hW had120 (ci := 5) rfl rfl trivial) rfl rfl hl.1 rfl (lv_room (Nat.le_of_ble_eq_true rfl)) dX3_doWork_64 ⟨Nat.zero_le _, Nat.zero_le _⟩) hW (by decide) (fun z122 H122 locs122 hW hF122 hp122 => ?_)
        have hs123 := tf_keepF hF122 ha0 rfl rfl (by decide) hs6
        have hs124 := tf_keepF hF122 had2 rfl rfl (by decide) hsv22
        have hs125 := tf_keepF hF122 ha0 rfl rfl (by decide) hsv119
        obtain ⟨hp122_0, hp122_1⟩ := hp122
        refine lv_iload hx hb dX3_doWork_67 (lv_at hl 0 rfl) ?_
        refine tf_isub_any hx hb dX3_doWork_69 (fun z126 hz126 => ?_)
        refine tf_mmax hx hb hml hl hown (hts _ (tw48 (i := 12) rfl)) (hts _ (tw10 (i := 1) rfl)) (hts _ (tw10 (i := 2) rfl)) (hts _ (tw10 (i := 3) rfl)) ⟨by decide, by decide⟩ ⟨by omega, by omega⟩ (Nat.le_of_ble_eq_true rfl) (Nat.le_trans (by decide) hR1) (Nat.le_trans (by decide) hR2) (Nat.zero_le _) (Nat.zero_le _) dX3_doWork_70 (fun z127 hz127 => ?_)
        refine lv_aload_n hx hb dX3_doWork_73 rfl (lv_at hl 4 rfl) ?_
        refine tf_callv (va_runV (As := [.int (Int32.ofInt z15), .int (Int32.ofInt z127), .ref a2]) (rest := []) ⟨hx, hb, hml, hown, hts⟩ (c_X5_makeHigh l g T ad120 had120 (z15) ⟨by omega, by omega⟩ (z127) ⟨by omega, by omega⟩ a2 ha2) (cwV 3 hts gv_X3_133 rfl rfl rfl hd_X5_makeHigh ⟨Nat.le_trans (by decide) hR1, Nat.le_trans (by decide) hR2⟩) (tf_preV hk hW had120 (ci := 5) rfl rfl trivial) rfl rfl hl.1 rfl (lv_room (Nat.le_of_ble_eq_true rfl)) dX3_doWork_74 ⟨Nat.zero_le _, Nat.zero_le _⟩) hW (by decide) (fun H128 locs128 hW hF128 hp128 => ?_)
        have hs129 := tf_keepF hF128 ha0 rfl rfl (by decide) hs123
        have hs130 := tf_keepF hF128 had2 rfl rfl (by decide) hs124
        have hs131 := tf_keepF hF128 ha0 rfl rfl (by decide) hs125
        exact tf_retv hx hb hr hlocks hQ hW trivial dX3_doWork_77
    · exfalso; omega
  · refine tf_if_ne (tgt := 18) hx hb ⟨by decide, by decide⟩ dX3_doWork_14 (by decide) (fun h132 => ?_) (fun h132 => ?_)
    · exfalso; omega
    · exact tf_retv hx hb hr hlocks hQ hW trivial dX3_doWork_17

abbrev M_X3_setHours : List (Nat × Nat) := [(6, 0), (7, 0)]
set_option maxHeartbeats 4000000 in
set_option maxRecDepth 100000 in
theorem c_X3_setHours (l : Launch) (g : tf_G) (T : tf_T) (a0 : Nat) (ha0 : T a0 = some (20, 0)) (x1 : Int) (hp1 : (-2147483648) ≤ x1 ∧ x1 ≤ 2147483647) (x2 : Int) (hp2 : (-2147483648) ≤ x2 ∧ x2 ≤ 2147483647) (x3 : Int) (hp3 : (-2147483648) ≤ x3 ∧ x3 ≤ 2147483647) : Met l yX3_setHours (cd_X3_setHours :: wsL_law) ({ frames := 2, cells := 0, slots := 0, locals := 44 }) (tf_P g T [.ref a0, .int (Int32.ofInt x1), .int (Int32.ofInt x2), .int (Int32.ofInt x3)] (fun H => True)) (tf_Qi g M_X3_setHours T (fun z _ _ => (-2147483648) ≤ z ∧ z ≤ 2147483647)) 0 0 (fun q => tf_B g ≤ q) := by
  refine Met.ofW (cc := cX3_setHours) (maxL := 5) (ret := (some .int)) (by decide) rfl ?_
  intro p e s m args below meth c s₁ B hml hv
  obtain ⟨hargs, hk, hW0, hB, hpre⟩ := hv
  have hx := B.exec
  have hb := B.bytes
  have hr := B.returns
  have hts : ∀ w ∈ wsL_law, w.before args s = true := fun w h => atoms_spec (ws := cd_X3_setHours :: wsL_law) B.pre w (List.mem_cons_of_mem _ h)
  have hown : s.vm.findClass RX3 = some m.cls := findClass_of_methodNamed B.named
  have hlocks := B.notSynchronized
  have hK := hk.1
  have hW := tf_n.start (M := M_X3_setHours) hW0 hB
  obtain ⟨Q, hQ⟩ : ∃ q, q = MQ below (tf_Qi g M_X3_setHours T (fun z _ _ => (-2147483648) ≤ z ∧ z ≤ 2147483647)) args s 0 0 (fun q => tf_B g ≤ q) := ⟨_, rfl⟩
  rw [← hQ]
  obtain ⟨R, hR⟩ : ∃ q, q = (headSpec (cd_X3_setHours :: wsL_law) ({ frames := 2, cells := 0, slots := 0, locals := 44 })).room := ⟨_, rfl⟩
  rw [← hR]
  have hR1 : 2 ≤ R.frames := by rw [hR]; exact Nat.le_refl _
  have hR2 : 44 ≤ R.locals := by rw [hR]; exact Nat.le_refl _
  have hR3 : 0 ≤ R.cells := by rw [hR]; exact Nat.le_refl _
  have hR4 : 0 ≤ R.slots := by rw [hR]; exact Nat.le_refl _
  have hin := (name_of_methodNamed B.named B.method).1
  clear hR B
  refine tf_enter (As := [.ref a0, .int (Int32.ofInt x1), .int (Int32.ofInt x2), .int (Int32.ofInt x3)]) hargs (Nat.le_of_ble_eq_true rfl) (fun ls hl => ?_)
  have hl : lv_has ls 5 [(0, .ref a0), (1, .int (Int32.ofInt x1)), (2, .int (Int32.ofInt x2)), (3, .int (Int32.ofInt x3))] := hl
  refine lv_iload_n hx hb dX3_setHours_0 rfl (lv_at hl 1 rfl) ?_
  refine tf_calli (va_runSN (As := [.int (Int32.ofInt x1)]) (rest := []) ⟨hx, hb, hml, hown, hts⟩ (c_X9_isWay l g T (x1) ⟨by omega, by omega⟩) ⟨va_cnB 1 hts (gw_ws cm_X9_isWay) rfl rfl rfl (hk.2.1 _ nw_15) (hts _ (tw1 (i := 2) rfl)) hd_X9_isWay.2 ⟨Nat.le_trans (by decide) hR1, Nat.le_trans (by decide) hR2⟩, hts _ (tw16 (i := 18) rfl), trivial⟩ (tf_preS hk hW trivial) rfl rfl hl.1 rfl (lv_room (Nat.le_of_ble_eq_true rfl)) dX3_setHours_1 ⟨Nat.zero_le _, Nat.zero_le _⟩) hW (by decide) (fun z1 H1 locs1 hW hF1 hp1 => ?_)
  rcases hp1 with ⟨rfl, h2, h3⟩ | ⟨rfl, h4⟩
  · refine tf_if_eq (tgt := 14) hx hb ⟨by decide, by decide⟩ dX3_setHours_4 (by decide) (fun h5 => ?_) (fun h5 => ?_)
    · exfalso; omega
    · refine lv_iload_n hx hb dX3_setHours_7 rfl (lv_at hl 2 rfl) ?_
      refine tf_calli (va_runSN (As := [.int (Int32.ofInt x2)]) (rest := []) ⟨hx, hb, hml, hown, hts⟩ (c_X9_isPace l g T (x2) ⟨by omega, by omega⟩) ⟨va_cnB 1 hts (gw_ws cm_X9_isPace) rfl rfl rfl (hk.2.1 _ nw_16) (hts _ (tw1 (i := 2) rfl)) hd_X9_isPace.2 ⟨Nat.le_trans (by decide) hR1, Nat.le_trans (by decide) hR2⟩, hts _ (tw16 (i := 21) rfl), trivial⟩ (tf_preS hk hW trivial) rfl rfl hl.1 rfl (lv_room (Nat.le_of_ble_eq_true rfl)) dX3_setHours_8 ⟨Nat.zero_le _, Nat.zero_le _⟩) hW (by decide) (fun z6 H6 locs6 hW hF6 hp6 => ?_)
      rcases hp6 with ⟨rfl, h7, h8⟩ | ⟨rfl, h9⟩
      · refine tf_if_ne (tgt := 16) hx hb ⟨by decide, by decide⟩ dX3_setHours_11 (by decide) (fun h10 => ?_) (fun h10 => ?_)
        · refine lv_aload_n hx hb dX3_setHours_16 rfl (lv_at hl 0 rfl) ?_
          refine tf_get hx hb hts inlX3 hown hK (ci := 3) rfl hW ha0 rfl 5 rfl (by decide) (hts _ fl_X3_39) dX3_setHours_17 (fun v11 hv11 hsv11 => ?_)
          obtain ⟨ad12, rfl, had12⟩ := tf_v1 hv11
          refine lv_iload_n hx hb dX3_setHours_20 rfl (lv_at hl 1 rfl) ?_
          refine tf_bipush hx hb dX3_setHours_21 (by decide) ?_
          refine tf_imul hx hb dX3_setHours_23 ?_
          refine lv_iload_n hx hb dX3_setHours_24 rfl (lv_at hl 2 rfl) ?_
          refine tf_iadd hx hb dX3_setHours_25 ?_
          refine tf_iald (t0 := 0) hx hb hK hW had12 rfl rfl (by omega) (by omega) dX3_setHours_26 (fun v13 hv13 hsv13 => ?_)
          obtain ⟨z14, rfl, hz14⟩ := tf_v0 hv13
          refine lv_istore (lv' := [(4, .int (Int32.ofInt z14)), (0, .ref a0), (1, .int (Int32.ofInt x1)), (2, .int (Int32.ofInt x2)), (3, .int (Int32.ofInt x3))]) hx hb dX3_setHours_27 hl (by decide) rfl (fun ls hl => ?_)
          refine lv_aload_n hx hb dX3_setHours_29 rfl (lv_at hl 1 rfl) ?_
          refine tf_get hx hb hts inlX3 hown hK (ci := 3) rfl hW ha0 rfl 5 rfl (by decide) (hts _ fl_X3_39) dX3_setHours_30 (fun v15 hv15 hsv15 => ?_)
          obtain rfl : v15 = .ref ad12 := Option.some.inj (hsv15.symm.trans hsv11)
          refine lv_iload_n hx hb dX3_setHours_33 rfl (lv_at hl 2 rfl) ?_
          refine tf_bipush hx hb dX3_setHours_34 (by decide) ?_
          refine tf_imul hx hb dX3_setHours_36 ?_
          refine lv_iload_n hx hb dX3_setHours_37 rfl (lv_at hl 3 rfl) ?_
          refine tf_iadd hx hb dX3_setHours_38 ?_
          refine lv_iload_n hx hb dX3_setHours_39 rfl (lv_at hl 4 rfl) ?_
          refine tf_iast (t0 := 0) hx hb hK hW had12 rfl rfl (by omega) (by omega) (by decide) (tf_u0 (by omega) (by omega)) dX3_setHours_40 (fun H16 locs16 hW hs16 ht16 hq16 => ?_)
          have hs17 := tf_keepQ hsv11 (hq16 _ (tf_ne ha0 had12 (by decide)))
          refine lv_aload_n hx hb dX3_setHours_41 rfl (lv_at hl 1 rfl) ?_
          refine tf_get hx hb hts inlX3 hown hK (ci := 3) rfl hW ha0 rfl 6 rfl (by decide) (hts _ fl_X3_42) dX3_setHours_42 (fun v18 hv18 hsv18 => ?_)
          obtain ⟨ad19, rfl, had19⟩ := tf_v1 hv18
          refine lv_iload_n hx hb dX3_setHours_45 rfl (lv_at hl 2 rfl) ?_
          refine lv_dup2_11 hx hb dX3_setHours_46 rfl rfl ?_
          refine tf_iald (t0 := 0) hx hb hK hW had19 rfl rfl (by omega) (by omega) dX3_setHours_47 (fun v20 hv20 hsv20 => ?_)
          obtain ⟨z21, rfl, hz21⟩ := tf_v0 hv20
          refine lv_iload_n hx hb dX3_setHours_48 rfl (lv_at hl 4 rfl) ?_
          refine lv_iload hx hb dX3_setHours_49 (lv_at hl 0 rfl) ?_
          refine tf_isub_any hx hb dX3_setHours_51 (fun z22 hz22 => ?_)
          refine tf_iadd_any hx hb dX3_setHours_52 (fun z23 hz23 => ?_)
          refine tf_iast (t0 := 0) hx hb hK hW had19 rfl rfl (by omega) (by omega) (by decide) (tf_u0 (by omega) (by omega)) dX3_setHours_53 (fun H24 locs24 hW hs24 ht24 hq24 => ?_)
          have hs25 := tf_keepQ hs17 (hq24 _ (tf_ne ha0 had19 (by decide)))
          refine lv_iload hx hb dX3_setHours_54 (lv_at hl 0 rfl) ?_
          exact tf_reti (z := z14) hx hb hr hlocks hQ hW (show (-2147483648) ≤ (z14) ∧ (z14) ≤ 2147483647 by omega) dX3_setHours_56
        · exfalso; omega
      · refine tf_if_ne (tgt := 16) hx hb ⟨by decide, by decide⟩ dX3_setHours_11 (by decide) (fun h26 => ?_) (fun h26 => ?_)
        · exfalso; omega
        · refine tf_iconst hx hb dX3_setHours_14 ?_
          exact tf_reti (z := (-1)) hx hb hr hlocks hQ hW (show (-2147483648) ≤ ((-1)) ∧ ((-1)) ≤ 2147483647 by omega) dX3_setHours_15
  · refine tf_if_eq (tgt := 14) hx hb ⟨by decide, by decide⟩ dX3_setHours_4 (by decide) (fun h27 => ?_) (fun h27 => ?_)
    · refine tf_iconst hx hb dX3_setHours_14 ?_
      exact tf_reti (z := (-1)) hx hb hr hlocks hQ hW (show (-2147483648) ≤ ((-1)) ∧ ((-1)) ≤ 2147483647 by omega) dX3_setHours_15
    · exfalso; omega

abbrev M_X3_allHours : List (Nat × Nat) := []
set_option maxHeartbeats 4000000 in
set_option maxRecDepth 100000 in
theorem c_X3_allHours (l : Launch) (g : tf_G) (T : tf_T) (a0 : Nat) (ha0 : T a0 = some (20, 0)) : Met l yX3_allHours (cd_X3_allHours :: wsL_law) ({ frames := 1, cells := 0, slots := 0, locals := 24 }) (tf_P g T [.ref a0] (fun H => True)) (tf_Qi g M_X3_allHours T (fun z _ _ => (-2147483648) ≤ z ∧ z ≤ 2147483647)) 0 0 (fun q => tf_B g ≤ q) := by
  refine Met.ofW (cc := cX3_allHours) (maxL := 1) (ret := (some .int)) (by decide) rfl ?_
  intro p e s m args below meth c s₁ B hml hv
  obtain ⟨hargs, hk, hW0, hB, hpre⟩ := hv
  have hx := B.exec
  have hb := B.bytes
  have hr := B.returns
  have hts : ∀ w ∈ wsL_law, w.before args s = true := fun w h => atoms_spec (ws := cd_X3_allHours :: wsL_law) B.pre w (List.mem_cons_of_mem _ h)
  have hown : s.vm.findClass RX3 = some m.cls := findClass_of_methodNamed B.named
  have hlocks := B.notSynchronized
  have hK := hk.1
  have hW := tf_n.start (M := M_X3_allHours) hW0 hB
  obtain ⟨Q, hQ⟩ : ∃ q, q = MQ below (tf_Qi g M_X3_allHours T (fun z _ _ => (-2147483648) ≤ z ∧ z ≤ 2147483647)) args s 0 0 (fun q => tf_B g ≤ q) := ⟨_, rfl⟩
  rw [← hQ]
  obtain ⟨R, hR⟩ : ∃ q, q = (headSpec (cd_X3_allHours :: wsL_law) ({ frames := 1, cells := 0, slots := 0, locals := 24 })).room := ⟨_, rfl⟩
  rw [← hR]
  have hR1 : 1 ≤ R.frames := by rw [hR]; exact Nat.le_refl _
  have hR2 : 24 ≤ R.locals := by rw [hR]; exact Nat.le_refl _
  have hR3 : 0 ≤ R.cells := by rw [hR]; exact Nat.le_refl _
  have hR4 : 0 ≤ R.slots := by rw [hR]; exact Nat.le_refl _
  have hin := (name_of_methodNamed B.named B.method).1
  clear hR B
  refine tf_enter (As := [.ref a0]) hargs (Nat.le_of_ble_eq_true rfl) (fun ls hl => ?_)
  have hl : lv_has ls 1 [(0, .ref a0)] := hl
  refine lv_aload_n hx hb dX3_allHours_0 rfl (lv_at hl 0 rfl) ?_
  refine tf_get hx hb hts inlX3 hown hK (ci := 3) rfl hW ha0 rfl 6 rfl (by decide) (hts _ fl_X3_42) dX3_allHours_1 (fun v1 hv1 hsv1 => ?_)
  obtain ⟨ad2, rfl, had2⟩ := tf_v1 hv1
  refine tf_iconst hx hb dX3_allHours_4 ?_
  refine tf_iald (t0 := 0) hx hb hK hW had2 rfl rfl (by omega) (by omega) dX3_allHours_5 (fun v3 hv3 hsv3 => ?_)
  obtain ⟨z4, rfl, hz4⟩ := tf_v0 hv3
  refine lv_aload_n hx hb dX3_allHours_6 rfl (lv_at hl 0 rfl) ?_
  refine tf_get hx hb hts inlX3 hown hK (ci := 3) rfl hW ha0 rfl 6 rfl (by decide) (hts _ fl_X3_42) dX3_allHours_7 (fun v5 hv5 hsv5 => ?_)
  obtain rfl : v5 = .ref ad2 := Option.some.inj (hsv5.symm.trans hsv1)
  refine tf_iconst hx hb dX3_allHours_10 ?_
  refine tf_iald (t0 := 0) hx hb hK hW had2 rfl rfl (by omega) (by omega) dX3_allHours_11 (fun v6 hv6 hsv6 => ?_)
  obtain ⟨z7, rfl, hz7⟩ := tf_v0 hv6
  refine tf_iadd_any hx hb dX3_allHours_12 (fun z8 hz8 => ?_)
  refine lv_aload_n hx hb dX3_allHours_13 rfl (lv_at hl 0 rfl) ?_
  refine tf_get hx hb hts inlX3 hown hK (ci := 3) rfl hW ha0 rfl 6 rfl (by decide) (hts _ fl_X3_42) dX3_allHours_14 (fun v9 hv9 hsv9 => ?_)
  obtain rfl : v9 = .ref ad2 := Option.some.inj (hsv9.symm.trans hsv1)
  refine tf_iconst hx hb dX3_allHours_17 ?_
  refine tf_iald (t0 := 0) hx hb hK hW had2 rfl rfl (by omega) (by omega) dX3_allHours_18 (fun v10 hv10 hsv10 => ?_)
  obtain ⟨z11, rfl, hz11⟩ := tf_v0 hv10
  refine tf_iadd_any hx hb dX3_allHours_19 (fun z12 hz12 => ?_)
  refine lv_aload_n hx hb dX3_allHours_20 rfl (lv_at hl 0 rfl) ?_
  refine tf_get hx hb hts inlX3 hown hK (ci := 3) rfl hW ha0 rfl 6 rfl (by decide) (hts _ fl_X3_42) dX3_allHours_21 (fun v13 hv13 hsv13 => ?_)
  obtain rfl : v13 = .ref ad2 := Option.some.inj (hsv13.symm.trans hsv1)
  refine tf_iconst hx hb dX3_allHours_24 ?_
  refine tf_iald (t0 := 0) hx hb hK hW had2 rfl rfl (by omega) (by omega) dX3_allHours_25 (fun v14 hv14 hsv14 => ?_)
  obtain ⟨z15, rfl, hz15⟩ := tf_v0 hv14
  refine tf_iadd_any hx hb dX3_allHours_26 (fun z16 hz16 => ?_)
  exact tf_reti (z := z16) hx hb hr hlocks hQ hW (show (-2147483648) ≤ (z16) ∧ (z16) ≤ 2147483647 by omega) dX3_allHours_27

abbrev M_X3_hourOf : List (Nat × Nat) := []
set_option maxHeartbeats 4000000 in
set_option maxRecDepth 100000 in
theorem c_X3_hourOf (l : Launch) (g : tf_G) (T : tf_T) (a0 : Nat) (ha0 : T a0 = some (20, 0)) (x1 : Int) (hp1 : (-2147483648) ≤ x1 ∧ x1 ≤ 2147483647) : Met l yX3_hourOf (cd_X3_hourOf :: wsL_law) ({ frames := 1, cells := 0, slots := 0, locals := 24 }) (tf_P g T [.ref a0, .int (Int32.ofInt x1)] (fun H => True)) (tf_Qi g M_X3_hourOf T (fun z _ _ => (-2147483648) ≤ z ∧ z ≤ 2147483647)) 0 0 (fun q => tf_B g ≤ q) := by
  refine Met.ofW (cc := cX3_hourOf) (maxL := 4) (ret := (some .int)) (by decide) rfl ?_
  intro p e s m args below meth c s₁ B hml hv
  obtain ⟨hargs, hk, hW0, hB, hpre⟩ := hv
  have hx := B.exec
  have hb := B.bytes
  have hr := B.returns
  have hts : ∀ w ∈ wsL_law, w.before args s = true := fun w h => atoms_spec (ws := cd_X3_hourOf :: wsL_law) B.pre w (List.mem_cons_of_mem _ h)
  have hown : s.vm.findClass RX3 = some m.cls := findClass_of_methodNamed B.named
  have hlocks := B.notSynchronized
  have hK := hk.1
  have hW := tf_n.start (M := M_X3_hourOf) hW0 hB
  obtain ⟨Q, hQ⟩ : ∃ q, q = MQ below (tf_Qi g M_X3_hourOf T (fun z _ _ => (-2147483648) ≤ z ∧ z ≤ 2147483647)) args s 0 0 (fun q => tf_B g ≤ q) := ⟨_, rfl⟩
  rw [← hQ]
  obtain ⟨R, hR⟩ : ∃ q, q = (headSpec (cd_X3_hourOf :: wsL_law) ({ frames := 1, cells := 0, slots := 0, locals := 24 })).room := ⟨_, rfl⟩
  rw [← hR]
  have hR1 : 1 ≤ R.frames := by rw [hR]; exact Nat.le_refl _
  have hR2 : 24 ≤ R.locals := by rw [hR]; exact Nat.le_refl _
  have hR3 : 0 ≤ R.cells := by rw [hR]; exact Nat.le_refl _
  have hR4 : 0 ≤ R.slots := by rw [hR]; exact Nat.le_refl _
  have hin := (name_of_methodNamed B.named B.method).1
  clear hR B
  have j_4 : ∀ (n_4 : Nat), ∀ (x2_4 : Int), (-2147483648) ≤ x2_4 ∧ x2_4 ≤ 2147483647 → ∀ (x3_4 : Int), 0 ≤ x3_4 ∧ x3_4 ≤ 40 → (40 - x3_4 + 1 ≤ (n_4 : Int)) → ∀ (H : Heap) (locs : List Loc), tf_n tf_kt g M_X3_hourOf T s.heap T H locs → ∀ (ls : Array Slot), lv_has ls 4 [(0, .ref a0), (2, .int (Int32.ofInt x2_4)), (3, .int (Int32.ofInt x3_4))] → W p l e R s m args below meth c H locs 0 0 Q (F0 m 4 ls []) := by
    intro n_4
    induction n_4 with
    | zero =>
      intro x2_4 hx2_4 x3_4 hx3_4 hm_4
      exfalso; omega
    | succ n_4 ih_4 =>
      intro x2_4 hx2_4 x3_4 hx3_4 hm_4 H locs hW  ls hl
      refine lv_iload_n hx hb dX3_hourOf_4 rfl (lv_at hl 2 rfl) ?_
      refine tf_bipush hx hb dX3_hourOf_5 (by decide) ?_
      refine tf_icmp_ge (tgt := 37) hx hb ⟨by omega, by omega⟩ ⟨by decide, by decide⟩ dX3_hourOf_7 (by decide) (fun h1 => ?_) (fun h1 => ?_)
      · refine tf_iconst hx hb dX3_hourOf_37 ?_
        exact tf_reti (z := 0) hx hb hr hlocks hQ hW (show (-2147483648) ≤ (0) ∧ (0) ≤ 2147483647 by omega) dX3_hourOf_38
      · refine lv_iload_n hx hb dX3_hourOf_10 rfl (lv_at hl 1 rfl) ?_
        refine lv_aload_n hx hb dX3_hourOf_11 rfl (lv_at hl 0 rfl) ?_
        refine tf_get hx hb hts inlX3 hown hK (ci := 3) rfl hW ha0 rfl 5 rfl (by decide) (hts _ fl_X3_39) dX3_hourOf_12 (fun v2 hv2 hsv2 => ?_)
        obtain ⟨ad3, rfl, had3⟩ := tf_v1 hv2
        refine lv_iload_n hx hb dX3_hourOf_15 rfl (lv_at hl 2 rfl) ?_
        refine tf_iald (t0 := 0) hx hb hK hW had3 rfl rfl (by omega) (by omega) dX3_hourOf_16 (fun v4 hv4 hsv4 => ?_)
        obtain ⟨z5, rfl, hz5⟩ := tf_v0 hv4
        refine tf_icmp_ge (tgt := 22) hx hb ⟨by omega, by omega⟩ ⟨by omega, by omega⟩ dX3_hourOf_17 (by decide) (fun h6 => ?_) (fun h6 => ?_)
        · refine lv_iload_n hx hb dX3_hourOf_22 rfl (lv_at hl 1 rfl) ?_
          refine lv_aload_n hx hb dX3_hourOf_23 rfl (lv_at hl 0 rfl) ?_
          refine tf_get hx hb hts inlX3 hown hK (ci := 3) rfl hW ha0 rfl 5 rfl (by decide) (hts _ fl_X3_39) dX3_hourOf_24 (fun v7 hv7 hsv7 => ?_)
          obtain rfl : v7 = .ref ad3 := Option.some.inj (hsv7.symm.trans hsv2)
          refine lv_iload_n hx hb dX3_hourOf_27 rfl (lv_at hl 2 rfl) ?_
          refine tf_iald (t0 := 0) hx hb hK hW had3 rfl rfl (by omega) (by omega) dX3_hourOf_28 (fun v8 hv8 hsv8 => ?_)
          obtain ⟨z9, rfl, hz9⟩ := tf_v0 hv8
          refine tf_isub_any hx hb dX3_hourOf_29 (fun z10 hz10 => ?_)
          refine lv_istore_n (lv' := [(2, .int (Int32.ofInt z10)), (0, .ref a0), (3, .int (Int32.ofInt x3_4))]) hx hb dX3_hourOf_30 rfl hl (by decide) rfl (fun ls hl => ?_)
          refine lv_iinc (v := Int32.ofInt ((x3_4 + 1))) (lv' := [(3, .int (Int32.ofInt ((x3_4 + 1)))), (2, .int (Int32.ofInt z10)), (0, .ref a0)]) hx hb dX3_hourOf_31 hl (k := 2) rfl (Int32.ofInt_add _ _).symm (by decide) rfl (fun ls hl => ?_)
          refine lv_goto (tgt := 4) hx hb dX3_hourOf_34 (by decide) ?_
          exact ih_4 (z10) ⟨by omega, by omega⟩ ((x3_4 + 1)) ⟨by omega, by omega⟩ (by omega) _ _ hW  _ (lv_sub hl [2, 1, 0] rfl)
        · refine lv_iload_n hx hb dX3_hourOf_20 rfl (lv_at hl 2 rfl) ?_
          exact tf_reti (z := x3_4) hx hb hr hlocks hQ hW (show (-2147483648) ≤ (x3_4) ∧ (x3_4) ≤ 2147483647 by omega) dX3_hourOf_21
  refine tf_enter (As := [.ref a0, .int (Int32.ofInt x1)]) hargs (Nat.le_of_ble_eq_true rfl) (fun ls hl => ?_)
  have hl : lv_has ls 4 [(0, .ref a0), (1, .int (Int32.ofInt x1))] := hl
  refine lv_iload_n hx hb dX3_hourOf_0 rfl (lv_at hl 1 rfl) ?_
  refine lv_istore_n (lv' := [(2, .int (Int32.ofInt x1)), (0, .ref a0), (1, .int (Int32.ofInt x1))]) hx hb dX3_hourOf_1 rfl hl (by decide) rfl (fun ls hl => ?_)
  refine tf_iconst hx hb dX3_hourOf_2 ?_
  refine lv_istore_n (lv' := [(3, .int (Int32.ofInt 0)), (2, .int (Int32.ofInt x1)), (0, .ref a0), (1, .int (Int32.ofInt x1))]) hx hb dX3_hourOf_3 rfl hl (by decide) rfl (fun ls hl => ?_)
  exact j_4 ((40 - 0 + 1 : Int)).toNat (x1) ⟨by omega, by omega⟩ (0) ⟨by omega, by omega⟩ (by omega) _ _ hW  _ (lv_sub hl [2, 1, 0] rfl)

abbrev M_X3_lawInForce : List (Nat × Nat) := []
set_option maxHeartbeats 4000000 in
set_option maxRecDepth 100000 in
theorem c_X3_lawInForce (l : Launch) (g : tf_G) (T : tf_T) (a0 : Nat) (ha0 : T a0 = some (20, 0)) : Met l yX3_lawInForce (cd_X3_lawInForce :: wsL_law) ({ frames := 2, cells := 0, slots := 0, locals := 46 }) (tf_P g T [.ref a0] (fun H => True)) (tf_Qa g M_X3_lawInForce T (fun z _ _ => tf_v T 0 (2, 18, 0, 0, 0) z)) 0 0 (fun q => tf_B g ≤ q) := by
  refine Met.ofW (cc := cX3_lawInForce) (maxL := 1) (ret := (some (.object "TowerFoot$Law"))) (by decide) rfl ?_
  intro p e s m args below meth c s₁ B hml hv
  obtain ⟨hargs, hk, hW0, hB, hpre⟩ := hv
  have hx := B.exec
  have hb := B.bytes
  have hr := B.returns
  have hts : ∀ w ∈ wsL_law, w.before args s = true := fun w h => atoms_spec (ws := cd_X3_lawInForce :: wsL_law) B.pre w (List.mem_cons_of_mem _ h)
  have hown : s.vm.findClass RX3 = some m.cls := findClass_of_methodNamed B.named
  have hlocks := B.notSynchronized
  have hK := hk.1
  have hW := tf_n.start (M := M_X3_lawInForce) hW0 hB
  obtain ⟨Q, hQ⟩ : ∃ q, q = MQ below (tf_Qa g M_X3_lawInForce T (fun z _ _ => tf_v T 0 (2, 18, 0, 0, 0) z)) args s 0 0 (fun q => tf_B g ≤ q) := ⟨_, rfl⟩
  rw [← hQ]
  obtain ⟨R, hR⟩ : ∃ q, q = (headSpec (cd_X3_lawInForce :: wsL_law) ({ frames := 2, cells := 0, slots := 0, locals := 46 })).room := ⟨_, rfl⟩
  rw [← hR]
  have hR1 : 2 ≤ R.frames := by rw [hR]; exact Nat.le_refl _
  have hR2 : 46 ≤ R.locals := by rw [hR]; exact Nat.le_refl _
  have hR3 : 0 ≤ R.cells := by rw [hR]; exact Nat.le_refl _
  have hR4 : 0 ≤ R.slots := by rw [hR]; exact Nat.le_refl _
  have hin := (name_of_methodNamed B.named B.method).1
  clear hR B
  refine tf_enter (As := [.ref a0]) hargs (Nat.le_of_ble_eq_true rfl) (fun ls hl => ?_)
  have hl : lv_has ls 1 [(0, .ref a0)] := hl
  refine lv_aload_n hx hb dX3_lawInForce_0 rfl (lv_at hl 0 rfl) ?_
  refine tf_get hx hb hts inlX3 hown hK (ci := 3) rfl hW ha0 rfl 9 rfl (by decide) (hts _ fl_X3_55) dX3_lawInForce_1 (fun v1 hv1 hsv1 => ?_)
  obtain ⟨z2, rfl, hz2⟩ := tf_v0 hv1
  refine tf_iconst hx hb dX3_lawInForce_4 ?_
  refine tf_iconst hx hb dX3_lawInForce_5 ?_
  refine tf_calli (va_runSN (As := [.int (Int32.ofInt z2), .int (Int32.ofInt 0), .int (Int32.ofInt 5)]) (rest := []) ⟨hx, hb, hml, hown, hts⟩ (c_X9_isWithin l g T (z2) ⟨by omega, by omega⟩ (0) ⟨by omega, by omega⟩ (5) ⟨by omega, by omega⟩) ⟨va_cnB 3 hts (gw_ws cm_X9_isWithin) rfl rfl rfl (hk.2.1 _ nw_10) (hts _ (tw1 (i := 2) rfl)) hd_X9_isWithin.2 ⟨Nat.le_trans (by decide) hR1, Nat.le_trans (by decide) hR2⟩, hts _ (tw8 (i := 17) rfl), trivial⟩ (tf_preS hk hW trivial) rfl rfl hl.1 rfl (lv_room (Nat.le_of_ble_eq_true rfl)) dX3_lawInForce_6 ⟨Nat.zero_le _, Nat.zero_le _⟩) hW (by decide) (fun z3 H3 locs3 hW hF3 hp3 => ?_)
  have hs4 := tf_keepF hF3 ha0 rfl rfl (by decide) hsv1
  rcases hp3 with ⟨rfl, h5, h6⟩ | ⟨rfl, h7⟩
  · refine tf_if_eq (tgt := 24) hx hb ⟨by decide, by decide⟩ dX3_lawInForce_9 (by decide) (fun h8 => ?_) (fun h8 => ?_)
    · exfalso; omega
    · refine lv_aload_n hx hb dX3_lawInForce_12 rfl (lv_at hl 0 rfl) ?_
      refine tf_get hx hb hts inlX3 hown hK (ci := 3) rfl hW ha0 rfl 7 rfl (by decide) (hts _ fl_X3_47) dX3_lawInForce_13 (fun v9 hv9 hsv9 => ?_)
      obtain ⟨ad10, rfl, had10⟩ := tf_v1 hv9
      refine lv_aload_n hx hb dX3_lawInForce_16 rfl (lv_at hl 0 rfl) ?_
      refine tf_get hx hb hts inlX3 hown hK (ci := 3) rfl hW ha0 rfl 9 rfl (by decide) (hts _ fl_X3_55) dX3_lawInForce_17 (fun v11 hv11 hsv11 => ?_)
      obtain rfl : v11 = .int (Int32.ofInt z2) := Option.some.inj (hsv11.symm.trans hs4)
      refine tf_aald (t0 := 4) hx hb hK hW had10 rfl rfl rfl (by omega) (by omega) dX3_lawInForce_20 (fun v12 hv12 hsv12 => ?_)
      rcases tf_v2 hv12 with rfl | ⟨ad13, rfl, had13⟩
      · refine lv_goto (tgt := 25) hx hb dX3_lawInForce_21 (by decide) ?_
        exact tf_reta hx hb hr (by first | exact Or.inl ⟨_, rfl⟩ | exact Or.inr ⟨_, rfl⟩) (Or.inl rfl) hlocks hQ hW tf_u2n dX3_lawInForce_25
      · refine lv_goto (tgt := 25) hx hb dX3_lawInForce_21 (by decide) ?_
        exact tf_reta hx hb hr (by first | exact Or.inl ⟨_, rfl⟩ | exact Or.inr ⟨_, rfl⟩) (Or.inr ⟨_, rfl⟩) hlocks hQ hW (tf_u2 had13) dX3_lawInForce_25
  · refine tf_if_eq (tgt := 24) hx hb ⟨by decide, by decide⟩ dX3_lawInForce_9 (by decide) (fun h14 => ?_) (fun h14 => ?_)
    · refine lv_null hx hb dX3_lawInForce_24 ?_
      exact tf_reta hx hb hr (by first | exact Or.inl ⟨_, rfl⟩ | exact Or.inr ⟨_, rfl⟩) (Or.inl rfl) hlocks hQ hW tf_u2n dX3_lawInForce_25
    · exfalso; omega

abbrev M_X3_addLaw : List (Nat × Nat) := [(13, 0), (20, 8)]
set_option maxHeartbeats 4000000 in
set_option maxRecDepth 100000 in
theorem c_X3_addLaw (l : Launch) (g : tf_G) (T : tf_T) (a0 : Nat) (ha0 : T a0 = some (20, 0)) (a1 : Nat) (ha1 : T a1 = some (18, 0)) : Met l yX3_addLaw (cd_X3_addLaw :: wsL_law) ({ frames := 1, cells := 0, slots := 0, locals := 24 }) (tf_P g T [.ref a0, .ref a1] (fun H => True)) (tf_Qi g M_X3_addLaw T (fun z _ _ => (-2147483648) ≤ z ∧ z ≤ 2147483647)) 0 0 (fun q => tf_B g ≤ q) := by
  refine Met.ofW (cc := cX3_addLaw) (maxL := 2) (ret := (some .int)) (by decide) rfl ?_
  intro p e s m args below meth c s₁ B hml hv
  obtain ⟨hargs, hk, hW0, hB, hpre⟩ := hv
  have hx := B.exec
  have hb := B.bytes
  have hr := B.returns
  have hts : ∀ w ∈ wsL_law, w.before args s = true := fun w h => atoms_spec (ws := cd_X3_addLaw :: wsL_law) B.pre w (List.mem_cons_of_mem _ h)
  have hown : s.vm.findClass RX3 = some m.cls := findClass_of_methodNamed B.named
  have hlocks := B.notSynchronized
  have hK := hk.1
  have hW := tf_n.start (M := M_X3_addLaw) hW0 hB
  obtain ⟨Q, hQ⟩ : ∃ q, q = MQ below (tf_Qi g M_X3_addLaw T (fun z _ _ => (-2147483648) ≤ z ∧ z ≤ 2147483647)) args s 0 0 (fun q => tf_B g ≤ q) := ⟨_, rfl⟩
  rw [← hQ]
  obtain ⟨R, hR⟩ : ∃ q, q = (headSpec (cd_X3_addLaw :: wsL_law) ({ frames := 1, cells := 0, slots := 0, locals := 24 })).room := ⟨_, rfl⟩
  rw [← hR]
  have hR1 : 1 ≤ R.frames := by rw [hR]; exact Nat.le_refl _
  have hR2 : 24 ≤ R.locals := by rw [hR]; exact Nat.le_refl _
  have hR3 : 0 ≤ R.cells := by rw [hR]; exact Nat.le_refl _
  have hR4 : 0 ≤ R.slots := by rw [hR]; exact Nat.le_refl _
  have hin := (name_of_methodNamed B.named B.method).1
  clear hR B
  refine tf_enter (As := [.ref a0, .ref a1]) hargs (Nat.le_of_ble_eq_true rfl) (fun ls hl => ?_)
  have hl : lv_has ls 2 [(0, .ref a0), (1, .ref a1)] := hl
  refine lv_aload_n hx hb dX3_addLaw_0 rfl (lv_at hl 0 rfl) ?_
  refine tf_get hx hb hts inlX3 hown hK (ci := 3) rfl hW ha0 rfl 8 rfl (by decide) (hts _ fl_X3_51) dX3_addLaw_1 (fun v1 hv1 hsv1 => ?_)
  obtain ⟨z2, rfl, hz2⟩ := tf_v0 hv1
  refine tf_bipush hx hb dX3_addLaw_4 (by decide) ?_
  refine tf_icmp_lt (tgt := 11) hx hb ⟨by omega, by omega⟩ ⟨by decide, by decide⟩ dX3_addLaw_6 (by decide) (fun h3 => ?_) (fun h3 => ?_)
  · refine lv_aload_n hx hb dX3_addLaw_11 rfl (lv_at hl 0 rfl) ?_
    refine tf_get hx hb hts inlX3 hown hK (ci := 3) rfl hW ha0 rfl 7 rfl (by decide) (hts _ fl_X3_47) dX3_addLaw_12 (fun v4 hv4 hsv4 => ?_)
    obtain ⟨ad5, rfl, had5⟩ := tf_v1 hv4
    refine lv_aload_n hx hb dX3_addLaw_15 rfl (lv_at hl 0 rfl) ?_
    refine tf_get hx hb hts inlX3 hown hK (ci := 3) rfl hW ha0 rfl 8 rfl (by decide) (hts _ fl_X3_51) dX3_addLaw_16 (fun v6 hv6 hsv6 => ?_)
    obtain rfl : v6 = .int (Int32.ofInt z2) := Option.some.inj (hsv6.symm.trans hsv1)
    refine lv_aload_n hx hb dX3_addLaw_19 rfl (lv_at hl 1 rfl) ?_
    refine tf_aast (t0 := 4) (ci := 1) hx hb hK hW had5 rfl rfl ha1 rfl rfl (by omega) (by omega) (by decide) dX3_addLaw_20 (fun H7 locs7 hW hs7 ht7 hq7 => ?_)
    have hs8 := tf_keepQ hsv1 (hq7 _ (tf_ne ha0 had5 (by decide)))
    refine lv_aload_n hx hb dX3_addLaw_21 rfl (lv_at hl 0 rfl) ?_
    refine lv_dup hx hb dX3_addLaw_22 rfl ?_
    refine tf_get hx hb hts inlX3 hown hK (ci := 3) rfl hW ha0 rfl 8 rfl (by decide) (hts _ fl_X3_51) dX3_addLaw_23 (fun v9 hv9 hsv9 => ?_)
    obtain rfl : v9 = .int (Int32.ofInt z2) := Option.some.inj (hsv9.symm.trans hs8)
    refine tf_iconst hx hb dX3_addLaw_26 ?_
    refine tf_iadd hx hb dX3_addLaw_27 ?_
    refine tf_put hx hb hts inlX3 tyX3 tyX3_ok nmX3 hown hK (ci := 3) rfl hW ha0 rfl rfl 8 rfl (by decide) (by decide) (hts _ fl_X3_51) rfl (tf_u0 (by omega) (by omega)) rfl rfl dX3_addLaw_28 (fun H10 locs10 hW hs10 ht10 hq10 => ?_)
    refine lv_aload_n hx hb dX3_addLaw_31 rfl (lv_at hl 0 rfl) ?_
    refine tf_get hx hb hts inlX3 hown hK (ci := 3) rfl hW ha0 rfl 8 rfl (by decide) (hts _ fl_X3_51) dX3_addLaw_32 (fun v11 hv11 hsv11 => ?_)
    obtain rfl : v11 = .int (Int32.ofInt ((z2 + 1))) := Option.some.inj (hsv11.symm.trans hs10)
    refine tf_iconst hx hb dX3_addLaw_35 ?_
    refine tf_isub hx hb dX3_addLaw_36 ?_
    exact tf_reti (z := ((z2 + 1) - 1)) hx hb hr hlocks hQ hW (show (-2147483648) ≤ (((z2 + 1) - 1)) ∧ (((z2 + 1) - 1)) ≤ 2147483647 by omega) dX3_addLaw_37
  · refine tf_iconst hx hb dX3_addLaw_9 ?_
    exact tf_reti (z := (-1)) hx hb hr hlocks hQ hW (show (-2147483648) ≤ ((-1)) ∧ ((-1)) ≤ 2147483647 by omega) dX3_addLaw_10

abbrev M_X3_addPlace : List (Nat × Nat) := [(8, 0), (20, 11)]
set_option maxHeartbeats 4000000 in
set_option maxRecDepth 100000 in
theorem c_X3_addPlace (l : Launch) (g : tf_G) (T : tf_T) (a0 : Nat) (ha0 : T a0 = some (20, 0)) (x1 : Int) (hp1 : (-2147483648) ≤ x1 ∧ x1 ≤ 2147483647) : Met l yX3_addPlace (cd_X3_addPlace :: wsL_law) ({ frames := 1, cells := 0, slots := 0, locals := 24 }) (tf_P g T [.ref a0, .int (Int32.ofInt x1)] (fun H => True)) (tf_Qi g M_X3_addPlace T (fun z _ _ => (-2147483648) ≤ z ∧ z ≤ 2147483647)) 0 0 (fun q => tf_B g ≤ q) := by
  refine Met.ofW (cc := cX3_addPlace) (maxL := 2) (ret := (some .int)) (by decide) rfl ?_
  intro p e s m args below meth c s₁ B hml hv
  obtain ⟨hargs, hk, hW0, hB, hpre⟩ := hv
  have hx := B.exec
  have hb := B.bytes
  have hr := B.returns
  have hts : ∀ w ∈ wsL_law, w.before args s = true := fun w h => atoms_spec (ws := cd_X3_addPlace :: wsL_law) B.pre w (List.mem_cons_of_mem _ h)
  have hown : s.vm.findClass RX3 = some m.cls := findClass_of_methodNamed B.named
  have hlocks := B.notSynchronized
  have hK := hk.1
  have hW := tf_n.start (M := M_X3_addPlace) hW0 hB
  obtain ⟨Q, hQ⟩ : ∃ q, q = MQ below (tf_Qi g M_X3_addPlace T (fun z _ _ => (-2147483648) ≤ z ∧ z ≤ 2147483647)) args s 0 0 (fun q => tf_B g ≤ q) := ⟨_, rfl⟩
  rw [← hQ]
  obtain ⟨R, hR⟩ : ∃ q, q = (headSpec (cd_X3_addPlace :: wsL_law) ({ frames := 1, cells := 0, slots := 0, locals := 24 })).room := ⟨_, rfl⟩
  rw [← hR]
  have hR1 : 1 ≤ R.frames := by rw [hR]; exact Nat.le_refl _
  have hR2 : 24 ≤ R.locals := by rw [hR]; exact Nat.le_refl _
  have hR3 : 0 ≤ R.cells := by rw [hR]; exact Nat.le_refl _
  have hR4 : 0 ≤ R.slots := by rw [hR]; exact Nat.le_refl _
  have hin := (name_of_methodNamed B.named B.method).1
  clear hR B
  refine tf_enter (As := [.ref a0, .int (Int32.ofInt x1)]) hargs (Nat.le_of_ble_eq_true rfl) (fun ls hl => ?_)
  have hl : lv_has ls 2 [(0, .ref a0), (1, .int (Int32.ofInt x1))] := hl
  refine lv_aload_n hx hb dX3_addPlace_0 rfl (lv_at hl 0 rfl) ?_
  refine tf_get hx hb hts inlX3 hown hK (ci := 3) rfl hW ha0 rfl 11 rfl (by decide) (hts _ fl_X3_61) dX3_addPlace_1 (fun v1 hv1 hsv1 => ?_)
  obtain ⟨z2, rfl, hz2⟩ := tf_v0 hv1
  refine tf_bipush hx hb dX3_addPlace_4 (by decide) ?_
  refine tf_icmp_lt (tgt := 11) hx hb ⟨by omega, by omega⟩ ⟨by decide, by decide⟩ dX3_addPlace_6 (by decide) (fun h3 => ?_) (fun h3 => ?_)
  · refine lv_aload_n hx hb dX3_addPlace_11 rfl (lv_at hl 0 rfl) ?_
    refine tf_get hx hb hts inlX3 hown hK (ci := 3) rfl hW ha0 rfl 10 rfl (by decide) (hts _ fl_X3_58) dX3_addPlace_12 (fun v4 hv4 hsv4 => ?_)
    obtain ⟨ad5, rfl, had5⟩ := tf_v1 hv4
    refine lv_aload_n hx hb dX3_addPlace_15 rfl (lv_at hl 0 rfl) ?_
    refine tf_get hx hb hts inlX3 hown hK (ci := 3) rfl hW ha0 rfl 11 rfl (by decide) (hts _ fl_X3_61) dX3_addPlace_16 (fun v6 hv6 hsv6 => ?_)
    obtain rfl : v6 = .int (Int32.ofInt z2) := Option.some.inj (hsv6.symm.trans hsv1)
    refine lv_iload_n hx hb dX3_addPlace_19 rfl (lv_at hl 1 rfl) ?_
    refine tf_iast (t0 := 0) hx hb hK hW had5 rfl rfl (by omega) (by omega) (by decide) (tf_u0 (by omega) (by omega)) dX3_addPlace_20 (fun H7 locs7 hW hs7 ht7 hq7 => ?_)
    have hs8 := tf_keepQ hsv1 (hq7 _ (tf_ne ha0 had5 (by decide)))
    refine lv_aload_n hx hb dX3_addPlace_21 rfl (lv_at hl 0 rfl) ?_
    refine lv_dup hx hb dX3_addPlace_22 rfl ?_
    refine tf_get hx hb hts inlX3 hown hK (ci := 3) rfl hW ha0 rfl 11 rfl (by decide) (hts _ fl_X3_61) dX3_addPlace_23 (fun v9 hv9 hsv9 => ?_)
    obtain rfl : v9 = .int (Int32.ofInt z2) := Option.some.inj (hsv9.symm.trans hs8)
    refine tf_iconst hx hb dX3_addPlace_26 ?_
    refine tf_iadd hx hb dX3_addPlace_27 ?_
    refine tf_put hx hb hts inlX3 tyX3 tyX3_ok nmX3 hown hK (ci := 3) rfl hW ha0 rfl rfl 11 rfl (by decide) (by decide) (hts _ fl_X3_61) rfl (tf_u0 (by omega) (by omega)) rfl rfl dX3_addPlace_28 (fun H10 locs10 hW hs10 ht10 hq10 => ?_)
    refine lv_aload_n hx hb dX3_addPlace_31 rfl (lv_at hl 0 rfl) ?_
    refine tf_get hx hb hts inlX3 hown hK (ci := 3) rfl hW ha0 rfl 11 rfl (by decide) (hts _ fl_X3_61) dX3_addPlace_32 (fun v11 hv11 hsv11 => ?_)
    obtain rfl : v11 = .int (Int32.ofInt ((z2 + 1))) := Option.some.inj (hsv11.symm.trans hs10)
    refine tf_iconst hx hb dX3_addPlace_35 ?_
    refine tf_isub hx hb dX3_addPlace_36 ?_
    exact tf_reti (z := ((z2 + 1) - 1)) hx hb hr hlocks hQ hW (show (-2147483648) ≤ (((z2 + 1) - 1)) ∧ (((z2 + 1) - 1)) ≤ 2147483647 by omega) dX3_addPlace_37
  · refine tf_iconst hx hb dX3_addPlace_9 ?_
    exact tf_reti (z := (-1)) hx hb hr hlocks hQ hW (show (-2147483648) ≤ ((-1)) ∧ ((-1)) ≤ 2147483647 by omega) dX3_addPlace_10

abbrev M_X3_watchers : List (Nat × Nat) := []
set_option maxHeartbeats 4000000 in
set_option maxRecDepth 100000 in
theorem c_X3_watchers (l : Launch) (g : tf_G) (T : tf_T) (a0 : Nat) (ha0 : T a0 = some (20, 0)) (x1 : Int) (hp1 : (-2147483648) ≤ x1 ∧ x1 ≤ 2147483647) : Met l yX3_watchers (cd_X3_watchers :: wsL_law) ({ frames := 1, cells := 0, slots := 0, locals := 40 }) (tf_P g T [.ref a0, .int (Int32.ofInt x1)] (fun H => True)) (tf_Qi g M_X3_watchers T (fun z _ _ => (-2147483648) ≤ z ∧ z ≤ 2147483647)) 0 0 (fun q => tf_B g ≤ q) := by
  refine Met.ofW (cc := cX3_watchers) (maxL := 5) (ret := (some .int)) (by decide) rfl ?_
  intro p e s m args below meth c s₁ B hml hv
  obtain ⟨hargs, hk, hW0, hB, hpre⟩ := hv
  have hx := B.exec
  have hb := B.bytes
  have hr := B.returns
  have hts : ∀ w ∈ wsL_law, w.before args s = true := fun w h => atoms_spec (ws := cd_X3_watchers :: wsL_law) B.pre w (List.mem_cons_of_mem _ h)
  have hown : s.vm.findClass RX3 = some m.cls := findClass_of_methodNamed B.named
  have hlocks := B.notSynchronized
  have hK := hk.1
  have hW := tf_n.start (M := M_X3_watchers) hW0 hB
  obtain ⟨Q, hQ⟩ : ∃ q, q = MQ below (tf_Qi g M_X3_watchers T (fun z _ _ => (-2147483648) ≤ z ∧ z ≤ 2147483647)) args s 0 0 (fun q => tf_B g ≤ q) := ⟨_, rfl⟩
  rw [← hQ]
  obtain ⟨R, hR⟩ : ∃ q, q = (headSpec (cd_X3_watchers :: wsL_law) ({ frames := 1, cells := 0, slots := 0, locals := 40 })).room := ⟨_, rfl⟩
  rw [← hR]
  have hR1 : 1 ≤ R.frames := by rw [hR]; exact Nat.le_refl _
  have hR2 : 40 ≤ R.locals := by rw [hR]; exact Nat.le_refl _
  have hR3 : 0 ≤ R.cells := by rw [hR]; exact Nat.le_refl _
  have hR4 : 0 ≤ R.slots := by rw [hR]; exact Nat.le_refl _
  have hin := (name_of_methodNamed B.named B.method).1
  clear hR B
  have j_4 : ∀ (n_4 : Nat), (-2147483648) ≤ x1 ∧ x1 ≤ 2147483647 → ∀ (x2_4 : Int), (-2147483648) ≤ x2_4 ∧ x2_4 ≤ 2147483647 → ∀ (x3_4 : Int), 0 ≤ x3_4 ∧ x3_4 ≤ 13 → (13 - x3_4 + 1 ≤ (n_4 : Int)) → ∀ (H : Heap) (locs : List Loc), tf_n tf_kt g M_X3_watchers T s.heap T H locs → ∀ (ls : Array Slot), lv_has ls 5 [(0, .ref a0), (1, .int (Int32.ofInt x1)), (2, .int (Int32.ofInt x2_4)), (3, .int (Int32.ofInt x3_4))] → W p l e R s m args below meth c H locs 0 0 Q (F0 m 4 ls []) := by
    intro n_4
    induction n_4 with
    | zero =>
      intro hx1_4 x2_4 hx2_4 x3_4 hx3_4 hm_4
      exfalso; omega
    | succ n_4 ih_4 =>
      intro hx1_4 x2_4 hx2_4 x3_4 hx3_4 hm_4 H locs hW  ls hl
      have j_63 : (-2147483648) ≤ x1 ∧ x1 ≤ 2147483647 → 0 ≤ x3_4 ∧ x3_4 ≤ 12 → (-2147483648) ≤ x2_4 ∧ x2_4 ≤ 2147483647 → ∀ (y1_63 : Int), (-2147483648) ≤ y1_63 ∧ y1_63 ≤ 2147483647 → ∀ (H : Heap) (locs : List Loc), tf_n tf_kt g M_X3_watchers T s.heap T H locs → ∀ (ls : Array Slot), lv_has ls 5 [(0, .ref a0), (1, .int (Int32.ofInt x1)), (3, .int (Int32.ofInt x3_4))] → W p l e R s m args below meth c H locs 0 0 Q (F0 m 63 ls [.int (Int32.ofInt y1_63), .int (Int32.ofInt x2_4)]) := by
        intro hx1_63 hx3_63 hy0_63 y1_63 hy1_63 H locs hW  ls hl
        refine tf_ior_any hx hb dX3_watchers_63 (fun z1 hz1 => ?_)
        refine lv_istore_n (lv' := [(2, .int (Int32.ofInt z1)), (0, .ref a0), (1, .int (Int32.ofInt x1)), (3, .int (Int32.ofInt x3_4))]) hx hb dX3_watchers_64 rfl hl (by decide) rfl (fun ls hl => ?_)
        refine lv_iinc (v := Int32.ofInt ((x3_4 + 1))) (lv' := [(3, .int (Int32.ofInt ((x3_4 + 1)))), (2, .int (Int32.ofInt z1)), (0, .ref a0), (1, .int (Int32.ofInt x1))]) hx hb dX3_watchers_65 hl (k := 3) rfl (Int32.ofInt_add _ _).symm (by decide) rfl (fun ls hl => ?_)
        refine lv_goto (tgt := 4) hx hb dX3_watchers_68 (by decide) ?_
        exact ih_4 ⟨by omega, by omega⟩ (z1) ⟨by omega, by omega⟩ ((x3_4 + 1)) ⟨by omega, by omega⟩ (by omega) _ _ hW  _ (lv_sub hl [2, 3, 1, 0] rfl)
      refine lv_iload_n hx hb dX3_watchers_4 rfl (lv_at hl 3 rfl) ?_
      refine lv_aload_n hx hb dX3_watchers_5 rfl (lv_at hl 0 rfl) ?_
      refine tf_get hx hb hts inlX3 hown hK (ci := 3) rfl hW ha0 rfl 11 rfl (by decide) (hts _ fl_X3_61) dX3_watchers_6 (fun v2 hv2 hsv2 => ?_)
      obtain ⟨z3, rfl, hz3⟩ := tf_v0 hv2
      refine tf_icmp_ge (tgt := 71) hx hb ⟨by omega, by omega⟩ ⟨by omega, by omega⟩ dX3_watchers_9 (by decide) (fun h4 => ?_) (fun h4 => ?_)
      · refine lv_iload_n hx hb dX3_watchers_71 rfl (lv_at hl 2 rfl) ?_
        exact tf_reti (z := x2_4) hx hb hr hlocks hQ hW (show (-2147483648) ≤ (x2_4) ∧ (x2_4) ≤ 2147483647 by omega) dX3_watchers_72
      · refine lv_aload_n hx hb dX3_watchers_12 rfl (lv_at hl 0 rfl) ?_
        refine tf_get hx hb hts inlX3 hown hK (ci := 3) rfl hW ha0 rfl 10 rfl (by decide) (hts _ fl_X3_58) dX3_watchers_13 (fun v5 hv5 hsv5 => ?_)
        obtain ⟨ad6, rfl, had6⟩ := tf_v1 hv5
        refine lv_iload_n hx hb dX3_watchers_16 rfl (lv_at hl 3 rfl) ?_
        refine tf_iald (t0 := 0) hx hb hK hW had6 rfl rfl (by omega) (by omega) dX3_watchers_17 (fun v7 hv7 hsv7 => ?_)
        obtain ⟨z8, rfl, hz8⟩ := tf_v0 hv7
        refine tf_bipush hx hb dX3_watchers_18 (by decide) ?_
        refine tf_irem_any hx hb (by omega) ⟨by decide, by decide⟩ dX3_watchers_20 (fun z9 hz9 => ?_)
        refine lv_iload_n hx hb dX3_watchers_21 rfl (lv_at hl 1 rfl) ?_
        refine tf_bipush hx hb dX3_watchers_22 (by decide) ?_
        refine tf_irem_any hx hb (by omega) ⟨by decide, by decide⟩ dX3_watchers_24 (fun z10 hz10 => ?_)
        refine tf_isub_any hx hb dX3_watchers_25 (fun z11 hz11 => ?_)
        refine tf_mabs hx hb hml hl hown (hts _ (tw52 (i := 6) rfl)) (hts _ (tw52 (i := 7) rfl)) (hts _ (tw10 (i := 2) rfl)) (hts _ (tw52 (i := 8) rfl)) (Nat.le_of_ble_eq_true rfl) (Nat.le_trans (by decide) hR1) (Nat.le_trans (by decide) hR2) (Nat.zero_le _) (Nat.zero_le _) dX3_watchers_26 (fun z12 hz12 => ?_)
        refine lv_aload_n hx hb dX3_watchers_29 rfl (lv_at hl 0 rfl) ?_
        refine tf_get hx hb hts inlX3 hown hK (ci := 3) rfl hW ha0 rfl 10 rfl (by decide) (hts _ fl_X3_58) dX3_watchers_30 (fun v13 hv13 hsv13 => ?_)
        obtain rfl : v13 = .ref ad6 := Option.some.inj (hsv13.symm.trans hsv5)
        refine lv_iload_n hx hb dX3_watchers_33 rfl (lv_at hl 3 rfl) ?_
        refine tf_iald (t0 := 0) hx hb hK hW had6 rfl rfl (by omega) (by omega) dX3_watchers_34 (fun v14 hv14 hsv14 => ?_)
        obtain ⟨z15, rfl, hz15⟩ := tf_v0 hv14
        refine tf_bipush hx hb dX3_watchers_35 (by decide) ?_
        refine tf_idiv_c hx hb ⟨by omega, by omega⟩ ⟨by decide, by decide⟩ (by decide) dX3_watchers_37 (fun z16 hz16 => ?_)
        refine lv_iload_n hx hb dX3_watchers_38 rfl (lv_at hl 1 rfl) ?_
        refine tf_bipush hx hb dX3_watchers_39 (by decide) ?_
        refine tf_idiv_c hx hb ⟨by omega, by omega⟩ ⟨by decide, by decide⟩ (by decide) dX3_watchers_41 (fun z17 hz17 => ?_)
        refine tf_isub hx hb dX3_watchers_42 ?_
        refine tf_mabs hx hb hml hl hown (hts _ (tw52 (i := 6) rfl)) (hts _ (tw52 (i := 7) rfl)) (hts _ (tw10 (i := 2) rfl)) (hts _ (tw52 (i := 8) rfl)) (Nat.le_of_ble_eq_true rfl) (Nat.le_trans (by decide) hR1) (Nat.le_trans (by decide) hR2) (Nat.zero_le _) (Nat.zero_le _) dX3_watchers_43 (fun z18 hz18 => ?_)
        refine tf_iadd_any hx hb dX3_watchers_46 (fun z19 hz19 => ?_)
        refine lv_istore (lv' := [(4, .int (Int32.ofInt z19)), (0, .ref a0), (1, .int (Int32.ofInt x1)), (2, .int (Int32.ofInt x2_4)), (3, .int (Int32.ofInt x3_4))]) hx hb dX3_watchers_47 hl (by decide) rfl (fun ls hl => ?_)
        refine lv_iload_n hx hb dX3_watchers_49 rfl (lv_at hl 3 rfl) ?_
        refine lv_iload hx hb dX3_watchers_50 (lv_at hl 0 rfl) ?_
        refine tf_iconst hx hb dX3_watchers_52 ?_
        refine tf_icmp_gt (tgt := 62) hx hb ⟨by omega, by omega⟩ ⟨by decide, by decide⟩ dX3_watchers_53 (by decide) (fun h20 => ?_) (fun h20 => ?_)
        · refine tf_iconst hx hb dX3_watchers_62 ?_
          exact j_63 ⟨by omega, by omega⟩ ⟨by omega, by omega⟩ ⟨by omega, by omega⟩ (0) ⟨by omega, by omega⟩ _ _ hW  _ (lv_sub hl [1, 2, 4] rfl)
        · refine tf_iconst hx hb dX3_watchers_56 ?_
          refine lv_iload_n hx hb dX3_watchers_57 rfl (lv_at hl 4 rfl) ?_
          refine tf_ishl_any hx hb dX3_watchers_58 (fun z21 hz21 => ?_)
          refine lv_goto (tgt := 63) hx hb dX3_watchers_59 (by decide) ?_
          exact j_63 ⟨by omega, by omega⟩ ⟨by omega, by omega⟩ ⟨by omega, by omega⟩ (z21) ⟨by omega, by omega⟩ _ _ hW  _ (lv_sub hl [1, 2, 4] rfl)
  refine tf_enter (As := [.ref a0, .int (Int32.ofInt x1)]) hargs (Nat.le_of_ble_eq_true rfl) (fun ls hl => ?_)
  have hl : lv_has ls 5 [(0, .ref a0), (1, .int (Int32.ofInt x1))] := hl
  refine tf_iconst hx hb dX3_watchers_0 ?_
  refine lv_istore_n (lv' := [(2, .int (Int32.ofInt 0)), (0, .ref a0), (1, .int (Int32.ofInt x1))]) hx hb dX3_watchers_1 rfl hl (by decide) rfl (fun ls hl => ?_)
  refine tf_iconst hx hb dX3_watchers_2 ?_
  refine lv_istore_n (lv' := [(3, .int (Int32.ofInt 0)), (2, .int (Int32.ofInt 0)), (0, .ref a0), (1, .int (Int32.ofInt x1))]) hx hb dX3_watchers_3 rfl hl (by decide) rfl (fun ls hl => ?_)
  exact j_4 ((13 - 0 + 1 : Int)).toNat ⟨by omega, by omega⟩ (0) ⟨by omega, by omega⟩ (0) ⟨by omega, by omega⟩ (by omega) _ _ hW  _ (lv_sub hl [2, 3, 1, 0] rfl)

abbrev M_X1_joined : List (Nat × Nat) := []
set_option maxHeartbeats 4000000 in
set_option maxRecDepth 100000 in
theorem c_X1_joined (l : Launch) (g : tf_G) (T : tf_T) (x0 : Int) (hp0 : (-2147483648) ≤ x0 ∧ x0 ≤ 2147483647) (x1 : Int) (hp1 : (-2147483648) ≤ x1 ∧ x1 ≤ 2147483647) (x2 : Int) (hp2 : (-2147483648) ≤ x2 ∧ x2 ≤ 2147483647) : Met l yX1_joined (cd_X1_joined :: wsL_law) ({ frames := 1, cells := 0, slots := 0, locals := 24 }) (tf_P g T [.int (Int32.ofInt x0), .int (Int32.ofInt x1), .int (Int32.ofInt x2)] (fun H => True)) (tf_Qi g M_X1_joined T (fun z _ _ => (-2147483648) ≤ z ∧ z ≤ 2147483647)) 0 0 (fun q => tf_B g ≤ q) := by
  refine Met.ofW (cc := cX1_joined) (maxL := 5) (ret := (some .int)) (by decide) rfl ?_
  intro p e s m args below meth c s₁ B hml hv
  obtain ⟨hargs, hk, hW0, hB, hpre⟩ := hv
  have hx := B.exec
  have hb := B.bytes
  have hr := B.returns
  have hts : ∀ w ∈ wsL_law, w.before args s = true := fun w h => atoms_spec (ws := cd_X1_joined :: wsL_law) B.pre w (List.mem_cons_of_mem _ h)
  have hown : s.vm.findClass RX1 = some m.cls := findClass_of_methodNamed B.named
  have hlocks := B.notSynchronized
  have hK := hk.1
  have hW := tf_n.start (M := M_X1_joined) hW0 hB
  obtain ⟨Q, hQ⟩ : ∃ q, q = MQ below (tf_Qi g M_X1_joined T (fun z _ _ => (-2147483648) ≤ z ∧ z ≤ 2147483647)) args s 0 0 (fun q => tf_B g ≤ q) := ⟨_, rfl⟩
  rw [← hQ]
  obtain ⟨R, hR⟩ : ∃ q, q = (headSpec (cd_X1_joined :: wsL_law) ({ frames := 1, cells := 0, slots := 0, locals := 24 })).room := ⟨_, rfl⟩
  rw [← hR]
  have hR1 : 1 ≤ R.frames := by rw [hR]; exact Nat.le_refl _
  have hR2 : 24 ≤ R.locals := by rw [hR]; exact Nat.le_refl _
  have hR3 : 0 ≤ R.cells := by rw [hR]; exact Nat.le_refl _
  have hR4 : 0 ≤ R.slots := by rw [hR]; exact Nat.le_refl _
  have hin := (name_of_methodNamed B.named B.method).1
  clear hR B
  have j_124 : ∀ (x3_124 : Int), (-9223372036854775808) ≤ x3_124 ∧ x3_124 ≤ 9223372036854775807 → ∀ (H : Heap) (locs : List Loc), tf_n tf_kt g M_X1_joined T s.heap T H locs → ∀ (ls : Array Slot), lv_has ls 5 [(3, .long (Int64.ofInt x3_124))] → W p l e R s m args below meth c H locs 0 0 Q (F0 m 124 ls []) := by
    intro x3_124 hx3_124 H locs hW  ls hl
    refine lv_lload_n hx hb dX1_joined_124 rfl (lv_at hl 0 rfl) ?_
    refine tf_ldc2 (z := 1000000000) hx hb hown (hts _ kl_X1_38) (by decide) dX1_joined_125 ?_
    refine tf_lcmp hx hb ⟨by omega, by omega⟩ ⟨by omega, by omega⟩ dX1_joined_128 (fun z1 hz1 => ?_)
    refine tf_if_gt (tgt := 140) hx hb ⟨by omega, by omega⟩ dX1_joined_129 (by decide) (fun h2 => ?_) (fun h2 => ?_)
    · refine tf_ldc (z := -1000000001) hx hb hown (hts _ kc_X1_22) (by decide) dX1_joined_140 ?_
      refine lv_goto (tgt := 147) hx hb dX1_joined_142 (by decide) ?_
      exact tf_reti (z := (-1000000001)) hx hb hr hlocks hQ hW (show (-2147483648) ≤ ((-1000000001)) ∧ ((-1000000001)) ≤ 2147483647 by omega) dX1_joined_147
    · refine lv_lload_n hx hb dX1_joined_132 rfl (lv_at hl 0 rfl) ?_
      refine tf_ldc2 (z := -1000000000) hx hb hown (hts _ kl_X1_40) (by decide) dX1_joined_133 ?_
      refine tf_lcmp hx hb ⟨by omega, by omega⟩ ⟨by omega, by omega⟩ dX1_joined_136 (fun z3 hz3 => ?_)
      refine tf_if_ge (tgt := 145) hx hb ⟨by omega, by omega⟩ dX1_joined_137 (by decide) (fun h4 => ?_) (fun h4 => ?_)
      · refine lv_lload_n hx hb dX1_joined_145 rfl (lv_at hl 0 rfl) ?_
        refine tf_l2i hx hb dX1_joined_146 ?_
        exact tf_reti (z := x3_124) hx hb hr hlocks hQ hW (show (-2147483648) ≤ (x3_124) ∧ (x3_124) ≤ 2147483647 by omega) dX1_joined_147
      · refine tf_ldc (z := -1000000001) hx hb hown (hts _ kc_X1_22) (by decide) dX1_joined_140 ?_
        refine lv_goto (tgt := 147) hx hb dX1_joined_142 (by decide) ?_
        exact tf_reti (z := (-1000000001)) hx hb hr hlocks hQ hW (show (-2147483648) ≤ ((-1000000001)) ∧ ((-1000000001)) ≤ 2147483647 by omega) dX1_joined_147
  have j_81 : ∀ (y0_81 : Int), (-2147483648) ≤ y0_81 ∧ y0_81 ≤ 2147483647 → ∀ (H : Heap) (locs : List Loc), tf_n tf_kt g M_X1_joined T s.heap T H locs → ∀ (ls : Array Slot), lv_has ls 5 [] → W p l e R s m args below meth c H locs 0 0 Q (F0 m 81 ls [.long (Int64.ofInt y0_81)]) := by
    intro y0_81 hy0_81 H locs hW  ls hl
    refine lv_lstore_n (lv' := [(3, .long (Int64.ofInt y0_81))]) hx hb dX1_joined_81 rfl hl (by decide) rfl (fun ls hl => ?_)
    refine lv_goto (tgt := 124) hx hb dX1_joined_82 (by decide) ?_
    exact j_124 (y0_81) ⟨by omega, by omega⟩ _ _ hW  _ (lv_sub hl [0] rfl)
  have j_95 : ∀ (y0_95 : Int), 0 ≤ y0_95 ∧ y0_95 ≤ 1 → ∀ (H : Heap) (locs : List Loc), tf_n tf_kt g M_X1_joined T s.heap T H locs → ∀ (ls : Array Slot), lv_has ls 5 [] → W p l e R s m args below meth c H locs 0 0 Q (F0 m 95 ls [.long (Int64.ofInt y0_95)]) := by
    intro y0_95 hy0_95 H locs hW  ls hl
    refine lv_lstore_n (lv' := [(3, .long (Int64.ofInt y0_95))]) hx hb dX1_joined_95 rfl hl (by decide) rfl (fun ls hl => ?_)
    refine lv_goto (tgt := 124) hx hb dX1_joined_96 (by decide) ?_
    exact j_124 (y0_95) ⟨by omega, by omega⟩ _ _ hW  _ (lv_sub hl [0] rfl)
  have j_109 : ∀ (y0_109 : Int), 0 ≤ y0_109 ∧ y0_109 ≤ 1 → ∀ (H : Heap) (locs : List Loc), tf_n tf_kt g M_X1_joined T s.heap T H locs → ∀ (ls : Array Slot), lv_has ls 5 [] → W p l e R s m args below meth c H locs 0 0 Q (F0 m 109 ls [.long (Int64.ofInt y0_109)]) := by
    intro y0_109 hy0_109 H locs hW  ls hl
    refine lv_lstore_n (lv' := [(3, .long (Int64.ofInt y0_109))]) hx hb dX1_joined_109 rfl hl (by decide) rfl (fun ls hl => ?_)
    refine lv_goto (tgt := 124) hx hb dX1_joined_110 (by decide) ?_
    exact j_124 (y0_109) ⟨by omega, by omega⟩ _ _ hW  _ (lv_sub hl [0] rfl)
  have j_123 : ∀ (y0_123 : Int), 0 ≤ y0_123 ∧ y0_123 ≤ 1 → ∀ (H : Heap) (locs : List Loc), tf_n tf_kt g M_X1_joined T s.heap T H locs → ∀ (ls : Array Slot), lv_has ls 5 [] → W p l e R s m args below meth c H locs 0 0 Q (F0 m 123 ls [.long (Int64.ofInt y0_123)]) := by
    intro y0_123 hy0_123 H locs hW  ls hl
    refine lv_lstore_n (lv' := [(3, .long (Int64.ofInt y0_123))]) hx hb dX1_joined_123 rfl hl (by decide) rfl (fun ls hl => ?_)
    exact j_124 (y0_123) ⟨by omega, by omega⟩ _ _ hW  _ (lv_sub hl [0] rfl)
  refine tf_enter (As := [.int (Int32.ofInt x0), .int (Int32.ofInt x1), .int (Int32.ofInt x2)]) hargs (Nat.le_of_ble_eq_true rfl) (fun ls hl => ?_)
  have hl : lv_has ls 5 [(0, .int (Int32.ofInt x0)), (1, .int (Int32.ofInt x1)), (2, .int (Int32.ofInt x2))] := hl
  refine lv_iload_n hx hb dX1_joined_0 rfl (lv_at hl 0 rfl) ?_
  rcases (show x0 = 2 ∨ x0 = 3 ∨ x0 = 4 ∨ x0 = 5 ∨ x0 = 6 ∨ x0 = 7 ∨ x0 < 2 ∨ 7 < x0 by omega) with h5 | h5 | h5 | h5 | h5 | h5 | h5 | h5
  · refine tf_tableIn (tgt := 40) hx hb dX1_joined_1 h5 (by decide) (by decide) (by decide) rfl (by decide) ?_
    refine lv_iload_n hx hb dX1_joined_40 rfl (lv_at hl 1 rfl) ?_
    refine tf_i2l hx hb ⟨by omega, by omega⟩ dX1_joined_41 ?_
    refine lv_iload_n hx hb dX1_joined_42 rfl (lv_at hl 2 rfl) ?_
    refine tf_i2l hx hb ⟨by omega, by omega⟩ dX1_joined_43 ?_
    refine tf_ladd hx hb dX1_joined_44 ?_
    refine lv_lstore_n (lv' := [(3, .long (Int64.ofInt ((x1 + x2)))), (0, .int (Int32.ofInt x0)), (1, .int (Int32.ofInt x1)), (2, .int (Int32.ofInt x2))]) hx hb dX1_joined_45 rfl hl (by decide) rfl (fun ls hl => ?_)
    refine lv_goto (tgt := 124) hx hb dX1_joined_46 (by decide) ?_
    exact j_124 ((x1 + x2)) ⟨by omega, by omega⟩ _ _ hW  _ (lv_sub hl [0] rfl)
  · refine tf_tableIn (tgt := 49) hx hb dX1_joined_1 h5 (by decide) (by decide) (by decide) rfl (by decide) ?_
    refine lv_iload_n hx hb dX1_joined_49 rfl (lv_at hl 1 rfl) ?_
    refine tf_i2l hx hb ⟨by omega, by omega⟩ dX1_joined_50 ?_
    refine lv_iload_n hx hb dX1_joined_51 rfl (lv_at hl 2 rfl) ?_
    refine tf_i2l hx hb ⟨by omega, by omega⟩ dX1_joined_52 ?_
    refine tf_lsub hx hb dX1_joined_53 ?_
    refine lv_lstore_n (lv' := [(3, .long (Int64.ofInt ((x1 - x2)))), (0, .int (Int32.ofInt x0)), (1, .int (Int32.ofInt x1)), (2, .int (Int32.ofInt x2))]) hx hb dX1_joined_54 rfl hl (by decide) rfl (fun ls hl => ?_)
    refine lv_goto (tgt := 124) hx hb dX1_joined_55 (by decide) ?_
    exact j_124 ((x1 - x2)) ⟨by omega, by omega⟩ _ _ hW  _ (lv_sub hl [0] rfl)
  · refine tf_tableIn (tgt := 58) hx hb dX1_joined_1 h5 (by decide) (by decide) (by decide) rfl (by decide) ?_
    refine lv_iload_n hx hb dX1_joined_58 rfl (lv_at hl 1 rfl) ?_
    refine tf_i2l hx hb ⟨by omega, by omega⟩ dX1_joined_59 ?_
    refine lv_iload_n hx hb dX1_joined_60 rfl (lv_at hl 2 rfl) ?_
    refine tf_i2l hx hb ⟨by omega, by omega⟩ dX1_joined_61 ?_
    refine tf_lmul_any hx hb dX1_joined_62 (fun z6 hz6 => ?_)
    refine lv_lstore_n (lv' := [(3, .long (Int64.ofInt z6)), (0, .int (Int32.ofInt x0)), (1, .int (Int32.ofInt x1)), (2, .int (Int32.ofInt x2))]) hx hb dX1_joined_63 rfl hl (by decide) rfl (fun ls hl => ?_)
    refine lv_goto (tgt := 124) hx hb dX1_joined_64 (by decide) ?_
    exact j_124 (z6) ⟨by omega, by omega⟩ _ _ hW  _ (lv_sub hl [0] rfl)
  · refine tf_tableIn (tgt := 67) hx hb dX1_joined_1 h5 (by decide) (by decide) (by decide) rfl (by decide) ?_
    refine lv_iload_n hx hb dX1_joined_67 rfl (lv_at hl 2 rfl) ?_
    refine tf_if_ne (tgt := 77) hx hb ⟨by omega, by omega⟩ dX1_joined_68 (by decide) (fun h7 => ?_) (fun h7 => ?_)
    · refine lv_iload_n hx hb dX1_joined_77 rfl (lv_at hl 1 rfl) ?_
      refine lv_iload_n hx hb dX1_joined_78 rfl (lv_at hl 2 rfl) ?_
      refine tf_idiv_any hx hb (by omega) ⟨by omega, by omega⟩ dX1_joined_79 (fun z8 hz8 => ?_)
      refine tf_i2l hx hb ⟨by omega, by omega⟩ dX1_joined_80 ?_
      exact j_81 (z8) ⟨by omega, by omega⟩ _ _ hW  _ (lv_sub hl [] rfl)
    · refine tf_ldc2 (z := -1000000001) hx hb hown (hts _ kl_X1_36) (by decide) dX1_joined_71 ?_
      refine lv_goto (tgt := 81) hx hb dX1_joined_74 (by decide) ?_
      exact j_81 ((-1000000001)) ⟨by omega, by omega⟩ _ _ hW  _ (lv_sub hl [] rfl)
  · refine tf_tableIn (tgt := 85) hx hb dX1_joined_1 h5 (by decide) (by decide) (by decide) rfl (by decide) ?_
    refine lv_iload_n hx hb dX1_joined_85 rfl (lv_at hl 1 rfl) ?_
    refine lv_iload_n hx hb dX1_joined_86 rfl (lv_at hl 2 rfl) ?_
    refine tf_icmp_ge (tgt := 94) hx hb ⟨by omega, by omega⟩ ⟨by omega, by omega⟩ dX1_joined_87 (by decide) (fun h9 => ?_) (fun h9 => ?_)
    · refine tf_lconst (z := 0) hx hb dX1_joined_94 (by decide) ?_
      exact j_95 (0) ⟨by omega, by omega⟩ _ _ hW  _ (lv_sub hl [] rfl)
    · refine tf_lconst (z := 1) hx hb dX1_joined_90 (by decide) ?_
      refine lv_goto (tgt := 95) hx hb dX1_joined_91 (by decide) ?_
      exact j_95 (1) ⟨by omega, by omega⟩ _ _ hW  _ (lv_sub hl [] rfl)
  · refine tf_tableIn (tgt := 99) hx hb dX1_joined_1 h5 (by decide) (by decide) (by decide) rfl (by decide) ?_
    refine lv_iload_n hx hb dX1_joined_99 rfl (lv_at hl 1 rfl) ?_
    refine lv_iload_n hx hb dX1_joined_100 rfl (lv_at hl 2 rfl) ?_
    refine tf_icmp_le (tgt := 108) hx hb ⟨by omega, by omega⟩ ⟨by omega, by omega⟩ dX1_joined_101 (by decide) (fun h10 => ?_) (fun h10 => ?_)
    · refine tf_lconst (z := 0) hx hb dX1_joined_108 (by decide) ?_
      exact j_109 (0) ⟨by omega, by omega⟩ _ _ hW  _ (lv_sub hl [] rfl)
    · refine tf_lconst (z := 1) hx hb dX1_joined_104 (by decide) ?_
      refine lv_goto (tgt := 109) hx hb dX1_joined_105 (by decide) ?_
      exact j_109 (1) ⟨by omega, by omega⟩ _ _ hW  _ (lv_sub hl [] rfl)
  · refine tf_tableOut (tgt := 113) hx hb dX1_joined_1 ⟨by omega, by omega⟩ (by omega) (by decide) ?_
    refine lv_iload_n hx hb dX1_joined_113 rfl (lv_at hl 1 rfl) ?_
    refine lv_iload_n hx hb dX1_joined_114 rfl (lv_at hl 2 rfl) ?_
    refine tf_icmp_ne (tgt := 122) hx hb ⟨by omega, by omega⟩ ⟨by omega, by omega⟩ dX1_joined_115 (by decide) (fun h11 => ?_) (fun h11 => ?_)
    · refine tf_lconst (z := 0) hx hb dX1_joined_122 (by decide) ?_
      exact j_123 (0) ⟨by omega, by omega⟩ _ _ hW  _ (lv_sub hl [] rfl)
    · refine tf_lconst (z := 1) hx hb dX1_joined_118 (by decide) ?_
      refine lv_goto (tgt := 123) hx hb dX1_joined_119 (by decide) ?_
      exact j_123 (1) ⟨by omega, by omega⟩ _ _ hW  _ (lv_sub hl [] rfl)
  · refine tf_tableOut (tgt := 113) hx hb dX1_joined_1 ⟨by omega, by omega⟩ (by omega) (by decide) ?_
    refine lv_iload_n hx hb dX1_joined_113 rfl (lv_at hl 1 rfl) ?_
    refine lv_iload_n hx hb dX1_joined_114 rfl (lv_at hl 2 rfl) ?_
    refine tf_icmp_ne (tgt := 122) hx hb ⟨by omega, by omega⟩ ⟨by omega, by omega⟩ dX1_joined_115 (by decide) (fun h12 => ?_) (fun h12 => ?_)
    · refine tf_lconst (z := 0) hx hb dX1_joined_122 (by decide) ?_
      exact j_123 (0) ⟨by omega, by omega⟩ _ _ hW  _ (lv_sub hl [] rfl)
    · refine tf_lconst (z := 1) hx hb dX1_joined_118 (by decide) ?_
      refine lv_goto (tgt := 123) hx hb dX1_joined_119 (by decide) ?_
      exact j_123 (1) ⟨by omega, by omega⟩ _ _ hW  _ (lv_sub hl [] rfl)

abbrev M_X1_reckon : List (Nat × Nat) := [(0, 0)]
set_option maxHeartbeats 4000000 in
set_option maxRecDepth 100000 in
theorem c_X1_reckon (l : Launch) (g : tf_G) (T : tf_T) (a0 : Nat) (ha0 : T a0 = some (18, 0)) (x1 : Int) (hp1 : (-2147483648) ≤ x1 ∧ x1 ≤ 2147483647) (x2 : Int) (hp2 : (-2147483648) ≤ x2 ∧ x2 ≤ 2147483647) (a3 : Nat) (ha3 : T a3 = some (0, 9)) (a4 : Nat) (ha4 : T a4 = some (0, 64)) : Met l yX1_reckon (cd_X1_reckon :: wsL_law) ({ frames := 2, cells := 0, slots := 0, locals := 48 }) (tf_P g T [.ref a0, .int (Int32.ofInt x1), .int (Int32.ofInt x2), .ref a3, .ref a4] (fun H => True)) (tf_Qi g M_X1_reckon T (fun z _ _ => (-2147483648) ≤ z ∧ z ≤ 2147483647)) 0 0 (fun q => tf_B g ≤ q) := by
  refine Met.ofW (cc := cX1_reckon) (maxL := 9) (ret := (some .int)) (by decide) rfl ?_
  intro p e s m args below meth c s₁ B hml hv
  obtain ⟨hargs, hk, hW0, hB, hpre⟩ := hv
  have hx := B.exec
  have hb := B.bytes
  have hr := B.returns
  have hts : ∀ w ∈ wsL_law, w.before args s = true := fun w h => atoms_spec (ws := cd_X1_reckon :: wsL_law) B.pre w (List.mem_cons_of_mem _ h)
  have hown : s.vm.findClass RX1 = some m.cls := findClass_of_methodNamed B.named
  have hlocks := B.notSynchronized
  have hK := hk.1
  have hW := tf_n.start (M := M_X1_reckon) hW0 hB
  obtain ⟨Q, hQ⟩ : ∃ q, q = MQ below (tf_Qi g M_X1_reckon T (fun z _ _ => (-2147483648) ≤ z ∧ z ≤ 2147483647)) args s 0 0 (fun q => tf_B g ≤ q) := ⟨_, rfl⟩
  rw [← hQ]
  obtain ⟨R, hR⟩ : ∃ q, q = (headSpec (cd_X1_reckon :: wsL_law) ({ frames := 2, cells := 0, slots := 0, locals := 48 })).room := ⟨_, rfl⟩
  rw [← hR]
  have hR1 : 2 ≤ R.frames := by rw [hR]; exact Nat.le_refl _
  have hR2 : 48 ≤ R.locals := by rw [hR]; exact Nat.le_refl _
  have hR3 : 0 ≤ R.cells := by rw [hR]; exact Nat.le_refl _
  have hR4 : 0 ≤ R.slots := by rw [hR]; exact Nat.le_refl _
  have hin := (name_of_methodNamed B.named B.method).1
  clear hR B
  have j_235 : ∀ (x5_235 : Int), (-1) ≤ x5_235 ∧ x5_235 ≤ 63 → ∀ (H : Heap) (locs : List Loc), tf_n tf_kt g M_X1_reckon T s.heap T H locs → ∀ (ls : Array Slot), lv_has ls 9 [(4, .ref a4), (5, .int (Int32.ofInt x5_235))] → W p l e R s m args below meth c H locs 0 0 Q (F0 m 235 ls []) := by
    intro x5_235 hx5_235 H locs hW  ls hl
    refine lv_iload hx hb dX1_reckon_235 (lv_at hl 1 rfl) ?_
    refine tf_if_ne (tgt := 247) hx hb ⟨by omega, by omega⟩ dX1_reckon_237 (by decide) (fun h1 => ?_) (fun h1 => ?_)
    · refine tf_ldc (z := -1000000001) hx hb hown (hts _ kc_X1_22) (by decide) dX1_reckon_247 ?_
      exact tf_reti (z := (-1000000001)) hx hb hr hlocks hQ hW (show (-2147483648) ≤ ((-1000000001)) ∧ ((-1000000001)) ≤ 2147483647 by omega) dX1_reckon_249
    · refine lv_aload hx hb dX1_reckon_240 (lv_at hl 0 rfl) ?_
      refine tf_iconst hx hb dX1_reckon_242 ?_
      refine tf_iald (t0 := 0) hx hb hK hW ha4 rfl rfl (by omega) (by omega) dX1_reckon_243 (fun v2 hv2 hsv2 => ?_)
      obtain ⟨z3, rfl, hz3⟩ := tf_v0 hv2
      refine lv_goto (tgt := 249) hx hb dX1_reckon_244 (by decide) ?_
      exact tf_reti (z := z3) hx hb hr hlocks hQ hW (show (-2147483648) ≤ (z3) ∧ (z3) ≤ 2147483647 by omega) dX1_reckon_249
  have j_6 : ∀ (n_6 : Nat), (-2147483648) ≤ x2 ∧ x2 ≤ 2147483647 → ∀ (x5_6 : Int), (-1) ≤ x5_6 ∧ x5_6 ≤ 63 → ∀ (x6_6 : Int), (-2147483648) ≤ x6_6 ∧ x6_6 ≤ 2147483647 → (2147483647 - x6_6 + 1 ≤ (n_6 : Int)) → ∀ (H : Heap) (locs : List Loc), tf_n tf_kt g M_X1_reckon T s.heap T H locs → ∀ (ls : Array Slot), lv_has ls 9 [(0, .ref a0), (2, .int (Int32.ofInt x2)), (3, .ref a3), (4, .ref a4), (5, .int (Int32.ofInt x5_6)), (6, .int (Int32.ofInt x6_6))] → W p l e R s m args below meth c H locs 0 0 Q (F0 m 6 ls []) := by
    intro n_6
    induction n_6 with
    | zero =>
      intro hx2_6 x5_6 hx5_6 x6_6 hx6_6 hm_6
      exfalso; omega
    | succ n_6 ih_6 =>
      intro hx2_6 x5_6 hx5_6 x6_6 hx6_6 hm_6 H locs hW  ls hl
      have j_229 : 1 ≤ x2 ∧ x2 ≤ 2147483647 → ∀ (x5_229 : Int), (-1) ≤ x5_229 ∧ x5_229 ≤ 63 → ∀ (x6_229 : Int), 0 ≤ x6_229 ∧ x6_229 ≤ 2147483646 → (x6_6 ≤ x6_229) → ∀ (H : Heap) (locs : List Loc), tf_n tf_kt g M_X1_reckon T s.heap T H locs → ∀ (ls : Array Slot), lv_has ls 9 [(0, .ref a0), (2, .int (Int32.ofInt x2)), (3, .ref a3), (4, .ref a4), (5, .int (Int32.ofInt x5_229)), (6, .int (Int32.ofInt x6_229))] → W p l e R s m args below meth c H locs 0 0 Q (F0 m 229 ls []) := by
        intro hx2_229 x5_229 hx5_229 x6_229 hx6_229 hi0_229 H locs hW  ls hl
        refine lv_iinc (v := Int32.ofInt ((x6_229 + 1))) (lv' := [(6, .int (Int32.ofInt ((x6_229 + 1)))), (0, .ref a0), (2, .int (Int32.ofInt x2)), (3, .ref a3), (4, .ref a4), (5, .int (Int32.ofInt x5_229))]) hx hb dX1_reckon_229 hl (k := 5) rfl (Int32.ofInt_add _ _).symm (by decide) rfl (fun ls hl => ?_)
        refine lv_goto (tgt := 6) hx hb dX1_reckon_232 (by decide) ?_
        exact ih_6 ⟨by omega, by omega⟩ (x5_229) ⟨by omega, by omega⟩ ((x6_229 + 1)) ⟨by omega, by omega⟩ (by omega) _ _ hW  _ (lv_sub hl [1, 2, 3, 4, 5, 0] rfl)
      have j_159 : 1 ≤ x2 ∧ x2 ≤ 2147483647 → 0 ≤ x5_6 ∧ x5_6 ≤ 63 → 0 ≤ x6_6 ∧ x6_6 ≤ 400 → ∀ (x8_159 : Int), (-134217728) ≤ x8_159 ∧ x8_159 ≤ 134217727 → ∀ (y0_159 : Int), (-2147483648) ≤ y0_159 ∧ y0_159 ≤ 2147483647 → ∀ (y1_159 : Int), 0 ≤ y1_159 ∧ y1_159 ≤ 1 → ∀ (H : Heap) (locs : List Loc), tf_n tf_kt g M_X1_reckon T s.heap T H locs → ∀ (ls : Array Slot), lv_has ls 9 [(0, .ref a0), (2, .int (Int32.ofInt x2)), (3, .ref a3), (4, .ref a4), (5, .int (Int32.ofInt x5_6)), (6, .int (Int32.ofInt x6_6)), (8, .int (Int32.ofInt x8_159))] → W p l e R s m args below meth c H locs 0 0 Q (F0 m 159 ls [.int (Int32.ofInt y1_159), .int (Int32.ofInt y0_159)]) := by
        intro hx2_159 hx5_159 hx6_159 x8_159 hx8_159 y0_159 hy0_159 y1_159 hy1_159 H locs hW  ls hl
        refine tf_icmp_ne (tgt := 176) hx hb ⟨by omega, by omega⟩ ⟨by omega, by omega⟩ dX1_reckon_159 (by decide) (fun h4 => ?_) (fun h4 => ?_)
        · refine lv_iinc (v := Int32.ofInt ((x5_6 + (-1)))) (lv' := [(5, .int (Int32.ofInt ((x5_6 + (-1))))), (0, .ref a0), (2, .int (Int32.ofInt x2)), (3, .ref a3), (4, .ref a4), (6, .int (Int32.ofInt x6_6)), (8, .int (Int32.ofInt x8_159))]) hx hb dX1_reckon_176 hl (k := 4) rfl (Int32.ofInt_add _ _).symm (by decide) rfl (fun ls hl => ?_)
          refine lv_goto (tgt := 229) hx hb dX1_reckon_179 (by decide) ?_
          exact j_229 ⟨by omega, by omega⟩ ((x5_6 + (-1))) ⟨by omega, by omega⟩ (x6_6) ⟨by omega, by omega⟩ (by omega) _ _ hW  _ (lv_sub hl [1, 2, 3, 4, 0, 5] rfl)
        · refine lv_iload hx hb dX1_reckon_162 (lv_at hl 5 rfl) ?_
          refine lv_iload hx hb dX1_reckon_164 (lv_at hl 6 rfl) ?_
          refine tf_iconst hx hb dX1_reckon_166 ?_
          refine tf_isub hx hb dX1_reckon_167 ?_
          refine tf_mmax hx hb hml hl hown (hts _ (tw34 (i := 9) rfl)) (hts _ (tw10 (i := 1) rfl)) (hts _ (tw10 (i := 2) rfl)) (hts _ (tw10 (i := 3) rfl)) ⟨by omega, by omega⟩ ⟨by omega, by omega⟩ (Nat.le_of_ble_eq_true rfl) (Nat.le_trans (by decide) hR1) (Nat.le_trans (by decide) hR2) (Nat.zero_le _) (Nat.zero_le _) dX1_reckon_168 (fun z5 hz5 => ?_)
          refine lv_istore (lv' := [(6, .int (Int32.ofInt z5)), (0, .ref a0), (2, .int (Int32.ofInt x2)), (3, .ref a3), (4, .ref a4), (5, .int (Int32.ofInt x5_6)), (8, .int (Int32.ofInt x8_159))]) hx hb dX1_reckon_171 hl (by decide) rfl (fun ls hl => ?_)
          refine lv_goto (tgt := 229) hx hb dX1_reckon_173 (by decide) ?_
          exact j_229 ⟨by omega, by omega⟩ (x5_6) ⟨by omega, by omega⟩ (z5) ⟨by omega, by omega⟩ (by omega) _ _ hW  _ (lv_sub hl [1, 2, 3, 4, 5, 0] rfl)
      have j_101 : 1 ≤ x2 ∧ x2 ≤ 2147483647 → ∀ (x5_101 : Int), 0 ≤ x5_101 ∧ x5_101 ≤ 63 → 0 ≤ x6_6 ∧ x6_6 ≤ 400 → ∀ (y1_101 : Int), 0 ≤ y1_101 ∧ y1_101 ≤ 63 → ∀ (y2_101 : Int), (-2147483648) ≤ y2_101 ∧ y2_101 ≤ 2147483647 → ∀ (H : Heap) (locs : List Loc), tf_n tf_kt g M_X1_reckon T s.heap T H locs → ∀ (ls : Array Slot), lv_has ls 9 [(0, .ref a0), (2, .int (Int32.ofInt x2)), (3, .ref a3), (4, .ref a4), (5, .int (Int32.ofInt x5_101)), (6, .int (Int32.ofInt x6_6))] → W p l e R s m args below meth c H locs 0 0 Q (F0 m 101 ls [.int (Int32.ofInt y2_101), .int (Int32.ofInt y1_101), .ref a4]) := by
        intro hx2_101 x5_101 hx5_101 hx6_101 y1_101 hy1_101 y2_101 hy2_101 H locs hW  ls hl
        refine tf_iast (t0 := 0) hx hb hK hW ha4 rfl rfl (by omega) (by omega) (by decide) (tf_u0 (by omega) (by omega)) dX1_reckon_101 (fun H6 locs6 hW hs6 ht6 hq6 => ?_)
        refine lv_goto (tgt := 229) hx hb dX1_reckon_102 (by decide) ?_
        exact j_229 ⟨by omega, by omega⟩ (x5_101) ⟨by omega, by omega⟩ (x6_6) ⟨by omega, by omega⟩ (by omega) _ _ hW  _ (lv_sub hl [0, 1, 2, 3, 4, 5] rfl)
      have j_99 : 1 ≤ x2 ∧ x2 ≤ 2147483647 → ∀ (x5_99 : Int), 0 ≤ x5_99 ∧ x5_99 ≤ 63 → 0 ≤ x6_6 ∧ x6_6 ≤ 400 → ∀ (x8_99 : Int), 0 ≤ x8_99 ∧ x8_99 ≤ 134217727 → ∀ (y1_99 : Int), 0 ≤ y1_99 ∧ y1_99 ≤ 63 → ∀ (H : Heap) (locs : List Loc), tf_n tf_kt g M_X1_reckon T s.heap T H locs → ∀ (ls : Array Slot), lv_has ls 9 [(0, .ref a0), (2, .int (Int32.ofInt x2)), (3, .ref a3), (4, .ref a4), (5, .int (Int32.ofInt x5_99)), (6, .int (Int32.ofInt x6_6)), (8, .int (Int32.ofInt x8_99))] → W p l e R s m args below meth c H locs 0 0 Q (F0 m 99 ls [.int (Int32.ofInt y1_99), .ref a4]) := by
        intro hx2_99 x5_99 hx5_99 hx6_99 x8_99 hx8_99 y1_99 hy1_99 H locs hW  ls hl
        refine lv_iload hx hb dX1_reckon_99 (lv_at hl 6 rfl) ?_
        exact j_101 ⟨by omega, by omega⟩ (x5_99) ⟨by omega, by omega⟩ ⟨by omega, by omega⟩ (y1_99) ⟨by omega, by omega⟩ (x8_99) ⟨by omega, by omega⟩ _ _ hW  _ (lv_sub hl [0, 1, 2, 3, 4, 5] rfl)
      refine lv_iload hx hb dX1_reckon_6 (lv_at hl 5 rfl) ?_
      refine tf_if_lt (tgt := 235) hx hb ⟨by omega, by omega⟩ dX1_reckon_8 (by decide) (fun h7 => ?_) (fun h7 => ?_)
      · exact j_235 (x5_6) ⟨by omega, by omega⟩ _ _ hW  _ (lv_sub hl [3, 4] rfl)
      · refine lv_iload hx hb dX1_reckon_11 (lv_at hl 5 rfl) ?_
        refine lv_iload_n hx hb dX1_reckon_13 rfl (lv_at hl 1 rfl) ?_
        refine tf_icmp_ge (tgt := 235) hx hb ⟨by omega, by omega⟩ ⟨by omega, by omega⟩ dX1_reckon_14 (by decide) (fun h8 => ?_) (fun h8 => ?_)
        · exact j_235 (x5_6) ⟨by omega, by omega⟩ _ _ hW  _ (lv_sub hl [3, 4] rfl)
        · refine lv_iload hx hb dX1_reckon_17 (lv_at hl 5 rfl) ?_
          refine lv_aload_n hx hb dX1_reckon_19 rfl (lv_at hl 0 rfl) ?_
          refine tf_get hx hb hts inlX1 hown hK (ci := 1) rfl hW ha0 rfl 0 rfl (by decide) (hts _ fl_X1_9) dX1_reckon_20 (fun v9 hv9 hsv9 => ?_)
          obtain ⟨ad10, il10, rfl, had10, hil10⟩ := tf_v3 hv9
          refine tf_alen (t0 := 0) hx hb hK hW had10 rfl rfl dX1_reckon_23 (fun hn11 => ?_)
          refine tf_icmp_ge (tgt := 235) hx hb ⟨by omega, by omega⟩ ⟨by omega, by omega⟩ dX1_reckon_24 (by decide) (fun h12 => ?_) (fun h12 => ?_)
          · exact j_235 (x5_6) ⟨by omega, by omega⟩ _ _ hW  _ (lv_sub hl [3, 4] rfl)
          · refine lv_aload_n hx hb dX1_reckon_27 rfl (lv_at hl 0 rfl) ?_
            refine tf_get hx hb hts inlX1 hown hK (ci := 1) rfl hW ha0 rfl 0 rfl (by decide) (hts _ fl_X1_9) dX1_reckon_28 (fun v13 hv13 hsv13 => ?_)
            obtain rfl : v13 = .ref ad10 := Option.some.inj (hsv13.symm.trans hsv9)
            refine lv_iload hx hb dX1_reckon_31 (lv_at hl 5 rfl) ?_
            refine tf_iald (t0 := 0) hx hb hK hW had10 rfl rfl (by omega) (by omega) dX1_reckon_33 (fun v14 hv14 hsv14 => ?_)
            obtain ⟨z15, rfl, hz15⟩ := tf_v0 hv14
            refine tf_bipush hx hb dX1_reckon_34 (by decide) ?_
            refine tf_iand_mask hx hb 4 (by decide) (by decide +kernel) dX1_reckon_36 (fun z16 hz16 kz16 => ?_)
            refine lv_istore (lv' := [(7, .int (Int32.ofInt z16)), (0, .ref a0), (2, .int (Int32.ofInt x2)), (3, .ref a3), (4, .ref a4), (5, .int (Int32.ofInt x5_6)), (6, .int (Int32.ofInt x6_6))]) hx hb dX1_reckon_37 hl (by decide) rfl (fun ls hl => ?_)
            refine lv_aload_n hx hb dX1_reckon_39 rfl (lv_at hl 1 rfl) ?_
            refine tf_get hx hb hts inlX1 hown hK (ci := 1) rfl hW ha0 rfl 0 rfl (by decide) (hts _ fl_X1_9) dX1_reckon_40 (fun v17 hv17 hsv17 => ?_)
            obtain rfl : v17 = .ref ad10 := Option.some.inj (hsv17.symm.trans hsv9)
            refine lv_iload hx hb dX1_reckon_43 (lv_at hl 6 rfl) ?_
            refine tf_iald (t0 := 0) hx hb hK hW had10 rfl rfl (by omega) (by omega) dX1_reckon_45 (fun v18 hv18 hsv18 => ?_)
            obtain ⟨z19, rfl, hz19⟩ := tf_v0 hv18
            refine tf_iconst hx hb dX1_reckon_46 ?_
            refine tf_ishr_k hx hb 4 134217728 (by decide) (by decide +kernel) (by decide) dX1_reckon_47 (fun z20 hz20 => ?_)
            refine lv_istore (lv' := [(8, .int (Int32.ofInt z20)), (7, .int (Int32.ofInt z16)), (0, .ref a0), (2, .int (Int32.ofInt x2)), (3, .ref a3), (4, .ref a4), (5, .int (Int32.ofInt x5_6)), (6, .int (Int32.ofInt x6_6))]) hx hb dX1_reckon_48 hl (by decide) rfl (fun ls hl => ?_)
            refine lv_iload hx hb dX1_reckon_50 (lv_at hl 1 rfl) ?_
            refine tf_iconst hx hb dX1_reckon_52 ?_
            refine tf_icmp_gt (tgt := 105) hx hb ⟨by omega, by omega⟩ ⟨by decide, by decide⟩ dX1_reckon_53 (by decide) (fun h21 => ?_) (fun h21 => ?_)
            · refine lv_iload hx hb dX1_reckon_105 (lv_at hl 1 rfl) ?_
              refine tf_bipush hx hb dX1_reckon_107 (by decide) ?_
              refine tf_icmp_lt (tgt := 182) hx hb ⟨by omega, by omega⟩ ⟨by decide, by decide⟩ dX1_reckon_109 (by decide) (fun h22 => ?_) (fun h22 => ?_)
              · refine lv_iload hx hb dX1_reckon_182 (lv_at hl 6 rfl) ?_
                refine tf_iconst hx hb dX1_reckon_184 ?_
                refine tf_icmp_ge (tgt := 191) hx hb ⟨by omega, by omega⟩ ⟨by decide, by decide⟩ dX1_reckon_185 (by decide) (fun h23 => ?_) (fun h23 => ?_)
                · refine lv_iinc (v := Int32.ofInt ((x5_6 + (-1)))) (lv' := [(5, .int (Int32.ofInt ((x5_6 + (-1))))), (8, .int (Int32.ofInt z20)), (7, .int (Int32.ofInt z16)), (0, .ref a0), (2, .int (Int32.ofInt x2)), (3, .ref a3), (4, .ref a4), (6, .int (Int32.ofInt x6_6))]) hx hb dX1_reckon_191 hl (k := 6) rfl (Int32.ofInt_add _ _).symm (by decide) rfl (fun ls hl => ?_)
                  refine lv_aload hx hb dX1_reckon_194 (lv_at hl 6 rfl) ?_
                  refine lv_iload hx hb dX1_reckon_196 (lv_at hl 0 rfl) ?_
                  refine lv_iload hx hb dX1_reckon_198 (lv_at hl 2 rfl) ?_
                  refine lv_aload hx hb dX1_reckon_200 (lv_at hl 6 rfl) ?_
                  refine lv_iload hx hb dX1_reckon_202 (lv_at hl 0 rfl) ?_
                  refine tf_iald (t0 := 0) hx hb hK hW ha4 rfl rfl (by omega) (by omega) dX1_reckon_204 (fun v24 hv24 hsv24 => ?_)
                  obtain ⟨z25, rfl, hz25⟩ := tf_v0 hv24
                  refine lv_aload hx hb dX1_reckon_205 (lv_at hl 6 rfl) ?_
                  refine lv_iload hx hb dX1_reckon_207 (lv_at hl 0 rfl) ?_
                  refine tf_iconst hx hb dX1_reckon_209 ?_
                  refine tf_iadd hx hb dX1_reckon_210 ?_
                  refine tf_iald (t0 := 0) hx hb hK hW ha4 rfl rfl (by omega) (by omega) dX1_reckon_211 (fun v26 hv26 hsv26 => ?_)
                  obtain ⟨z27, rfl, hz27⟩ := tf_v0 hv26
                  refine tf_calli (va_runS (As := [.int (Int32.ofInt z16), .int (Int32.ofInt z25), .int (Int32.ofInt z27)]) (rest := [.int (Int32.ofInt ((x5_6 + (-1)))), .ref a4]) ⟨hx, hb, hml, hown, hts⟩ (c_X1_joined l g T (z16) ⟨by omega, by omega⟩ (z25) ⟨by omega, by omega⟩ (z27) ⟨by omega, by omega⟩) ⟨callB_of 3 hts (gw_ws cm_X1_joined) rfl rfl rfl (hts _ (tw20 (i := 5) rfl)) (hts _ (tw34 (i := 14) rfl)) hd_X1_joined.2 ⟨Nat.le_trans (by decide) hR1, Nat.le_trans (by decide) hR2⟩, hts _ (tw34 (i := 15) rfl)⟩ (tf_preS hk hW trivial) rfl rfl hl.1 rfl (lv_room (Nat.le_of_ble_eq_true rfl)) dX1_reckon_212 ⟨Nat.zero_le _, Nat.zero_le _⟩) hW (by decide) (fun z28 H28 locs28 hW hF28 hp28 => ?_)
                  have hs29 := tf_keepF hF28 ha0 rfl rfl (by decide) hsv9
                  obtain ⟨hp28_0, hp28_1⟩ := hp28
                  refine tf_iast (t0 := 0) hx hb hK hW ha4 rfl rfl (by omega) (by omega) (by decide) (tf_u0 (by omega) (by omega)) dX1_reckon_215 (fun H30 locs30 hW hs30 ht30 hq30 => ?_)
                  have hs31 := tf_keepQ hs29 (hq30 _ (tf_ne ha0 ha4 (by decide)))
                  refine lv_aload hx hb dX1_reckon_216 (lv_at hl 6 rfl) ?_
                  refine lv_iload hx hb dX1_reckon_218 (lv_at hl 0 rfl) ?_
                  refine tf_iald (t0 := 0) hx hb hK hW ha4 rfl rfl (by omega) (by omega) dX1_reckon_220 (fun v32 hv32 hsv32 => ?_)
                  obtain ⟨z33, rfl, hz33⟩ := tf_v0 hv32
                  refine tf_ldc (z := -1000000001) hx hb hown (hts _ kc_X1_22) (by decide) dX1_reckon_221 ?_
                  refine tf_icmp_ne (tgt := 229) hx hb ⟨by omega, by omega⟩ ⟨by decide, by decide⟩ dX1_reckon_223 (by decide) (fun h34 => ?_) (fun h34 => ?_)
                  · exact j_229 ⟨by omega, by omega⟩ ((x5_6 + (-1))) ⟨by omega, by omega⟩ (x6_6) ⟨by omega, by omega⟩ (by omega) _ _ hW  _ (lv_sub hl [3, 4, 5, 6, 0, 7] rfl)
                  · refine tf_ldc (z := -1000000001) hx hb hown (hts _ kc_X1_22) (by decide) dX1_reckon_226 ?_
                    exact tf_reti (z := (-1000000001)) hx hb hr hlocks hQ hW (show (-2147483648) ≤ ((-1000000001)) ∧ ((-1000000001)) ≤ 2147483647 by omega) dX1_reckon_228
                · refine tf_ldc (z := -1000000001) hx hb hown (hts _ kc_X1_22) (by decide) dX1_reckon_188 ?_
                  exact tf_reti (z := (-1000000001)) hx hb hr hlocks hQ hW (show (-2147483648) ≤ ((-1000000001)) ∧ ((-1000000001)) ≤ 2147483647 by omega) dX1_reckon_190
              · refine lv_iload hx hb dX1_reckon_112 (lv_at hl 6 rfl) ?_
                refine tf_if_ge (tgt := 120) hx hb ⟨by omega, by omega⟩ dX1_reckon_114 (by decide) (fun h35 => ?_) (fun h35 => ?_)
                · refine lv_iload hx hb dX1_reckon_120 (lv_at hl 1 rfl) ?_
                  refine tf_bipush hx hb dX1_reckon_122 (by decide) ?_
                  refine tf_icmp_ne (tgt := 142) hx hb ⟨by omega, by omega⟩ ⟨by decide, by decide⟩ dX1_reckon_124 (by decide) (fun h36 => ?_) (fun h36 => ?_)
                  · refine lv_aload hx hb dX1_reckon_142 (lv_at hl 5 rfl) ?_
                    refine lv_iload hx hb dX1_reckon_144 (lv_at hl 6 rfl) ?_
                    refine tf_iald (t0 := 0) hx hb hK hW ha4 rfl rfl (by omega) (by omega) dX1_reckon_146 (fun v37 hv37 hsv37 => ?_)
                    obtain ⟨z38, rfl, hz38⟩ := tf_v0 hv37
                    refine lv_iload hx hb dX1_reckon_147 (lv_at hl 1 rfl) ?_
                    refine tf_bipush hx hb dX1_reckon_149 (by decide) ?_
                    refine tf_icmp_ne (tgt := 158) hx hb ⟨by omega, by omega⟩ ⟨by decide, by decide⟩ dX1_reckon_151 (by decide) (fun h39 => ?_) (fun h39 => ?_)
                    · refine tf_iconst hx hb dX1_reckon_158 ?_
                      exact j_159 ⟨by omega, by omega⟩ ⟨by omega, by omega⟩ ⟨by omega, by omega⟩ (z20) ⟨by omega, by omega⟩ (z38) ⟨by omega, by omega⟩ (0) ⟨by omega, by omega⟩ _ _ hW  _ (lv_sub hl [2, 3, 4, 5, 6, 7, 0] rfl)
                    · refine tf_iconst hx hb dX1_reckon_154 ?_
                      refine lv_goto (tgt := 159) hx hb dX1_reckon_155 (by decide) ?_
                      exact j_159 ⟨by omega, by omega⟩ ⟨by omega, by omega⟩ ⟨by omega, by omega⟩ (z20) ⟨by omega, by omega⟩ (z38) ⟨by omega, by omega⟩ (1) ⟨by omega, by omega⟩ _ _ hW  _ (lv_sub hl [2, 3, 4, 5, 6, 7, 0] rfl)
                  · refine lv_aload hx hb dX1_reckon_127 (lv_at hl 5 rfl) ?_
                    refine lv_iload hx hb dX1_reckon_129 (lv_at hl 6 rfl) ?_
                    refine tf_iconst hx hb dX1_reckon_131 ?_
                    refine lv_aload hx hb dX1_reckon_132 (lv_at hl 5 rfl) ?_
                    refine lv_iload hx hb dX1_reckon_134 (lv_at hl 6 rfl) ?_
                    refine tf_iald (t0 := 0) hx hb hK hW ha4 rfl rfl (by omega) (by omega) dX1_reckon_136 (fun v40 hv40 hsv40 => ?_)
                    obtain ⟨z41, rfl, hz41⟩ := tf_v0 hv40
                    refine tf_isub_any hx hb dX1_reckon_137 (fun z42 hz42 => ?_)
                    refine tf_iast (t0 := 0) hx hb hK hW ha4 rfl rfl (by omega) (by omega) (by decide) (tf_u0 (by omega) (by omega)) dX1_reckon_138 (fun H43 locs43 hW hs43 ht43 hq43 => ?_)
                    have hs44 := tf_keepQ hsv9 (hq43 _ (tf_ne ha0 ha4 (by decide)))
                    refine lv_goto (tgt := 229) hx hb dX1_reckon_139 (by decide) ?_
                    exact j_229 ⟨by omega, by omega⟩ (x5_6) ⟨by omega, by omega⟩ (x6_6) ⟨by omega, by omega⟩ (by omega) _ _ hW  _ (lv_sub hl [2, 3, 4, 5, 6, 7] rfl)
                · refine tf_ldc (z := -1000000001) hx hb hown (hts _ kc_X1_22) (by decide) dX1_reckon_117 ?_
                  exact tf_reti (z := (-1000000001)) hx hb hr hlocks hQ hW (show (-2147483648) ≤ ((-1000000001)) ∧ ((-1000000001)) ≤ 2147483647 by omega) dX1_reckon_119
            · refine lv_iinc (v := Int32.ofInt ((x5_6 + 1))) (lv' := [(5, .int (Int32.ofInt ((x5_6 + 1)))), (8, .int (Int32.ofInt z20)), (7, .int (Int32.ofInt z16)), (0, .ref a0), (2, .int (Int32.ofInt x2)), (3, .ref a3), (4, .ref a4), (6, .int (Int32.ofInt x6_6))]) hx hb dX1_reckon_56 hl (k := 6) rfl (Int32.ofInt_add _ _).symm (by decide) rfl (fun ls hl => ?_)
              refine lv_iload hx hb dX1_reckon_59 (lv_at hl 0 rfl) ?_
              refine lv_aload hx hb dX1_reckon_61 (lv_at hl 6 rfl) ?_
              refine tf_alen (t0 := 0) hx hb hK hW ha4 rfl rfl dX1_reckon_63 (fun hn45 => ?_)
              refine tf_icmp_ge (tgt := 72) hx hb ⟨by omega, by omega⟩ ⟨by decide, by decide⟩ dX1_reckon_64 (by decide) (fun h46 => ?_) (fun h46 => ?_)
              · refine tf_ldc (z := -1000000001) hx hb hown (hts _ kc_X1_22) (by decide) dX1_reckon_72 ?_
                exact tf_reti (z := (-1000000001)) hx hb hr hlocks hQ hW (show (-2147483648) ≤ ((-1000000001)) ∧ ((-1000000001)) ≤ 2147483647 by omega) dX1_reckon_74
              · refine lv_iload hx hb dX1_reckon_67 (lv_at hl 1 rfl) ?_
                refine tf_if_ge (tgt := 75) hx hb ⟨by omega, by omega⟩ dX1_reckon_69 (by decide) (fun h47 => ?_) (fun h47 => ?_)
                · refine lv_aload hx hb dX1_reckon_75 (lv_at hl 6 rfl) ?_
                  refine lv_iload hx hb dX1_reckon_77 (lv_at hl 0 rfl) ?_
                  refine lv_iload hx hb dX1_reckon_79 (lv_at hl 2 rfl) ?_
                  refine tf_iconst hx hb dX1_reckon_81 ?_
                  refine tf_icmp_ne (tgt := 99) hx hb ⟨by omega, by omega⟩ ⟨by decide, by decide⟩ dX1_reckon_82 (by decide) (fun h48 => ?_) (fun h48 => ?_)
                  · exact j_99 ⟨by omega, by omega⟩ ((x5_6 + 1)) ⟨by omega, by omega⟩ ⟨by omega, by omega⟩ (z20) ⟨by omega, by omega⟩ ((x5_6 + 1)) ⟨by omega, by omega⟩ _ _ hW  _ (lv_sub hl [3, 4, 5, 6, 0, 7, 1] rfl)
                  · refine lv_iload hx hb dX1_reckon_85 (lv_at hl 1 rfl) ?_
                    refine lv_aload_n hx hb dX1_reckon_87 rfl (lv_at hl 5 rfl) ?_
                    refine tf_alen (t0 := 0) hx hb hK hW ha3 rfl rfl dX1_reckon_88 (fun hn49 => ?_)
                    refine tf_icmp_ge (tgt := 99) hx hb ⟨by omega, by omega⟩ ⟨by decide, by decide⟩ dX1_reckon_89 (by decide) (fun h50 => ?_) (fun h50 => ?_)
                    · exact j_99 ⟨by omega, by omega⟩ ((x5_6 + 1)) ⟨by omega, by omega⟩ ⟨by omega, by omega⟩ (z20) ⟨by omega, by omega⟩ ((x5_6 + 1)) ⟨by omega, by omega⟩ _ _ hW  _ (lv_sub hl [3, 4, 5, 6, 0, 7, 1] rfl)
                    · refine lv_aload_n hx hb dX1_reckon_92 rfl (lv_at hl 5 rfl) ?_
                      refine lv_iload hx hb dX1_reckon_93 (lv_at hl 1 rfl) ?_
                      refine tf_iald (t0 := 0) hx hb hK hW ha3 rfl rfl (by omega) (by omega) dX1_reckon_95 (fun v51 hv51 hsv51 => ?_)
                      obtain ⟨z52, rfl, hz52⟩ := tf_v0 hv51
                      refine lv_goto (tgt := 101) hx hb dX1_reckon_96 (by decide) ?_
                      exact j_101 ⟨by omega, by omega⟩ ((x5_6 + 1)) ⟨by omega, by omega⟩ ⟨by omega, by omega⟩ ((x5_6 + 1)) ⟨by omega, by omega⟩ (z52) ⟨by omega, by omega⟩ _ _ hW  _ (lv_sub hl [3, 4, 5, 6, 0, 7] rfl)
                · refine tf_ldc (z := -1000000001) hx hb hown (hts _ kc_X1_22) (by decide) dX1_reckon_72 ?_
                  exact tf_reti (z := (-1000000001)) hx hb hr hlocks hQ hW (show (-2147483648) ≤ ((-1000000001)) ∧ ((-1000000001)) ≤ 2147483647 by omega) dX1_reckon_74
  refine tf_enter (As := [.ref a0, .int (Int32.ofInt x1), .int (Int32.ofInt x2), .ref a3, .ref a4]) hargs (Nat.le_of_ble_eq_true rfl) (fun ls hl => ?_)
  have hl : lv_has ls 9 [(0, .ref a0), (1, .int (Int32.ofInt x1)), (2, .int (Int32.ofInt x2)), (3, .ref a3), (4, .ref a4)] := hl
  refine tf_iconst hx hb dX1_reckon_0 ?_
  refine lv_istore (lv' := [(5, .int (Int32.ofInt ((-1)))), (0, .ref a0), (1, .int (Int32.ofInt x1)), (2, .int (Int32.ofInt x2)), (3, .ref a3), (4, .ref a4)]) hx hb dX1_reckon_1 hl (by decide) rfl (fun ls hl => ?_)
  refine lv_iload_n hx hb dX1_reckon_3 rfl (lv_at hl 2 rfl) ?_
  refine lv_istore (lv' := [(6, .int (Int32.ofInt x1)), (5, .int (Int32.ofInt ((-1)))), (0, .ref a0), (1, .int (Int32.ofInt x1)), (2, .int (Int32.ofInt x2)), (3, .ref a3), (4, .ref a4)]) hx hb dX1_reckon_4 hl (by decide) rfl (fun ls hl => ?_)
  exact j_6 ((2147483647 - x1 + 1 : Int)).toNat ⟨by omega, by omega⟩ ((-1)) ⟨by omega, by omega⟩ (x1) ⟨by omega, by omega⟩ (by omega) _ _ hW  _ (lv_sub hl [2, 4, 5, 6, 1, 0] rfl)

abbrev M_X1_tells : List (Nat × Nat) := [(0, 0)]
set_option maxHeartbeats 4000000 in
set_option maxRecDepth 100000 in
theorem c_X1_tells (l : Launch) (g : tf_G) (T : tf_T) (a0 : Nat) (ha0 : T a0 = some (18, 0)) (a1 : Nat) (ha1 : T a1 = some (0, 9)) (a2 : Nat) (ha2 : T a2 = some (0, 64)) : Met l yX1_tells (cd_X1_tells :: wsL_law) ({ frames := 3, cells := 0, slots := 0, locals := 76 }) (tf_P g T [.ref a0, .ref a1, .ref a2] (fun H => True)) (tf_Qi g M_X1_tells T (fun z _ _ => (-2147483648) ≤ z ∧ z ≤ 2147483647)) 0 0 (fun q => tf_B g ≤ q) := by
  refine Met.ofW (cc := cX1_tells) (maxL := 7) (ret := (some .int)) (by decide) rfl ?_
  intro p e s m args below meth c s₁ B hml hv
  obtain ⟨hargs, hk, hW0, hB, hpre⟩ := hv
  have hx := B.exec
  have hb := B.bytes
  have hr := B.returns
  have hts : ∀ w ∈ wsL_law, w.before args s = true := fun w h => atoms_spec (ws := cd_X1_tells :: wsL_law) B.pre w (List.mem_cons_of_mem _ h)
  have hown : s.vm.findClass RX1 = some m.cls := findClass_of_methodNamed B.named
  have hlocks := B.notSynchronized
  have hK := hk.1
  have hW := tf_n.start (M := M_X1_tells) hW0 hB
  obtain ⟨Q, hQ⟩ : ∃ q, q = MQ below (tf_Qi g M_X1_tells T (fun z _ _ => (-2147483648) ≤ z ∧ z ≤ 2147483647)) args s 0 0 (fun q => tf_B g ≤ q) := ⟨_, rfl⟩
  rw [← hQ]
  obtain ⟨R, hR⟩ : ∃ q, q = (headSpec (cd_X1_tells :: wsL_law) ({ frames := 3, cells := 0, slots := 0, locals := 76 })).room := ⟨_, rfl⟩
  rw [← hR]
  have hR1 : 3 ≤ R.frames := by rw [hR]; exact Nat.le_refl _
  have hR2 : 76 ≤ R.locals := by rw [hR]; exact Nat.le_refl _
  have hR3 : 0 ≤ R.cells := by rw [hR]; exact Nat.le_refl _
  have hR4 : 0 ≤ R.slots := by rw [hR]; exact Nat.le_refl _
  have hin := (name_of_methodNamed B.named B.method).1
  clear hR B
  have j_12 : ∀ (n_12 : Nat), ∀ (x3_12 : Int), (-1) ≤ x3_12 ∧ x3_12 ≤ 199 → ∀ (f1_12 nf1_12 : Nat), T f1_12 = some (10, nf1_12) → nf1_12 ≤ 401 → (x3_12 < 0 ∨ 2 * x3_12 + 3 ≤ (nf1_12 : Int)) → (x3_12 - (-1) + 1 ≤ (n_12 : Int)) → ∀ (H : Heap) (locs : List Loc), tf_n tf_kt g M_X1_tells T s.heap T H locs → tf_s H a0 (g.1.2 1 1) = some (.ref f1_12) → ∀ (ls : Array Slot), lv_has ls 7 [(0, .ref a0), (1, .ref a1), (2, .ref a2), (3, .int (Int32.ofInt x3_12))] → W p l e R s m args below meth c H locs 0 0 Q (F0 m 12 ls []) := by
    intro n_12
    induction n_12 with
    | zero =>
      intro x3_12 hx3_12 f1_12 nf1_12 hf1_12 hnf1_12 hi0_12 hm_12
      exfalso; omega
    | succ n_12 ih_12 =>
      intro x3_12 hx3_12 f1_12 nf1_12 hf1_12 hnf1_12 hi0_12 hm_12 H locs hW hs1_12 ls hl
      have j_99 : 0 ≤ x3_12 ∧ x3_12 ≤ 199 → ∀ (f1_99 nf1_99 : Nat), T f1_99 = some (10, nf1_99) → nf1_99 ≤ 401 → (2 * x3_12 + 3 ≤ (nf1_99 : Int)) → ∀ (H : Heap) (locs : List Loc), tf_n tf_kt g M_X1_tells T s.heap T H locs → tf_s H a0 (g.1.2 1 1) = some (.ref f1_99) → ∀ (ls : Array Slot), lv_has ls 7 [(0, .ref a0), (1, .ref a1), (2, .ref a2), (3, .int (Int32.ofInt x3_12))] → W p l e R s m args below meth c H locs 0 0 Q (F0 m 99 ls []) := by
        intro hx3_99 f1_99 nf1_99 hf1_99 hnf1_99 hi0_99 H locs hW hs1_99 ls hl
        refine lv_iinc (v := Int32.ofInt ((x3_12 + (-1)))) (lv' := [(3, .int (Int32.ofInt ((x3_12 + (-1))))), (0, .ref a0), (1, .ref a1), (2, .ref a2)]) hx hb dX1_tells_99 hl (k := 3) rfl (Int32.ofInt_add _ _).symm (by decide) rfl (fun ls hl => ?_)
        refine lv_goto (tgt := 12) hx hb dX1_tells_102 (by decide) ?_
        exact ih_12 ((x3_12 + (-1))) ⟨by omega, by omega⟩ f1_99 nf1_99 hf1_99 (by omega) (by omega) (by omega) _ _ hW hs1_99 _ (lv_sub hl [1, 2, 3, 0] rfl)
      have j_61 : 0 ≤ x3_12 ∧ x3_12 ≤ 199 → ∀ (x4_61 : Int), (-2147483648) ≤ x4_61 ∧ x4_61 ≤ 2147483647 → ∀ (f1_61 nf1_61 : Nat), T f1_61 = some (10, nf1_61) → nf1_61 ≤ 401 → (2 * x3_12 + 3 ≤ (nf1_61 : Int)) → ∀ (H : Heap) (locs : List Loc), tf_n tf_kt g M_X1_tells T s.heap T H locs → tf_s H a0 (g.1.2 1 1) = some (.ref f1_61) → ∀ (ls : Array Slot), lv_has ls 7 [(0, .ref a0), (1, .ref a1), (2, .ref a2), (3, .int (Int32.ofInt x3_12)), (4, .int (Int32.ofInt x4_61))] → W p l e R s m args below meth c H locs 0 0 Q (F0 m 61 ls []) := by
        intro hx3_61 x4_61 hx4_61 f1_61 nf1_61 hf1_61 hnf1_61 hi0_61 H locs hW hs1_61 ls hl
        refine lv_aload_n hx hb dX1_tells_61 rfl (lv_at hl 0 rfl) ?_
        refine lv_aload_n hx hb dX1_tells_62 rfl (lv_at hl 0 rfl) ?_
        refine tf_get hx hb hts inlX1 hown hK (ci := 1) rfl hW ha0 rfl 1 rfl (by decide) (hts _ fl_X1_15) dX1_tells_63 (fun v1 hv1 hsv1 => ?_)
        obtain rfl : v1 = .ref f1_61 := Option.some.inj (hsv1.symm.trans hs1_61)
        refine tf_iconst hx hb dX1_tells_66 ?_
        refine lv_iload_n hx hb dX1_tells_67 rfl (lv_at hl 3 rfl) ?_
        refine tf_imul hx hb dX1_tells_68 ?_
        refine tf_iald (t0 := 0) hx hb hK hW hf1_61 rfl rfl (by omega) (by omega) dX1_tells_69 (fun v2 hv2 hsv2 => ?_)
        obtain ⟨z3, rfl, hz3⟩ := tf_v0 hv2
        refine lv_iload hx hb dX1_tells_70 (lv_at hl 4 rfl) ?_
        refine lv_aload_n hx hb dX1_tells_72 rfl (lv_at hl 1 rfl) ?_
        refine lv_aload_n hx hb dX1_tells_73 rfl (lv_at hl 2 rfl) ?_
        refine tf_calli (va_runV (As := [.int (Int32.ofInt z3), .int (Int32.ofInt x4_61), .ref a1, .ref a2]) (rest := []) ⟨hx, hb, hml, hown, hts⟩ (c_X1_reckon l g T a0 ha0 (z3) ⟨by omega, by omega⟩ (x4_61) ⟨by omega, by omega⟩ a1 ha1 a2 ha2) (cwV 4 hts gv_X1_18 rfl rfl rfl hd_X1_reckon ⟨Nat.le_trans (by decide) hR1, Nat.le_trans (by decide) hR2⟩) (tf_preV hk hW ha0 (ci := 1) rfl rfl trivial) rfl rfl hl.1 rfl (lv_room (Nat.le_of_ble_eq_true rfl)) dX1_tells_74 ⟨Nat.zero_le _, Nat.zero_le _⟩) hW (by decide) (fun z4 H4 locs4 hW hF4 hp4 => ?_)
        have hs5 := tf_keepF hF4 ha0 rfl rfl (by decide) hs1_61
        obtain ⟨hp4_0, hp4_1⟩ := hp4
        refine lv_istore (lv' := [(6, .int (Int32.ofInt z4)), (0, .ref a0), (1, .ref a1), (2, .ref a2), (3, .int (Int32.ofInt x3_12)), (4, .int (Int32.ofInt x4_61))]) hx hb dX1_tells_77 hl (by decide) rfl (fun ls hl => ?_)
        refine lv_iload hx hb dX1_tells_79 (lv_at hl 0 rfl) ?_
        refine tf_ldc (z := -1000000001) hx hb hown (hts _ kc_X1_22) (by decide) dX1_tells_81 ?_
        refine tf_icmp_eq (tgt := 99) hx hb ⟨by omega, by omega⟩ ⟨by decide, by decide⟩ dX1_tells_83 (by decide) (fun h6 => ?_) (fun h6 => ?_)
        · exact j_99 ⟨by omega, by omega⟩ f1_61 nf1_61 hf1_61 (by omega) (by omega) _ _ hW hs5 _ (lv_sub hl [1, 2, 3, 4] rfl)
        · refine tf_iconst hx hb dX1_tells_86 ?_
          refine tf_sipush hx hb dX1_tells_87 (by decide) ?_
          refine lv_iload hx hb dX1_tells_90 (lv_at hl 0 rfl) ?_
          refine tf_mmin hx hb hml hl hown (hts _ (tw34 (i := 8) rfl)) (hts _ (tw18 (i := 17) rfl)) (hts _ (tw10 (i := 2) rfl)) (hts _ (tw18 (i := 18) rfl)) ⟨by decide, by decide⟩ ⟨by omega, by omega⟩ (Nat.le_of_ble_eq_true rfl) (Nat.le_trans (by decide) hR1) (Nat.le_trans (by decide) hR2) (Nat.zero_le _) (Nat.zero_le _) dX1_tells_92 (fun z7 hz7 => ?_)
          refine tf_mmax hx hb hml hl hown (hts _ (tw34 (i := 9) rfl)) (hts _ (tw10 (i := 1) rfl)) (hts _ (tw10 (i := 2) rfl)) (hts _ (tw10 (i := 3) rfl)) ⟨by decide, by decide⟩ ⟨by omega, by omega⟩ (Nat.le_of_ble_eq_true rfl) (Nat.le_trans (by decide) hR1) (Nat.le_trans (by decide) hR2) (Nat.zero_le _) (Nat.zero_le _) dX1_tells_95 (fun z8 hz8 => ?_)
          exact tf_reti (z := z8) hx hb hr hlocks hQ hW (show (-2147483648) ≤ (z8) ∧ (z8) ≤ 2147483647 by omega) dX1_tells_98
      refine lv_iload_n hx hb dX1_tells_12 rfl (lv_at hl 3 rfl) ?_
      refine tf_if_lt (tgt := 105) hx hb ⟨by omega, by omega⟩ dX1_tells_13 (by decide) (fun h9 => ?_) (fun h9 => ?_)
      · refine tf_iconst hx hb dX1_tells_105 ?_
        exact tf_reti (z := (-1)) hx hb hr hlocks hQ hW (show (-2147483648) ≤ ((-1)) ∧ ((-1)) ≤ 2147483647 by omega) dX1_tells_106
      · refine lv_aload_n hx hb dX1_tells_16 rfl (lv_at hl 0 rfl) ?_
        refine tf_get hx hb hts inlX1 hown hK (ci := 1) rfl hW ha0 rfl 1 rfl (by decide) (hts _ fl_X1_15) dX1_tells_17 (fun v10 hv10 hsv10 => ?_)
        obtain rfl : v10 = .ref f1_12 := Option.some.inj (hsv10.symm.trans hs1_12)
        refine tf_iconst hx hb dX1_tells_20 ?_
        refine lv_iload_n hx hb dX1_tells_21 rfl (lv_at hl 3 rfl) ?_
        refine tf_imul hx hb dX1_tells_22 ?_
        refine tf_iconst hx hb dX1_tells_23 ?_
        refine tf_iadd hx hb dX1_tells_24 ?_
        refine tf_iald (t0 := 0) hx hb hK hW hf1_12 rfl rfl (by omega) (by omega) dX1_tells_25 (fun v11 hv11 hsv11 => ?_)
        obtain ⟨z12, rfl, hz12⟩ := tf_v0 hv11
        refine lv_istore (lv' := [(4, .int (Int32.ofInt z12)), (0, .ref a0), (1, .ref a1), (2, .ref a2), (3, .int (Int32.ofInt x3_12))]) hx hb dX1_tells_26 hl (by decide) rfl (fun ls hl => ?_)
        refine lv_aload_n hx hb dX1_tells_28 rfl (lv_at hl 1 rfl) ?_
        refine tf_get hx hb hts inlX1 hown hK (ci := 1) rfl hW ha0 rfl 1 rfl (by decide) (hts _ fl_X1_15) dX1_tells_29 (fun v13 hv13 hsv13 => ?_)
        obtain rfl : v13 = .ref f1_12 := Option.some.inj (hsv13.symm.trans hs1_12)
        refine tf_iconst hx hb dX1_tells_32 ?_
        refine lv_iload_n hx hb dX1_tells_33 rfl (lv_at hl 4 rfl) ?_
        refine tf_imul hx hb dX1_tells_34 ?_
        refine tf_iconst hx hb dX1_tells_35 ?_
        refine tf_iadd hx hb dX1_tells_36 ?_
        refine tf_iald (t0 := 0) hx hb hK hW hf1_12 rfl rfl (by omega) (by omega) dX1_tells_37 (fun v14 hv14 hsv14 => ?_)
        obtain ⟨z15, rfl, hz15⟩ := tf_v0 hv14
        refine lv_istore (lv' := [(5, .int (Int32.ofInt z15)), (4, .int (Int32.ofInt z12)), (0, .ref a0), (1, .ref a1), (2, .ref a2), (3, .int (Int32.ofInt x3_12))]) hx hb dX1_tells_38 hl (by decide) rfl (fun ls hl => ?_)
        refine lv_iload hx hb dX1_tells_40 (lv_at hl 1 rfl) ?_
        refine lv_iload hx hb dX1_tells_42 (lv_at hl 0 rfl) ?_
        refine tf_icmp_eq (tgt := 61) hx hb ⟨by omega, by omega⟩ ⟨by omega, by omega⟩ dX1_tells_44 (by decide) (fun h16 => ?_) (fun h16 => ?_)
        · exact j_61 ⟨by omega, by omega⟩ (z12) ⟨by omega, by omega⟩ f1_12 nf1_12 hf1_12 (by omega) (by omega) _ _ hW hs1_12 _ (lv_sub hl [2, 3, 4, 5, 1] rfl)
        · refine lv_aload_n hx hb dX1_tells_47 rfl (lv_at hl 2 rfl) ?_
          refine lv_iload hx hb dX1_tells_48 (lv_at hl 1 rfl) ?_
          refine lv_iload hx hb dX1_tells_50 (lv_at hl 0 rfl) ?_
          refine lv_aload_n hx hb dX1_tells_52 rfl (lv_at hl 3 rfl) ?_
          refine lv_aload_n hx hb dX1_tells_53 rfl (lv_at hl 4 rfl) ?_
          refine tf_calli (va_runV (As := [.int (Int32.ofInt z12), .int (Int32.ofInt z15), .ref a1, .ref a2]) (rest := []) ⟨hx, hb, hml, hown, hts⟩ (c_X1_reckon l g T a0 ha0 (z12) ⟨by omega, by omega⟩ (z15) ⟨by omega, by omega⟩ a1 ha1 a2 ha2) (cwV 4 hts gv_X1_18 rfl rfl rfl hd_X1_reckon ⟨Nat.le_trans (by decide) hR1, Nat.le_trans (by decide) hR2⟩) (tf_preV hk hW ha0 (ci := 1) rfl rfl trivial) rfl rfl hl.1 rfl (lv_room (Nat.le_of_ble_eq_true rfl)) dX1_tells_54 ⟨Nat.zero_le _, Nat.zero_le _⟩) hW (by decide) (fun z17 H17 locs17 hW hF17 hp17 => ?_)
          have hs18 := tf_keepF hF17 ha0 rfl rfl (by decide) hs1_12
          obtain ⟨hp17_0, hp17_1⟩ := hp17
          refine tf_iconst hx hb dX1_tells_57 ?_
          refine tf_icmp_ne (tgt := 99) hx hb ⟨by omega, by omega⟩ ⟨by decide, by decide⟩ dX1_tells_58 (by decide) (fun h19 => ?_) (fun h19 => ?_)
          · exact j_99 ⟨by omega, by omega⟩ f1_12 nf1_12 hf1_12 (by omega) (by omega) _ _ hW hs18 _ (lv_sub hl [2, 3, 4, 5] rfl)
          · exact j_61 ⟨by omega, by omega⟩ (z12) ⟨by omega, by omega⟩ f1_12 nf1_12 hf1_12 (by omega) (by omega) _ _ hW hs18 _ (lv_sub hl [2, 3, 4, 5, 1] rfl)
  refine tf_enter (As := [.ref a0, .ref a1, .ref a2]) hargs (Nat.le_of_ble_eq_true rfl) (fun ls hl => ?_)
  have hl : lv_has ls 7 [(0, .ref a0), (1, .ref a1), (2, .ref a2)] := hl
  refine lv_aload_n hx hb dX1_tells_0 rfl (lv_at hl 0 rfl) ?_
  refine tf_get hx hb hts inlX1 hown hK (ci := 1) rfl hW ha0 rfl 1 rfl (by decide) (hts _ fl_X1_15) dX1_tells_1 (fun v20 hv20 hsv20 => ?_)
  obtain ⟨ad21, il21, rfl, had21, hil21⟩ := tf_v3 hv20
  refine tf_alen (t0 := 0) hx hb hK hW had21 rfl rfl dX1_tells_4 (fun hn22 => ?_)
  refine tf_iconst hx hb dX1_tells_5 ?_
  refine tf_isub hx hb dX1_tells_6 ?_
  refine tf_iconst hx hb dX1_tells_7 ?_
  refine tf_idiv_c hx hb ⟨by omega, by omega⟩ ⟨by decide, by decide⟩ (by decide) dX1_tells_8 (fun z23 hz23 => ?_)
  refine tf_iconst hx hb dX1_tells_9 ?_
  refine tf_isub hx hb dX1_tells_10 ?_
  refine lv_istore_n (lv' := [(3, .int (Int32.ofInt ((z23 - 1)))), (0, .ref a0), (1, .ref a1), (2, .ref a2)]) hx hb dX1_tells_11 rfl hl (by decide) rfl (fun ls hl => ?_)
  exact j_12 (((z23 - 1) - (-1) + 1 : Int)).toNat ((z23 - 1)) ⟨by omega, by omega⟩ ad21 il21 had21 (by omega) (by omega) (by omega) _ _ hW hsv20 _ (lv_sub hl [1, 2, 3, 0] rfl)

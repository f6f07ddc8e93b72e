
abbrev M_X6_forget : List (Nat × Nat) := [(23, 2), (23, 6), (23, 10)]
set_option maxHeartbeats 4000000 in
set_option maxRecDepth 100000 in
theorem c_X6_forget (l : Launch) (g : tf_G) (T : tf_T) (a0 : Nat) (ha0 : T a0 = some (23, 0)) : Met l yX6_forget (cd_X6_forget :: wsL_law) ({ frames := 1, cells := 0, slots := 0, locals := 24 }) (tf_P g T [.ref a0] (fun H => True)) (tf_Qv g M_X6_forget T (fun _ H => True)) 0 0 (fun q => tf_B g ≤ q) := by
  refine Met.ofW (cc := cX6_forget) (maxL := 1) (ret := none) (by decide) rfl ?_
  intro p e s m args below meth c s₁ B hml hv
  obtain ⟨hargs, hk, hW0, hB, hpre⟩ := hv
  have hx := B.exec
  have hb := B.bytes
  have hr := B.returns
  have hts : ∀ w ∈ wsL_law, w.before args s = true := fun w h => atoms_spec (ws := cd_X6_forget :: wsL_law) B.pre w (List.mem_cons_of_mem _ h)
  have hown : s.vm.findClass RX6 = some m.cls := findClass_of_methodNamed B.named
  have hlocks := B.notSynchronized
  have hK := hk.1
  have hW := tf_n.start (M := M_X6_forget) hW0 hB
  obtain ⟨Q, hQ⟩ : ∃ q, q = MQ below (tf_Qv g M_X6_forget T (fun _ H => True)) args s 0 0 (fun q => tf_B g ≤ q) := ⟨_, rfl⟩
  rw [← hQ]
  obtain ⟨R, hR⟩ : ∃ q, q = (headSpec (cd_X6_forget :: wsL_law) ({ frames := 1, cells := 0, slots := 0, locals := 24 })).room := ⟨_, rfl⟩
  rw [← hR]
  have hR1 : 1 ≤ R.frames := by rw [hR]; exact Nat.le_refl _
  have hR2 : 24 ≤ R.locals := by rw [hR]; exact Nat.le_refl _
  have hR3 : 0 ≤ R.cells := by rw [hR]; exact Nat.le_refl _
  have hR4 : 0 ≤ R.slots := by rw [hR]; exact Nat.le_refl _
  have hin := (name_of_methodNamed B.named B.method).1
  clear hR B
  refine tf_enter (As := [.ref a0]) hargs (Nat.le_of_ble_eq_true rfl) (fun ls hl => ?_)
  have hl : lv_has ls 1 [(0, .ref a0)] := hl
  refine lv_aload_n hx hb dX6_forget_0 rfl (lv_at hl 0 rfl) ?_
  refine tf_iconst hx hb dX6_forget_1 ?_
  refine tf_put hx hb hts inlX6 tyX6 tyX6_ok nmX6 hown hK (ci := 6) rfl hW ha0 rfl rfl 2 rfl (by decide) (by decide) (hts _ fl_X6_22) rfl (tf_u0 (by omega) (by omega)) (tf_narZ (by omega)) (tf_fitZ (by omega)) dX6_forget_2 (fun H1 locs1 hW hs1 ht1 hq1 => ?_)
  refine lv_aload_n hx hb dX6_forget_5 rfl (lv_at hl 0 rfl) ?_
  refine tf_iconst hx hb dX6_forget_6 ?_
  refine tf_put hx hb hts inlX6 tyX6 tyX6_ok nmX6 hown hK (ci := 6) rfl hW ha0 rfl rfl 6 rfl (by decide) (by decide) (hts _ fl_X6_36) rfl (tf_u0 (by omega) (by omega)) (tf_narZ (by omega)) (tf_fitZ (by omega)) dX6_forget_7 (fun H2 locs2 hW hs2 ht2 hq2 => ?_)
  refine lv_aload_n hx hb dX6_forget_10 rfl (lv_at hl 0 rfl) ?_
  refine tf_iconst hx hb dX6_forget_11 ?_
  refine tf_put hx hb hts inlX6 tyX6 tyX6_ok nmX6 hown hK (ci := 6) rfl hW ha0 rfl rfl 10 rfl (by decide) (by decide) (hts _ fl_X6_48) rfl (tf_u0 (by omega) (by omega)) rfl rfl dX6_forget_12 (fun H3 locs3 hW hs3 ht3 hq3 => ?_)
  exact tf_retv hx hb hr hlocks hQ hW trivial dX6_forget_15

abbrev M_X6_learnTowerOvers : List (Nat × Nat) := [(0, 0), (1, 0), (4, 0), (23, 2), (24, 5)]
set_option maxHeartbeats 4000000 in
set_option maxRecDepth 100000 in
theorem c_X6_learnTowerOvers (l : Launch) (g : tf_G) (T : tf_T) (a0 : Nat) (ha0 : T a0 = some (23, 0)) (a1 : Nat) (ha1 : T a1 = some (20, 0)) (a2 : Nat) (ha2 : T a2 = some (24, 0)) (hE : tf_E g T) : Met l yX6_learnTowerOvers (cd_X6_learnTowerOvers :: wsL_law) ({ frames := 7, cells := 0, slots := 0, locals := 187 }) (tf_P g T [.ref a0, .ref a1, .ref a2] (fun H => True)) (tf_Qv g M_X6_learnTowerOvers T (fun _ H => True)) 0 0 (fun q => tf_B g ≤ q) := by
  refine Met.ofW (cc := cX6_learnTowerOvers) (maxL := 5) (ret := none) (by decide) rfl ?_
  intro p e s m args below meth c s₁ B hml hv
  obtain ⟨hargs, hk, hW0, hB, hpre⟩ := hv
  have hx := B.exec
  have hb := B.bytes
  have hr := B.returns
  have hts : ∀ w ∈ wsL_law, w.before args s = true := fun w h => atoms_spec (ws := cd_X6_learnTowerOvers :: wsL_law) B.pre w (List.mem_cons_of_mem _ h)
  have hown : s.vm.findClass RX6 = some m.cls := findClass_of_methodNamed B.named
  have hlocks := B.notSynchronized
  have hK := hk.1
  have hW := tf_n.start (M := M_X6_learnTowerOvers) hW0 hB
  obtain ⟨Q, hQ⟩ : ∃ q, q = MQ below (tf_Qv g M_X6_learnTowerOvers T (fun _ H => True)) args s 0 0 (fun q => tf_B g ≤ q) := ⟨_, rfl⟩
  rw [← hQ]
  obtain ⟨R, hR⟩ : ∃ q, q = (headSpec (cd_X6_learnTowerOvers :: wsL_law) ({ frames := 7, cells := 0, slots := 0, locals := 187 })).room := ⟨_, rfl⟩
  rw [← hR]
  have hR1 : 7 ≤ R.frames := by rw [hR]; exact Nat.le_refl _
  have hR2 : 187 ≤ R.locals := by rw [hR]; exact Nat.le_refl _
  have hR3 : 0 ≤ R.cells := by rw [hR]; exact Nat.le_refl _
  have hR4 : 0 ≤ R.slots := by rw [hR]; exact Nat.le_refl _
  have hin := (name_of_methodNamed B.named B.method).1
  clear hR B
  have j_15 : ∀ (n_15 : Nat), ∀ (x3_15 : Int), 0 ≤ x3_15 ∧ x3_15 ≤ 64 → (64 - x3_15 + 1 ≤ (n_15 : Int)) → ∀ (H : Heap) (locs : List Loc), tf_n tf_kt g M_X6_learnTowerOvers T s.heap T H locs → ∀ (ls : Array Slot), lv_has ls 5 [(0, .ref a0), (1, .ref a1), (2, .ref a2), (3, .int (Int32.ofInt x3_15))] → W p l e R s m args below meth c H locs 0 0 Q (F0 m 15 ls []) := by
    intro n_15
    induction n_15 with
    | zero =>
      intro x3_15 hx3_15 hm_15
      exfalso; omega
    | succ n_15 ih_15 =>
      intro x3_15 hx3_15 hm_15 H locs hW  ls hl
      have j_48 : ∀ (n_48 : Nat), 0 ≤ x3_15 ∧ x3_15 ≤ 63 → ∀ (x4_48 : Int), 0 ≤ x4_48 ∧ x4_48 ≤ 6 → (6 - x4_48 + 1 ≤ (n_48 : Int)) → ∀ (H : Heap) (locs : List Loc), tf_n tf_kt g M_X6_learnTowerOvers T s.heap T H locs → ∀ (ls : Array Slot), lv_has ls 5 [(0, .ref a0), (1, .ref a1), (2, .ref a2), (3, .int (Int32.ofInt x3_15)), (4, .int (Int32.ofInt x4_48))] → W p l e R s m args below meth c H locs 0 0 Q (F0 m 48 ls []) := by
        intro n_48
        induction n_48 with
        | zero =>
          intro hx3_48 x4_48 hx4_48 hm_48
          exfalso; omega
        | succ n_48 ih_48 =>
          intro hx3_48 x4_48 hx4_48 hm_48 H locs hW  ls hl
          have j_83 : 0 ≤ x3_15 ∧ x3_15 ≤ 63 → 0 ≤ x4_48 ∧ x4_48 ≤ 5 → ∀ (H : Heap) (locs : List Loc), tf_n tf_kt g M_X6_learnTowerOvers T s.heap T H locs → ∀ (ls : Array Slot), lv_has ls 5 [(0, .ref a0), (1, .ref a1), (2, .ref a2), (3, .int (Int32.ofInt x3_15)), (4, .int (Int32.ofInt x4_48))] → W p l e R s m args below meth c H locs 0 0 Q (F0 m 83 ls []) := by
            intro hx3_83 hx4_83 H locs hW  ls hl
            refine lv_iinc (v := Int32.ofInt ((x4_48 + 1))) (lv' := [(4, .int (Int32.ofInt ((x4_48 + 1)))), (0, .ref a0), (1, .ref a1), (2, .ref a2), (3, .int (Int32.ofInt x3_15))]) hx hb dX6_learnTowerOvers_83 hl (k := 4) rfl (Int32.ofInt_add _ _).symm (by decide) rfl (fun ls hl => ?_)
            refine lv_goto (tgt := 48) hx hb dX6_learnTowerOvers_86 (by decide) ?_
            exact ih_48 ⟨by omega, by omega⟩ ((x4_48 + 1)) ⟨by omega, by omega⟩ (by omega) _ _ hW  _ (lv_sub hl [1, 2, 3, 4, 0] rfl)
          refine lv_iload hx hb dX6_learnTowerOvers_48 (lv_at hl 4 rfl) ?_
          refine lv_aload_n hx hb dX6_learnTowerOvers_50 rfl (lv_at hl 1 rfl) ?_
          refine tf_get hx hb hts inlX3 hown hK (ci := 3) rfl hW ha1 rfl 1 rfl (by decide) (hts _ fl_X6_51) dX6_learnTowerOvers_51 (fun v1 hv1 hsv1 => ?_)
          obtain ⟨ad2, rfl, had2⟩ := tf_v1 hv1
          refine tf_get hx hb hts inlX5 hown hK (ci := 5) rfl hW had2 rfl 4 rfl (by decide) (hts _ fl_X6_57) dX6_learnTowerOvers_54 (fun v3 hv3 hsv3 => ?_)
          obtain ⟨z4, rfl, hz4⟩ := tf_v0 hv3
          refine tf_icmp_ge (tgt := 89) hx hb ⟨by omega, by omega⟩ ⟨by omega, by omega⟩ dX6_learnTowerOvers_57 (by decide) (fun h5 => ?_) (fun h5 => ?_)
          · refine lv_aload_n hx hb dX6_learnTowerOvers_89 rfl (lv_at hl 0 rfl) ?_
            refine tf_get hx hb hts inlX6 hown hK (ci := 6) rfl hW ha0 rfl 1 rfl (by decide) (hts _ fl_X6_18) dX6_learnTowerOvers_90 (fun v6 hv6 hsv6 => ?_)
            obtain ⟨ad7, rfl, had7⟩ := tf_v1 hv6
            refine lv_iload_n hx hb dX6_learnTowerOvers_93 rfl (lv_at hl 3 rfl) ?_
            refine lv_aload_n hx hb dX6_learnTowerOvers_94 rfl (lv_at hl 2 rfl) ?_
            refine lv_aload_n hx hb dX6_learnTowerOvers_95 rfl (lv_at hl 1 rfl) ?_
            refine lv_aload_n hx hb dX6_learnTowerOvers_96 rfl (lv_at hl 0 rfl) ?_
            refine tf_get hx hb hts inlX6 hown hK (ci := 6) rfl hW ha0 rfl 0 rfl (by decide) (hts _ fl_X6_12) dX6_learnTowerOvers_97 (fun v8 hv8 hsv8 => ?_)
            obtain ⟨ad9, rfl, had9⟩ := tf_v1 hv8
            refine tf_calli (va_runV (As := [.ref a1, .ref ad9]) (rest := [.int (Int32.ofInt x3_15), .ref ad7]) ⟨hx, hb, hml, hown, hts⟩ (c_X7_allOver l g T a2 ha2 a1 ha1 ad9 had9 hE) (cwV 2 hts gv_X6_71 rfl rfl rfl hd_X7_allOver ⟨Nat.le_trans (by decide) hR1, Nat.le_trans (by decide) hR2⟩) (tf_preV hk hW ha2 (ci := 7) rfl rfl trivial) rfl rfl hl.1 rfl (lv_room (Nat.le_of_ble_eq_true rfl)) dX6_learnTowerOvers_100 ⟨Nat.zero_le _, Nat.zero_le _⟩) hW (by decide) (fun z10 H10 locs10 hW hF10 hp10 => ?_)
            have hs11 := tf_keepF hF10 ha1 rfl rfl (by decide) hsv1
            obtain ⟨hp10_0, hp10_1⟩ := hp10
            refine tf_iast (t0 := 0) hx hb hK hW had7 rfl rfl (by omega) (by omega) (by decide) (tf_u0 (by omega) (by omega)) dX6_learnTowerOvers_103 (fun H12 locs12 hW hs12 ht12 hq12 => ?_)
            have hs13 := tf_keepQ hs11 (hq12 _ (tf_ne ha1 had7 (by decide)))
            refine lv_iinc (v := Int32.ofInt ((x3_15 + 1))) (lv' := [(3, .int (Int32.ofInt ((x3_15 + 1)))), (0, .ref a0), (1, .ref a1), (2, .ref a2), (4, .int (Int32.ofInt x4_48))]) hx hb dX6_learnTowerOvers_104 hl (k := 3) rfl (Int32.ofInt_add _ _).symm (by decide) rfl (fun ls hl => ?_)
            refine lv_goto (tgt := 15) hx hb dX6_learnTowerOvers_107 (by decide) ?_
            exact ih_15 ((x3_15 + 1)) ⟨by omega, by omega⟩ (by omega) _ _ hW  _ (lv_sub hl [1, 2, 3, 0] rfl)
          · refine lv_iload_n hx hb dX6_learnTowerOvers_60 rfl (lv_at hl 3 rfl) ?_
            refine lv_iload hx hb dX6_learnTowerOvers_61 (lv_at hl 4 rfl) ?_
            refine tf_ishr_any hx hb dX6_learnTowerOvers_63 (fun z14 hz14 => ?_)
            refine tf_iconst hx hb dX6_learnTowerOvers_64 ?_
            refine tf_iand_mask hx hb 1 (by decide) (by decide +kernel) dX6_learnTowerOvers_65 (fun z15 hz15 kz15 => ?_)
            refine tf_if_ne (tgt := 83) hx hb ⟨by omega, by omega⟩ dX6_learnTowerOvers_66 (by decide) (fun h16 => ?_) (fun h16 => ?_)
            · exact j_83 ⟨by omega, by omega⟩ ⟨by omega, by omega⟩ _ _ hW  _ (lv_sub hl [0, 1, 2, 3, 4] rfl)
            · refine lv_aload_n hx hb dX6_learnTowerOvers_69 rfl (lv_at hl 1 rfl) ?_
              refine tf_get hx hb hts inlX3 hown hK (ci := 3) rfl hW ha1 rfl 1 rfl (by decide) (hts _ fl_X6_51) dX6_learnTowerOvers_70 (fun v17 hv17 hsv17 => ?_)
              obtain rfl : v17 = .ref ad2 := Option.some.inj (hsv17.symm.trans hsv1)
              refine lv_iload hx hb dX6_learnTowerOvers_73 (lv_at hl 4 rfl) ?_
              refine tf_iconst hx hb dX6_learnTowerOvers_75 ?_
              refine lv_aload_n hx hb dX6_learnTowerOvers_76 rfl (lv_at hl 0 rfl) ?_
              refine tf_get hx hb hts inlX6 hown hK (ci := 6) rfl hW ha0 rfl 0 rfl (by decide) (hts _ fl_X6_12) dX6_learnTowerOvers_77 (fun v18 hv18 hsv18 => ?_)
              obtain ⟨ad19, rfl, had19⟩ := tf_v1 hv18
              refine tf_callv (va_runV (As := [.int (Int32.ofInt x4_48), .int (Int32.ofInt 0), .ref ad19]) (rest := []) ⟨hx, hb, hml, hown, hts⟩ (c_X5_makeHigh l g T ad2 had2 (x4_48) ⟨by omega, by omega⟩ (0) ⟨by omega, by omega⟩ ad19 had19) (cwV 3 hts gv_X6_67 rfl rfl rfl hd_X5_makeHigh ⟨Nat.le_trans (by decide) hR1, Nat.le_trans (by decide) hR2⟩) (tf_preV hk hW had2 (ci := 5) rfl rfl trivial) rfl rfl hl.1 rfl (lv_room (Nat.le_of_ble_eq_true rfl)) dX6_learnTowerOvers_80 ⟨Nat.zero_le _, Nat.zero_le _⟩) hW (by decide) (fun H20 locs20 hW hF20 hp20 => ?_)
              have hs21 := tf_keepF hF20 ha1 rfl rfl (by decide) hsv1
              exact j_83 ⟨by omega, by omega⟩ ⟨by omega, by omega⟩ _ _ hW  _ (lv_sub hl [0, 1, 2, 3, 4] rfl)
      refine lv_iload_n hx hb dX6_learnTowerOvers_15 rfl (lv_at hl 3 rfl) ?_
      refine tf_iconst hx hb dX6_learnTowerOvers_16 ?_
      refine lv_aload_n hx hb dX6_learnTowerOvers_17 rfl (lv_at hl 1 rfl) ?_
      refine tf_get hx hb hts inlX3 hown hK (ci := 3) rfl hW ha1 rfl 1 rfl (by decide) (hts _ fl_X6_51) dX6_learnTowerOvers_18 (fun v22 hv22 hsv22 => ?_)
      obtain ⟨ad23, rfl, had23⟩ := tf_v1 hv22
      refine tf_get hx hb hts inlX5 hown hK (ci := 5) rfl hW had23 rfl 4 rfl (by decide) (hts _ fl_X6_57) dX6_learnTowerOvers_21 (fun v24 hv24 hsv24 => ?_)
      obtain ⟨z25, rfl, hz25⟩ := tf_v0 hv24
      refine tf_ishl_any hx hb dX6_learnTowerOvers_24 (fun z26 hz26 => ?_)
      refine tf_icmp_ge (tgt := 110) hx hb ⟨by omega, by omega⟩ ⟨by omega, by omega⟩ dX6_learnTowerOvers_25 (by decide) (fun h27 => ?_) (fun h27 => ?_)
      · exact tf_retv hx hb hr hlocks hQ hW trivial dX6_learnTowerOvers_110
      · refine lv_iload_n hx hb dX6_learnTowerOvers_28 rfl (lv_at hl 3 rfl) ?_
        refine tf_bipush hx hb dX6_learnTowerOvers_29 (by decide) ?_
        refine tf_icmp_ge (tgt := 110) hx hb ⟨by omega, by omega⟩ ⟨by decide, by decide⟩ dX6_learnTowerOvers_31 (by decide) (fun h28 => ?_) (fun h28 => ?_)
        · exact tf_retv hx hb hr hlocks hQ hW trivial dX6_learnTowerOvers_110
        · refine lv_aload_n hx hb dX6_learnTowerOvers_34 rfl (lv_at hl 0 rfl) ?_
          refine tf_get hx hb hts inlX6 hown hK (ci := 6) rfl hW ha0 rfl 0 rfl (by decide) (hts _ fl_X6_12) dX6_learnTowerOvers_35 (fun v29 hv29 hsv29 => ?_)
          obtain ⟨ad30, rfl, had30⟩ := tf_v1 hv29
          refine lv_aload_n hx hb dX6_learnTowerOvers_38 rfl (lv_at hl 1 rfl) ?_
          refine tf_get hx hb hts inlX3 hown hK (ci := 3) rfl hW ha1 rfl 0 rfl (by decide) (hts _ fl_X6_62) dX6_learnTowerOvers_39 (fun v31 hv31 hsv31 => ?_)
          obtain ⟨ad32, rfl, had32⟩ := tf_v1 hv31
          refine tf_callv (va_runV (As := [.ref ad32]) (rest := []) ⟨hx, hb, hml, hown, hts⟩ (c_X0_become l g T ad30 had30 ad32 had32) (cwV 1 hts gv_X6_63 rfl rfl rfl hd_X0_become ⟨Nat.le_trans (by decide) hR1, Nat.le_trans (by decide) hR2⟩) (tf_preV hk hW had30 (ci := 0) rfl rfl trivial) rfl rfl hl.1 rfl (lv_room (Nat.le_of_ble_eq_true rfl)) dX6_learnTowerOvers_42 ⟨Nat.zero_le _, Nat.zero_le _⟩) hW (by decide) (fun H33 locs33 hW hF33 hp33 => ?_)
          refine tf_iconst hx hb dX6_learnTowerOvers_45 ?_
          refine lv_istore (lv' := [(4, .int (Int32.ofInt 0)), (0, .ref a0), (1, .ref a1), (2, .ref a2), (3, .int (Int32.ofInt x3_15))]) hx hb dX6_learnTowerOvers_46 hl (by decide) rfl (fun ls hl => ?_)
          exact j_48 ((6 - 0 + 1 : Int)).toNat ⟨by omega, by omega⟩ (0) ⟨by omega, by omega⟩ (by omega) _ _ hW  _ (lv_sub hl [1, 2, 3, 4, 0] rfl)
  refine tf_enter (As := [.ref a0, .ref a1, .ref a2]) hargs (Nat.le_of_ble_eq_true rfl) (fun ls hl => ?_)
  have hl : lv_has ls 5 [(0, .ref a0), (1, .ref a1), (2, .ref a2)] := hl
  refine lv_aload_n hx hb dX6_learnTowerOvers_0 rfl (lv_at hl 0 rfl) ?_
  refine tf_get hx hb hts inlX6 hown hK (ci := 6) rfl hW ha0 rfl 2 rfl (by decide) (hts _ fl_X6_22) dX6_learnTowerOvers_1 (fun v34 hv34 hsv34 => ?_)
  obtain ⟨z35, rfl, hz35⟩ := tf_v0 hv34
  refine tf_if_eq (tgt := 8) hx hb ⟨by omega, by omega⟩ dX6_learnTowerOvers_4 (by decide) (fun h36 => ?_) (fun h36 => ?_)
  · refine lv_aload_n hx hb dX6_learnTowerOvers_8 rfl (lv_at hl 0 rfl) ?_
    refine tf_iconst hx hb dX6_learnTowerOvers_9 ?_
    refine tf_put hx hb hts inlX6 tyX6 tyX6_ok nmX6 hown hK (ci := 6) rfl hW ha0 rfl rfl 2 rfl (by decide) (by decide) (hts _ fl_X6_22) rfl (tf_u0 (by omega) (by omega)) (tf_narZ (by omega)) (tf_fitZ (by omega)) dX6_learnTowerOvers_10 (fun H37 locs37 hW hs37 ht37 hq37 => ?_)
    refine tf_iconst hx hb dX6_learnTowerOvers_13 ?_
    refine lv_istore_n (lv' := [(3, .int (Int32.ofInt 0)), (0, .ref a0), (1, .ref a1), (2, .ref a2)]) hx hb dX6_learnTowerOvers_14 rfl hl (by decide) rfl (fun ls hl => ?_)
    exact j_15 ((64 - 0 + 1 : Int)).toNat (0) ⟨by omega, by omega⟩ (by omega) _ _ hW  _ (lv_sub hl [1, 2, 3, 0] rfl)
  · exact tf_retv hx hb hr hlocks hQ hW trivial dX6_learnTowerOvers_7

abbrev M_X6_findSite : List (Nat × Nat) := [(0, 0), (1, 0), (4, 0), (23, 7), (23, 8), (23, 9), (23, 10), (24, 5)]
set_option maxHeartbeats 4000000 in
set_option maxRecDepth 100000 in
theorem c_X6_findSite (l : Launch) (g : tf_G) (T : tf_T) (a0 : Nat) (ha0 : T a0 = some (23, 0)) (a1 : Nat) (ha1 : T a1 = some (20, 0)) (a2 : Nat) (ha2 : T a2 = some (24, 0)) (x3 : Int) (hp3 : (-2147483648) ≤ x3 ∧ x3 ≤ 2147483647) (x4 : Int) (hp4 : (-2147483648) ≤ x4 ∧ x4 ≤ 2147483647) (x5 : Int) (hp5 : (-2147483648) ≤ x5 ∧ x5 ≤ 2147483647) (hE : tf_E g T) : Met l yX6_findSite (cd_X6_findSite :: wsL_law) ({ frames := 7, cells := 0, slots := 0, locals := 187 }) (tf_P g T [.ref a0, .ref a1, .ref a2, .int (Int32.ofInt x3), .int (Int32.ofInt x4), .int (Int32.ofInt x5)] (fun H => True)) (tf_Qv g M_X6_findSite T (fun _ H => True)) 0 0 (fun q => tf_B g ≤ q) := by
  refine Met.ofW (cc := cX6_findSite) (maxL := 11) (ret := none) (by decide) rfl ?_
  intro p e s m args below meth c s₁ B hml hv
  obtain ⟨hargs, hk, hW0, hB, hpre⟩ := hv
  have hx := B.exec
  have hb := B.bytes
  have hr := B.returns
  have hts : ∀ w ∈ wsL_law, w.before args s = true := fun w h => atoms_spec (ws := cd_X6_findSite :: wsL_law) B.pre w (List.mem_cons_of_mem _ h)
  have hown : s.vm.findClass RX6 = some m.cls := findClass_of_methodNamed B.named
  have hlocks := B.notSynchronized
  have hK := hk.1
  have hW := tf_n.start (M := M_X6_findSite) hW0 hB
  obtain ⟨Q, hQ⟩ : ∃ q, q = MQ below (tf_Qv g M_X6_findSite T (fun _ H => True)) args s 0 0 (fun q => tf_B g ≤ q) := ⟨_, rfl⟩
  rw [← hQ]
  obtain ⟨R, hR⟩ : ∃ q, q = (headSpec (cd_X6_findSite :: wsL_law) ({ frames := 7, cells := 0, slots := 0, locals := 187 })).room := ⟨_, rfl⟩
  rw [← hR]
  have hR1 : 7 ≤ R.frames := by rw [hR]; exact Nat.le_refl _
  have hR2 : 187 ≤ R.locals := by rw [hR]; exact Nat.le_refl _
  have hR3 : 0 ≤ R.cells := by rw [hR]; exact Nat.le_refl _
  have hR4 : 0 ≤ R.slots := by rw [hR]; exact Nat.le_refl _
  have hin := (name_of_methodNamed B.named B.method).1
  clear hR B
  have j_83 : ∀ (n_83 : Nat), (-2147483648) ≤ x3 ∧ x3 ≤ 2147483647 → (-2147483648) ≤ x4 ∧ x4 ≤ 2147483647 → (-2147483648) ≤ x5 ∧ x5 ≤ 2147483647 → ∀ (x7_83 : Int), 0 ≤ x7_83 ∧ x7_83 ≤ 100 → ∀ (f7_83 : Int), (-1) ≤ f7_83 ∧ f7_83 ≤ 99 → ∀ (f8_83 : Int), (-2147483648) ≤ f8_83 ∧ f8_83 ≤ 2147483647 → ∀ (f9_83 : Int), (-2147483648) ≤ f9_83 ∧ f9_83 ≤ 2147483647 → (100 - x7_83 + 1 ≤ (n_83 : Int)) → ∀ (H : Heap) (locs : List Loc), tf_n tf_kt g M_X6_findSite T s.heap T H locs → tf_s H a0 (g.1.2 6 7) = some (.int (Int32.ofInt f7_83)) → tf_s H a0 (g.1.2 6 8) = some (.int (Int32.ofInt f8_83)) → tf_s H a0 (g.1.2 6 9) = some (.int (Int32.ofInt f9_83)) → ∀ (ls : Array Slot), lv_has ls 11 [(0, .ref a0), (1, .ref a1), (2, .ref a2), (3, .int (Int32.ofInt x3)), (4, .int (Int32.ofInt x4)), (5, .int (Int32.ofInt x5)), (7, .int (Int32.ofInt x7_83))] → W p l e R s m args below meth c H locs 0 0 Q (F0 m 83 ls []) := by
    intro n_83
    induction n_83 with
    | zero =>
      intro hx3_83 hx4_83 hx5_83 x7_83 hx7_83 f7_83 hf7_83 f8_83 hf8_83 f9_83 hf9_83 hm_83
      exfalso; omega
    | succ n_83 ih_83 =>
      intro hx3_83 hx4_83 hx5_83 x7_83 hx7_83 f7_83 hf7_83 f8_83 hf8_83 f9_83 hf9_83 hm_83 H locs hW hs7_83 hs8_83 hs9_83 ls hl
      have j_197 : (-2147483648) ≤ x3 ∧ x3 ≤ 2147483647 → (-2147483648) ≤ x4 ∧ x4 ≤ 2147483647 → (-2147483648) ≤ x5 ∧ x5 ≤ 2147483647 → 0 ≤ x7_83 ∧ x7_83 ≤ 99 → ∀ (f7_197 : Int), (-1) ≤ f7_197 ∧ f7_197 ≤ 99 → ∀ (f8_197 : Int), (-2147483648) ≤ f8_197 ∧ f8_197 ≤ 2147483647 → ∀ (f9_197 : Int), (-2147483648) ≤ f9_197 ∧ f9_197 ≤ 2147483647 → ∀ (H : Heap) (locs : List Loc), tf_n tf_kt g M_X6_findSite T s.heap T H locs → tf_s H a0 (g.1.2 6 7) = some (.int (Int32.ofInt f7_197)) → tf_s H a0 (g.1.2 6 8) = some (.int (Int32.ofInt f8_197)) → tf_s H a0 (g.1.2 6 9) = some (.int (Int32.ofInt f9_197)) → ∀ (ls : Array Slot), lv_has ls 11 [(0, .ref a0), (1, .ref a1), (2, .ref a2), (3, .int (Int32.ofInt x3)), (4, .int (Int32.ofInt x4)), (5, .int (Int32.ofInt x5)), (7, .int (Int32.ofInt x7_83))] → W p l e R s m args below meth c H locs 0 0 Q (F0 m 197 ls []) := by
        intro hx3_197 hx4_197 hx5_197 hx7_197 f7_197 hf7_197 f8_197 hf8_197 f9_197 hf9_197 H locs hW hs7_197 hs8_197 hs9_197 ls hl
        refine lv_iinc (v := Int32.ofInt ((x7_83 + 1))) (lv' := [(7, .int (Int32.ofInt ((x7_83 + 1)))), (0, .ref a0), (1, .ref a1), (2, .ref a2), (3, .int (Int32.ofInt x3)), (4, .int (Int32.ofInt x4)), (5, .int (Int32.ofInt x5))]) hx hb dX6_findSite_197 hl (k := 6) rfl (Int32.ofInt_add _ _).symm (by decide) rfl (fun ls hl => ?_)
        refine lv_goto (tgt := 83) hx hb dX6_findSite_200 (by decide) ?_
        exact ih_83 ⟨by omega, by omega⟩ ⟨by omega, by omega⟩ ⟨by omega, by omega⟩ ((x7_83 + 1)) ⟨by omega, by omega⟩ (f7_197) ⟨by omega, by omega⟩ (f8_197) ⟨by omega, by omega⟩ (f9_197) ⟨by omega, by omega⟩ (by omega) _ _ hW hs7_197 hs8_197 hs9_197 _ (lv_sub hl [1, 2, 3, 4, 5, 6, 0] rfl)
      have j_185 : 1 ≤ x3 ∧ x3 ≤ 5 → 1 ≤ x4 ∧ x4 ≤ 5 → (-2147483648) ≤ x5 ∧ x5 ≤ 2147483647 → 0 ≤ x7_83 ∧ x7_83 ≤ 99 → ∀ (x10_185 : Int), (-2147483648) ≤ x10_185 ∧ x10_185 ≤ 2147483647 → ∀ (f9_185 : Int), (-2147483648) ≤ f9_185 ∧ f9_185 ≤ 2147483647 → ∀ (H : Heap) (locs : List Loc), tf_n tf_kt g M_X6_findSite T s.heap T H locs → tf_s H a0 (g.1.2 6 9) = some (.int (Int32.ofInt f9_185)) → ∀ (ls : Array Slot), lv_has ls 11 [(0, .ref a0), (1, .ref a1), (2, .ref a2), (3, .int (Int32.ofInt x3)), (4, .int (Int32.ofInt x4)), (5, .int (Int32.ofInt x5)), (7, .int (Int32.ofInt x7_83)), (10, .int (Int32.ofInt x10_185))] → W p l e R s m args below meth c H locs 0 0 Q (F0 m 185 ls []) := by
        intro hx3_185 hx4_185 hx5_185 hx7_185 x10_185 hx10_185 f9_185 hf9_185 H locs hW hs9_185 ls hl
        refine lv_aload_n hx hb dX6_findSite_185 rfl (lv_at hl 0 rfl) ?_
        refine lv_iload hx hb dX6_findSite_186 (lv_at hl 6 rfl) ?_
        refine tf_put hx hb hts inlX6 tyX6 tyX6_ok nmX6 hown hK (ci := 6) rfl hW ha0 rfl rfl 7 rfl (by decide) (by decide) (hts _ fl_X6_39) rfl (tf_u0 (by omega) (by omega)) rfl rfl dX6_findSite_188 (fun H1 locs1 hW hs1 ht1 hq1 => ?_)
        have hs2 := (ht1 9 (by decide) (by decide)).trans hs9_185
        refine lv_aload_n hx hb dX6_findSite_191 rfl (lv_at hl 0 rfl) ?_
        refine lv_iload hx hb dX6_findSite_192 (lv_at hl 7 rfl) ?_
        refine tf_put hx hb hts inlX6 tyX6 tyX6_ok nmX6 hown hK (ci := 6) rfl hW ha0 rfl rfl 8 rfl (by decide) (by decide) (hts _ fl_X6_42) rfl (tf_u0 (by omega) (by omega)) rfl rfl dX6_findSite_194 (fun H3 locs3 hW hs3 ht3 hq3 => ?_)
        have hs4 := (ht3 9 (by decide) (by decide)).trans hs2
        have hs5 := (ht3 7 (by decide) (by decide)).trans hs1
        exact j_197 ⟨by omega, by omega⟩ ⟨by omega, by omega⟩ ⟨by omega, by omega⟩ ⟨by omega, by omega⟩ (x7_83) ⟨by omega, by omega⟩ (x10_185) ⟨by omega, by omega⟩ (f9_185) ⟨by omega, by omega⟩ _ _ hW hs5 hs3 hs4 _ (lv_sub hl [0, 1, 2, 3, 4, 5, 6] rfl)
      refine lv_iload hx hb dX6_findSite_83 (lv_at hl 6 rfl) ?_
      refine tf_bipush hx hb dX6_findSite_85 (by decide) ?_
      refine tf_icmp_ge (tgt := 203) hx hb ⟨by omega, by omega⟩ ⟨by decide, by decide⟩ dX6_findSite_87 (by decide) (fun h6 => ?_) (fun h6 => ?_)
      · exact tf_retv hx hb hr hlocks hQ hW trivial dX6_findSite_203
      · refine lv_iload hx hb dX6_findSite_90 (lv_at hl 6 rfl) ?_
        refine tf_bipush hx hb dX6_findSite_92 (by decide) ?_
        refine tf_irem hx hb ⟨by omega, by omega⟩ (by omega) ⟨by decide, by decide⟩ (by decide) dX6_findSite_94 ?_
        refine tf_name (fun z7 ez7 => ?_)
        refine lv_istore (lv' := [(8, .int (Int32.ofInt z7)), (0, .ref a0), (1, .ref a1), (2, .ref a2), (3, .int (Int32.ofInt x3)), (4, .int (Int32.ofInt x4)), (5, .int (Int32.ofInt x5)), (7, .int (Int32.ofInt x7_83))]) hx hb dX6_findSite_95 hl (by decide) rfl (fun ls hl => ?_)
        refine lv_iload hx hb dX6_findSite_97 (lv_at hl 7 rfl) ?_
        refine tf_bipush hx hb dX6_findSite_99 (by decide) ?_
        refine tf_idiv hx hb ⟨by omega, by omega⟩ (by omega) ⟨by decide, by decide⟩ (by decide) dX6_findSite_101 ?_
        refine tf_name (fun z8 ez8 => ?_)
        refine lv_istore (lv' := [(9, .int (Int32.ofInt z8)), (8, .int (Int32.ofInt z7)), (0, .ref a0), (1, .ref a1), (2, .ref a2), (3, .int (Int32.ofInt x3)), (4, .int (Int32.ofInt x4)), (5, .int (Int32.ofInt x5)), (7, .int (Int32.ofInt x7_83))]) hx hb dX6_findSite_102 hl (by decide) rfl (fun ls hl => ?_)
        refine lv_aload_n hx hb dX6_findSite_104 rfl (lv_at hl 3 rfl) ?_
        refine lv_iload hx hb dX6_findSite_105 (lv_at hl 1 rfl) ?_
        refine lv_iload hx hb dX6_findSite_107 (lv_at hl 0 rfl) ?_
        refine lv_iload_n hx hb dX6_findSite_109 rfl (lv_at hl 5 rfl) ?_
        refine lv_iload hx hb dX6_findSite_110 (lv_at hl 6 rfl) ?_
        refine lv_iload hx hb dX6_findSite_112 (lv_at hl 7 rfl) ?_
        refine tf_calli (va_runV (As := [.int (Int32.ofInt z7), .int (Int32.ofInt z8), .int (Int32.ofInt x3), .int (Int32.ofInt x4), .int (Int32.ofInt x5)]) (rest := []) ⟨hx, hb, hml, hown, hts⟩ (c_X3_whyNoTower l g T a1 ha1 (z7) ⟨by omega, by omega⟩ (z8) ⟨by omega, by omega⟩ (x3) ⟨by omega, by omega⟩ (x4) ⟨by omega, by omega⟩ (x5) ⟨by omega, by omega⟩) (cwV 5 hts gv_X6_95 rfl rfl rfl hd_X3_whyNoTower ⟨Nat.le_trans (by decide) hR1, Nat.le_trans (by decide) hR2⟩) (tf_preV hk hW ha1 (ci := 3) rfl rfl trivial) rfl rfl hl.1 rfl (lv_room (Nat.le_of_ble_eq_true rfl)) dX6_findSite_114 ⟨Nat.zero_le _, Nat.zero_le _⟩) hW (by decide) (fun z9 H9 locs9 hW hF9 hp9 => ?_)
        have hs10 := tf_keepF hF9 ha0 rfl rfl (by decide) hs7_83
        have hs11 := tf_keepF hF9 ha0 rfl rfl (by decide) hs8_83
        have hs12 := tf_keepF hF9 ha0 rfl rfl (by decide) hs9_83
        rcases hp9 with ⟨rfl, h13, h14, h15, h16, h17, h18, h19, h20⟩ | ⟨h21, h22⟩
        · refine tf_if_ne (tgt := 197) hx hb ⟨by decide, by decide⟩ dX6_findSite_117 (by decide) (fun h23 => ?_) (fun h23 => ?_)
          · exfalso; omega
          · refine lv_aload_n hx hb dX6_findSite_120 rfl (lv_at hl 2 rfl) ?_
            refine lv_dup hx hb dX6_findSite_121 rfl ?_
            refine tf_get hx hb hts inlX6 hown hK (ci := 6) rfl hW ha0 rfl 9 rfl (by decide) (hts _ fl_X6_45) dX6_findSite_122 (fun v24 hv24 hsv24 => ?_)
            obtain rfl : v24 = .int (Int32.ofInt f9_83) := Option.some.inj (hsv24.symm.trans hs12)
            refine tf_iconst hx hb dX6_findSite_125 ?_
            refine tf_iadd_any hx hb dX6_findSite_126 (fun z25 hz25 => ?_)
            refine tf_put hx hb hts inlX6 tyX6 tyX6_ok nmX6 hown hK (ci := 6) rfl hW ha0 rfl rfl 9 rfl (by decide) (by decide) (hts _ fl_X6_45) rfl (tf_u0 (by omega) (by omega)) rfl rfl dX6_findSite_127 (fun H26 locs26 hW hs26 ht26 hq26 => ?_)
            have hs27 := (ht26 7 (by decide) (by decide)).trans hs10
            have hs28 := (ht26 8 (by decide) (by decide)).trans hs11
            refine lv_aload_n hx hb dX6_findSite_130 rfl (lv_at hl 2 rfl) ?_
            refine tf_get hx hb hts inlX6 hown hK (ci := 6) rfl hW ha0 rfl 0 rfl (by decide) (hts _ fl_X6_12) dX6_findSite_131 (fun v29 hv29 hsv29 => ?_)
            obtain ⟨ad30, rfl, had30⟩ := tf_v1 hv29
            refine lv_aload_n hx hb dX6_findSite_134 rfl (lv_at hl 3 rfl) ?_
            refine tf_get hx hb hts inlX3 hown hK (ci := 3) rfl hW ha1 rfl 0 rfl (by decide) (hts _ fl_X6_62) dX6_findSite_135 (fun v31 hv31 hsv31 => ?_)
            obtain ⟨ad32, rfl, had32⟩ := tf_v1 hv31
            refine tf_callv (va_runV (As := [.ref ad32]) (rest := []) ⟨hx, hb, hml, hown, hts⟩ (c_X0_become l g T ad30 had30 ad32 had32) (cwV 1 hts gv_X6_63 rfl rfl rfl hd_X0_become ⟨Nat.le_trans (by decide) hR1, Nat.le_trans (by decide) hR2⟩) (tf_preV hk hW had30 (ci := 0) rfl rfl trivial) rfl rfl hl.1 rfl (lv_room (Nat.le_of_ble_eq_true rfl)) dX6_findSite_138 ⟨Nat.zero_le _, Nat.zero_le _⟩) hW (by decide) (fun H33 locs33 hW hF33 hp33 => ?_)
            have hs34 := tf_keepF hF33 ha0 rfl rfl (by decide) hs27
            have hs35 := tf_keepF hF33 ha0 rfl rfl (by decide) hs28
            have hs36 := tf_keepF hF33 ha0 rfl rfl (by decide) hs26
            have hs37 := tf_keepF hF33 ha0 rfl rfl (by decide) hsv29
            refine lv_aload_n hx hb dX6_findSite_141 rfl (lv_at hl 2 rfl) ?_
            refine tf_get hx hb hts inlX6 hown hK (ci := 6) rfl hW ha0 rfl 0 rfl (by decide) (hts _ fl_X6_12) dX6_findSite_142 (fun v38 hv38 hsv38 => ?_)
            obtain rfl : v38 = .ref ad30 := Option.some.inj (hsv38.symm.trans hs37)
            refine lv_iload hx hb dX6_findSite_145 (lv_at hl 1 rfl) ?_
            refine lv_iload hx hb dX6_findSite_147 (lv_at hl 0 rfl) ?_
            refine lv_iload_n hx hb dX6_findSite_149 rfl (lv_at hl 5 rfl) ?_
            refine lv_iload hx hb dX6_findSite_150 (lv_at hl 6 rfl) ?_
            refine lv_iload hx hb dX6_findSite_152 (lv_at hl 7 rfl) ?_
            refine tf_callv (va_runV (As := [.int (Int32.ofInt z7), .int (Int32.ofInt z8), .int (Int32.ofInt x3), .int (Int32.ofInt x4), .int (Int32.ofInt x5)]) (rest := []) ⟨hx, hb, hml, hown, hts⟩ (c_X0_stand l g T ad30 had30 (z7) ⟨by omega, by omega⟩ (z8) ⟨by omega, by omega⟩ (x3) ⟨by omega, by omega⟩ (x4) ⟨by omega, by omega⟩ (x5) ⟨by omega, by omega⟩) (cwV 5 hts gv_X6_99 rfl rfl rfl hd_X0_stand ⟨Nat.le_trans (by decide) hR1, Nat.le_trans (by decide) hR2⟩) (tf_preV hk hW had30 (ci := 0) rfl rfl trivial) rfl rfl hl.1 rfl (lv_room (Nat.le_of_ble_eq_true rfl)) dX6_findSite_154 ⟨Nat.zero_le _, Nat.zero_le _⟩) hW (by decide) (fun H39 locs39 hW hF39 hp39 => ?_)
            have hs40 := tf_keepF hF39 ha0 rfl rfl (by decide) hs34
            have hs41 := tf_keepF hF39 ha0 rfl rfl (by decide) hs35
            have hs42 := tf_keepF hF39 ha0 rfl rfl (by decide) hs36
            have hs43 := tf_keepF hF39 ha0 rfl rfl (by decide) hs37
            refine lv_aload_n hx hb dX6_findSite_157 rfl (lv_at hl 4 rfl) ?_
            refine lv_aload_n hx hb dX6_findSite_158 rfl (lv_at hl 3 rfl) ?_
            refine lv_aload_n hx hb dX6_findSite_159 rfl (lv_at hl 2 rfl) ?_
            refine tf_get hx hb hts inlX6 hown hK (ci := 6) rfl hW ha0 rfl 0 rfl (by decide) (hts _ fl_X6_12) dX6_findSite_160 (fun v44 hv44 hsv44 => ?_)
            obtain rfl : v44 = .ref ad30 := Option.some.inj (hsv44.symm.trans hs43)
            refine tf_calli (va_runV (As := [.ref a1, .ref ad30]) (rest := []) ⟨hx, hb, hml, hown, hts⟩ (c_X7_allOver l g T a2 ha2 a1 ha1 ad30 had30 hE) (cwV 2 hts gv_X6_71 rfl rfl rfl hd_X7_allOver ⟨Nat.le_trans (by decide) hR1, Nat.le_trans (by decide) hR2⟩) (tf_preV hk hW ha2 (ci := 7) rfl rfl trivial) rfl rfl hl.1 rfl (lv_room (Nat.le_of_ble_eq_true rfl)) dX6_findSite_163 ⟨Nat.zero_le _, Nat.zero_le _⟩) hW (by decide) (fun z45 H45 locs45 hW hF45 hp45 => ?_)
            have hs46 := tf_keepF hF45 ha0 rfl rfl (by decide) hs40
            have hs47 := tf_keepF hF45 ha0 rfl rfl (by decide) hs41
            have hs48 := tf_keepF hF45 ha0 rfl rfl (by decide) hs42
            have hs49 := tf_keepF hF45 ha0 rfl rfl (by decide) hs43
            obtain ⟨hp45_0, hp45_1⟩ := hp45
            refine lv_istore (lv' := [(10, .int (Int32.ofInt z45)), (9, .int (Int32.ofInt z8)), (8, .int (Int32.ofInt z7)), (0, .ref a0), (1, .ref a1), (2, .ref a2), (3, .int (Int32.ofInt x3)), (4, .int (Int32.ofInt x4)), (5, .int (Int32.ofInt x5)), (7, .int (Int32.ofInt x7_83))]) hx hb dX6_findSite_166 hl (by decide) rfl (fun ls hl => ?_)
            refine lv_aload_n hx hb dX6_findSite_168 rfl (lv_at hl 3 rfl) ?_
            refine tf_get hx hb hts inlX6 hown hK (ci := 6) rfl hW ha0 rfl 7 rfl (by decide) (hts _ fl_X6_39) dX6_findSite_169 (fun v50 hv50 hsv50 => ?_)
            obtain rfl : v50 = .int (Int32.ofInt f7_83) := Option.some.inj (hsv50.symm.trans hs46)
            refine tf_iconst hx hb dX6_findSite_172 ?_
            refine tf_icmp_eq (tgt := 185) hx hb ⟨by omega, by omega⟩ ⟨by decide, by decide⟩ dX6_findSite_173 (by decide) (fun h51 => ?_) (fun h51 => ?_)
            · exact j_185 ⟨by omega, by omega⟩ ⟨by omega, by omega⟩ ⟨by omega, by omega⟩ ⟨by omega, by omega⟩ (z45) ⟨by omega, by omega⟩ (z25) ⟨by omega, by omega⟩ _ _ hW hs48 _ (lv_sub hl [3, 4, 5, 6, 7, 8, 9, 0] rfl)
            · refine lv_iload hx hb dX6_findSite_176 (lv_at hl 0 rfl) ?_
              refine lv_aload_n hx hb dX6_findSite_178 rfl (lv_at hl 3 rfl) ?_
              refine tf_get hx hb hts inlX6 hown hK (ci := 6) rfl hW ha0 rfl 8 rfl (by decide) (hts _ fl_X6_42) dX6_findSite_179 (fun v52 hv52 hsv52 => ?_)
              obtain rfl : v52 = .int (Int32.ofInt f8_83) := Option.some.inj (hsv52.symm.trans hs47)
              refine tf_icmp_ge (tgt := 197) hx hb ⟨by omega, by omega⟩ ⟨by omega, by omega⟩ dX6_findSite_182 (by decide) (fun h53 => ?_) (fun h53 => ?_)
              · exact j_197 ⟨by omega, by omega⟩ ⟨by omega, by omega⟩ ⟨by omega, by omega⟩ ⟨by omega, by omega⟩ (f7_83) ⟨by omega, by omega⟩ (f8_83) ⟨by omega, by omega⟩ (z25) ⟨by omega, by omega⟩ _ _ hW hs46 hs47 hs48 _ (lv_sub hl [3, 4, 5, 6, 7, 8, 9] rfl)
              · exact j_185 ⟨by omega, by omega⟩ ⟨by omega, by omega⟩ ⟨by omega, by omega⟩ ⟨by omega, by omega⟩ (z45) ⟨by omega, by omega⟩ (z25) ⟨by omega, by omega⟩ _ _ hW hs48 _ (lv_sub hl [3, 4, 5, 6, 7, 8, 9, 0] rfl)
        · refine tf_if_ne (tgt := 197) hx hb ⟨by omega, by omega⟩ dX6_findSite_117 (by decide) (fun h54 => ?_) (fun h54 => ?_)
          · exact j_197 ⟨by omega, by omega⟩ ⟨by omega, by omega⟩ ⟨by omega, by omega⟩ ⟨by omega, by omega⟩ (f7_83) ⟨by omega, by omega⟩ (f8_83) ⟨by omega, by omega⟩ (f9_83) ⟨by omega, by omega⟩ _ _ hW hs10 hs11 hs12 _ (lv_sub hl [2, 3, 4, 5, 6, 7, 8] rfl)
          · exfalso; omega
  have j_47 : (-2147483648) ≤ x3 ∧ x3 ≤ 2147483647 → (-2147483648) ≤ x4 ∧ x4 ≤ 2147483647 → (-2147483648) ≤ x5 ∧ x5 ≤ 2147483647 → ∀ (y0_47 : Int), 0 ≤ y0_47 ∧ y0_47 ≤ 4055 → ∀ (H : Heap) (locs : List Loc), tf_n tf_kt g M_X6_findSite T s.heap T H locs → ∀ (ls : Array Slot), lv_has ls 11 [(0, .ref a0), (1, .ref a1), (2, .ref a2), (3, .int (Int32.ofInt x3)), (4, .int (Int32.ofInt x4)), (5, .int (Int32.ofInt x5))] → W p l e R s m args below meth c H locs 0 0 Q (F0 m 47 ls [.int (Int32.ofInt y0_47)]) := by
    intro hx3_47 hx4_47 hx5_47 y0_47 hy0_47 H locs hW  ls hl
    refine lv_istore (lv' := [(6, .int (Int32.ofInt y0_47)), (0, .ref a0), (1, .ref a1), (2, .ref a2), (3, .int (Int32.ofInt x3)), (4, .int (Int32.ofInt x4)), (5, .int (Int32.ofInt x5))]) hx hb dX6_findSite_47 hl (by decide) rfl (fun ls hl => ?_)
    refine lv_iload hx hb dX6_findSite_49 (lv_at hl 0 rfl) ?_
    refine lv_aload_n hx hb dX6_findSite_51 rfl (lv_at hl 1 rfl) ?_
    refine tf_get hx hb hts inlX6 hown hK (ci := 6) rfl hW ha0 rfl 10 rfl (by decide) (hts _ fl_X6_48) dX6_findSite_52 (fun v55 hv55 hsv55 => ?_)
    obtain ⟨z56, rfl, hz56⟩ := tf_v0 hv55
    refine tf_icmp_ne (tgt := 59) hx hb ⟨by omega, by omega⟩ ⟨by omega, by omega⟩ dX6_findSite_55 (by decide) (fun h57 => ?_) (fun h57 => ?_)
    · refine lv_aload_n hx hb dX6_findSite_59 rfl (lv_at hl 1 rfl) ?_
      refine lv_iload hx hb dX6_findSite_60 (lv_at hl 0 rfl) ?_
      refine tf_put hx hb hts inlX6 tyX6 tyX6_ok nmX6 hown hK (ci := 6) rfl hW ha0 rfl rfl 10 rfl (by decide) (by decide) (hts _ fl_X6_48) rfl (tf_u0 (by omega) (by omega)) rfl rfl dX6_findSite_62 (fun H58 locs58 hW hs58 ht58 hq58 => ?_)
      refine lv_aload_n hx hb dX6_findSite_65 rfl (lv_at hl 1 rfl) ?_
      refine tf_iconst hx hb dX6_findSite_66 ?_
      refine tf_put hx hb hts inlX6 tyX6 tyX6_ok nmX6 hown hK (ci := 6) rfl hW ha0 rfl rfl 7 rfl (by decide) (by decide) (hts _ fl_X6_39) rfl (tf_u0 (by omega) (by omega)) rfl rfl dX6_findSite_67 (fun H59 locs59 hW hs59 ht59 hq59 => ?_)
      refine lv_aload_n hx hb dX6_findSite_70 rfl (lv_at hl 1 rfl) ?_
      refine tf_iconst hx hb dX6_findSite_71 ?_
      refine tf_put hx hb hts inlX6 tyX6 tyX6_ok nmX6 hown hK (ci := 6) rfl hW ha0 rfl rfl 8 rfl (by decide) (by decide) (hts _ fl_X6_42) rfl (tf_u0 (by omega) (by omega)) rfl rfl dX6_findSite_72 (fun H60 locs60 hW hs60 ht60 hq60 => ?_)
      have hs61 := (ht60 7 (by decide) (by decide)).trans hs59
      refine lv_aload_n hx hb dX6_findSite_75 rfl (lv_at hl 1 rfl) ?_
      refine tf_iconst hx hb dX6_findSite_76 ?_
      refine tf_put hx hb hts inlX6 tyX6 tyX6_ok nmX6 hown hK (ci := 6) rfl hW ha0 rfl rfl 9 rfl (by decide) (by decide) (hts _ fl_X6_45) rfl (tf_u0 (by omega) (by omega)) rfl rfl dX6_findSite_77 (fun H62 locs62 hW hs62 ht62 hq62 => ?_)
      have hs63 := (ht62 7 (by decide) (by decide)).trans hs61
      have hs64 := (ht62 8 (by decide) (by decide)).trans hs60
      refine tf_iconst hx hb dX6_findSite_80 ?_
      refine lv_istore (lv' := [(7, .int (Int32.ofInt 0)), (6, .int (Int32.ofInt y0_47)), (0, .ref a0), (1, .ref a1), (2, .ref a2), (3, .int (Int32.ofInt x3)), (4, .int (Int32.ofInt x4)), (5, .int (Int32.ofInt x5))]) hx hb dX6_findSite_81 hl (by decide) rfl (fun ls hl => ?_)
      exact j_83 ((100 - 0 + 1 : Int)).toNat ⟨by omega, by omega⟩ ⟨by omega, by omega⟩ ⟨by omega, by omega⟩ (0) ⟨by omega, by omega⟩ ((-1)) ⟨by omega, by omega⟩ ((-1)) ⟨by omega, by omega⟩ (0) ⟨by omega, by omega⟩ (by omega) _ _ hW hs63 hs64 hs62 _ (lv_sub hl [2, 3, 4, 5, 6, 7, 0] rfl)
    · exact tf_retv hx hb hr hlocks hQ hW trivial dX6_findSite_58
  have j_46 : (-2147483648) ≤ x3 ∧ x3 ≤ 2147483647 → (-2147483648) ≤ x4 ∧ x4 ≤ 2147483647 → (-2147483648) ≤ x5 ∧ x5 ≤ 2147483647 → ∀ (H : Heap) (locs : List Loc), tf_n tf_kt g M_X6_findSite T s.heap T H locs → ∀ (ls : Array Slot), lv_has ls 11 [(0, .ref a0), (1, .ref a1), (2, .ref a2), (3, .int (Int32.ofInt x3)), (4, .int (Int32.ofInt x4)), (5, .int (Int32.ofInt x5))] → W p l e R s m args below meth c H locs 0 0 Q (F0 m 46 ls []) := by
    intro hx3_46 hx4_46 hx5_46 H locs hW  ls hl
    refine tf_iconst hx hb dX6_findSite_46 ?_
    exact j_47 ⟨by omega, by omega⟩ ⟨by omega, by omega⟩ ⟨by omega, by omega⟩ (0) ⟨by omega, by omega⟩ _ _ hW  _ (lv_sub hl [0, 1, 2, 3, 4, 5] rfl)
  refine tf_enter (As := [.ref a0, .ref a1, .ref a2, .int (Int32.ofInt x3), .int (Int32.ofInt x4), .int (Int32.ofInt x5)]) hargs (Nat.le_of_ble_eq_true rfl) (fun ls hl => ?_)
  have hl : lv_has ls 11 [(0, .ref a0), (1, .ref a1), (2, .ref a2), (3, .int (Int32.ofInt x3)), (4, .int (Int32.ofInt x4)), (5, .int (Int32.ofInt x5))] := hl
  refine lv_iload_n hx hb dX6_findSite_0 rfl (lv_at hl 3 rfl) ?_
  refine tf_iconst hx hb dX6_findSite_1 ?_
  refine tf_iconst hx hb dX6_findSite_2 ?_
  refine tf_calli (va_runSN (As := [.int (Int32.ofInt x3), .int (Int32.ofInt 1), .int (Int32.ofInt 5)]) (rest := []) ⟨hx, hb, hml, hown, hts⟩ (c_X9_isWithin l g T (x3) ⟨by omega, by omega⟩ (1) ⟨by omega, by omega⟩ (5) ⟨by omega, by omega⟩) ⟨va_cnB 3 hts (gw_ws cm_X9_isWithin) rfl rfl rfl (hk.2.1 _ nw_21) (hts _ (tw1 (i := 2) rfl)) hd_X9_isWithin.2 ⟨Nat.le_trans (by decide) hR1, Nat.le_trans (by decide) hR2⟩, hts _ (tw8 (i := 17) rfl), trivial⟩ (tf_preS hk hW trivial) rfl rfl hl.1 rfl (lv_room (Nat.le_of_ble_eq_true rfl)) dX6_findSite_3 ⟨Nat.zero_le _, Nat.zero_le _⟩) hW (by decide) (fun z65 H65 locs65 hW hF65 hp65 => ?_)
  rcases hp65 with ⟨rfl, h66, h67⟩ | ⟨rfl, h68⟩
  · refine tf_if_eq (tgt := 46) hx hb ⟨by decide, by decide⟩ dX6_findSite_6 (by decide) (fun h69 => ?_) (fun h69 => ?_)
    · exfalso; omega
    · refine lv_iload hx hb dX6_findSite_9 (lv_at hl 4 rfl) ?_
      refine tf_iconst hx hb dX6_findSite_11 ?_
      refine tf_iconst hx hb dX6_findSite_12 ?_
      refine tf_calli (va_runSN (As := [.int (Int32.ofInt x4), .int (Int32.ofInt 1), .int (Int32.ofInt 5)]) (rest := []) ⟨hx, hb, hml, hown, hts⟩ (c_X9_isWithin l g T (x4) ⟨by omega, by omega⟩ (1) ⟨by omega, by omega⟩ (5) ⟨by omega, by omega⟩) ⟨va_cnB 3 hts (gw_ws cm_X9_isWithin) rfl rfl rfl (hk.2.1 _ nw_21) (hts _ (tw1 (i := 2) rfl)) hd_X9_isWithin.2 ⟨Nat.le_trans (by decide) hR1, Nat.le_trans (by decide) hR2⟩, hts _ (tw8 (i := 17) rfl), trivial⟩ (tf_preS hk hW trivial) rfl rfl hl.1 rfl (lv_room (Nat.le_of_ble_eq_true rfl)) dX6_findSite_13 ⟨Nat.zero_le _, Nat.zero_le _⟩) hW (by decide) (fun z70 H70 locs70 hW hF70 hp70 => ?_)
      rcases hp70 with ⟨rfl, h71, h72⟩ | ⟨rfl, h73⟩
      · refine tf_if_eq (tgt := 46) hx hb ⟨by decide, by decide⟩ dX6_findSite_16 (by decide) (fun h74 => ?_) (fun h74 => ?_)
        · exfalso; omega
        · refine lv_iload hx hb dX6_findSite_19 (lv_at hl 5 rfl) ?_
          refine tf_iconst hx hb dX6_findSite_21 ?_
          refine tf_bipush hx hb dX6_findSite_22 (by decide) ?_
          refine tf_calli (va_runSN (As := [.int (Int32.ofInt x5), .int (Int32.ofInt 1), .int (Int32.ofInt 40)]) (rest := []) ⟨hx, hb, hml, hown, hts⟩ (c_X9_isWithin l g T (x5) ⟨by omega, by omega⟩ (1) ⟨by omega, by omega⟩ (40) ⟨by omega, by omega⟩) ⟨va_cnB 3 hts (gw_ws cm_X9_isWithin) rfl rfl rfl (hk.2.1 _ nw_21) (hts _ (tw1 (i := 2) rfl)) hd_X9_isWithin.2 ⟨Nat.le_trans (by decide) hR1, Nat.le_trans (by decide) hR2⟩, hts _ (tw8 (i := 17) rfl), trivial⟩ (tf_preS hk hW trivial) rfl rfl hl.1 rfl (lv_room (Nat.le_of_ble_eq_true rfl)) dX6_findSite_24 ⟨Nat.zero_le _, Nat.zero_le _⟩) hW (by decide) (fun z75 H75 locs75 hW hF75 hp75 => ?_)
          rcases hp75 with ⟨rfl, h76, h77⟩ | ⟨rfl, h78⟩
          · refine tf_if_eq (tgt := 46) hx hb ⟨by decide, by decide⟩ dX6_findSite_27 (by decide) (fun h79 => ?_) (fun h79 => ?_)
            · exfalso; omega
            · refine lv_iload hx hb dX6_findSite_30 (lv_at hl 5 rfl) ?_
              refine tf_bipush hx hb dX6_findSite_32 (by decide) ?_
              refine tf_imul hx hb dX6_findSite_34 ?_
              refine lv_iload hx hb dX6_findSite_35 (lv_at hl 4 rfl) ?_
              refine tf_iadd hx hb dX6_findSite_37 ?_
              refine tf_bipush hx hb dX6_findSite_38 (by decide) ?_
              refine tf_imul hx hb dX6_findSite_40 ?_
              refine lv_iload_n hx hb dX6_findSite_41 rfl (lv_at hl 3 rfl) ?_
              refine tf_iadd hx hb dX6_findSite_42 ?_
              refine lv_goto (tgt := 47) hx hb dX6_findSite_43 (by decide) ?_
              exact j_47 ⟨by omega, by omega⟩ ⟨by omega, by omega⟩ ⟨by omega, by omega⟩ (((((x5 * 10) + x4) * 10) + x3)) ⟨by omega, by omega⟩ _ _ hW  _ (lv_sub hl [0, 1, 2, 3, 4, 5] rfl)
          · refine tf_if_eq (tgt := 46) hx hb ⟨by decide, by decide⟩ dX6_findSite_27 (by decide) (fun h80 => ?_) (fun h80 => ?_)
            · exact j_46 ⟨by omega, by omega⟩ ⟨by omega, by omega⟩ ⟨by omega, by omega⟩ _ _ hW  _ (lv_sub hl [0, 1, 2, 3, 4, 5] rfl)
            · exfalso; omega
      · refine tf_if_eq (tgt := 46) hx hb ⟨by decide, by decide⟩ dX6_findSite_16 (by decide) (fun h81 => ?_) (fun h81 => ?_)
        · exact j_46 ⟨by omega, by omega⟩ ⟨by omega, by omega⟩ ⟨by omega, by omega⟩ _ _ hW  _ (lv_sub hl [0, 1, 2, 3, 4, 5] rfl)
        · exfalso; omega
  · refine tf_if_eq (tgt := 46) hx hb ⟨by decide, by decide⟩ dX6_findSite_6 (by decide) (fun h82 => ?_) (fun h82 => ?_)
    · exact j_46 ⟨by omega, by omega⟩ ⟨by omega, by omega⟩ ⟨by omega, by omega⟩ _ _ hW  _ (lv_sub hl [0, 1, 2, 3, 4, 5] rfl)
    · exfalso; omega

abbrev M_X6_doWorks : List (Nat × Nat) := [(1, 0)]
set_option maxHeartbeats 4000000 in
set_option maxRecDepth 100000 in
theorem c_X6_doWorks (l : Launch) (g : tf_G) (T : tf_T) (a0 : Nat) (ha0 : T a0 = some (23, 0)) (a1 : Nat) (ha1 : T a1 = some (20, 0)) (x2 : Int) (hp2 : (-2147483648) ≤ x2 ∧ x2 ≤ 2147483647) : Met l yX6_doWorks (cd_X6_doWorks :: wsL_law) ({ frames := 5, cells := 0, slots := 0, locals := 122 }) (tf_P g T [.ref a0, .ref a1, .int (Int32.ofInt x2)] (fun H => True)) (tf_Qv g M_X6_doWorks T (fun _ H => True)) 0 0 (fun q => tf_B g ≤ q) := by
  refine Met.ofW (cc := cX6_doWorks) (maxL := 4) (ret := none) (by decide) rfl ?_
  intro p e s m args below meth c s₁ B hml hv
  obtain ⟨hargs, hk, hW0, hB, hpre⟩ := hv
  have hx := B.exec
  have hb := B.bytes
  have hr := B.returns
  have hts : ∀ w ∈ wsL_law, w.before args s = true := fun w h => atoms_spec (ws := cd_X6_doWorks :: wsL_law) B.pre w (List.mem_cons_of_mem _ h)
  have hown : s.vm.findClass RX6 = some m.cls := findClass_of_methodNamed B.named
  have hlocks := B.notSynchronized
  have hK := hk.1
  have hW := tf_n.start (M := M_X6_doWorks) hW0 hB
  obtain ⟨Q, hQ⟩ : ∃ q, q = MQ below (tf_Qv g M_X6_doWorks T (fun _ H => True)) args s 0 0 (fun q => tf_B g ≤ q) := ⟨_, rfl⟩
  rw [← hQ]
  obtain ⟨R, hR⟩ : ∃ q, q = (headSpec (cd_X6_doWorks :: wsL_law) ({ frames := 5, cells := 0, slots := 0, locals := 122 })).room := ⟨_, rfl⟩
  rw [← hR]
  have hR1 : 5 ≤ R.frames := by rw [hR]; exact Nat.le_refl _
  have hR2 : 122 ≤ R.locals := by rw [hR]; exact Nat.le_refl _
  have hR3 : 0 ≤ R.cells := by rw [hR]; exact Nat.le_refl _
  have hR4 : 0 ≤ R.slots := by rw [hR]; exact Nat.le_refl _
  have hin := (name_of_methodNamed B.named B.method).1
  clear hR B
  have j_13 : ∀ (n_13 : Nat), (-2147483648) ≤ x2 ∧ x2 ≤ 2147483647 → ∀ (x3_13 : Int), 0 ≤ x3_13 ∧ x3_13 ≤ 8 → (8 - x3_13 + 1 ≤ (n_13 : Int)) → ∀ (H : Heap) (locs : List Loc), tf_n tf_kt g M_X6_doWorks T s.heap T H locs → ∀ (ls : Array Slot), lv_has ls 4 [(0, .ref a0), (1, .ref a1), (2, .int (Int32.ofInt x2)), (3, .int (Int32.ofInt x3_13))] → W p l e R s m args below meth c H locs 0 0 Q (F0 m 13 ls []) := by
    intro n_13
    induction n_13 with
    | zero =>
      intro hx2_13 x3_13 hx3_13 hm_13
      exfalso; omega
    | succ n_13 ih_13 =>
      intro hx2_13 x3_13 hx3_13 hm_13 H locs hW  ls hl
      have j_42 : (-2147483648) ≤ x2 ∧ x2 ≤ 2147483647 → 0 ≤ x3_13 ∧ x3_13 ≤ 7 → ∀ (H : Heap) (locs : List Loc), tf_n tf_kt g M_X6_doWorks T s.heap T H locs → ∀ (ls : Array Slot), lv_has ls 4 [(0, .ref a0), (1, .ref a1), (2, .int (Int32.ofInt x2)), (3, .int (Int32.ofInt x3_13))] → W p l e R s m args below meth c H locs 0 0 Q (F0 m 42 ls []) := by
        intro hx2_42 hx3_42 H locs hW  ls hl
        refine lv_iinc (v := Int32.ofInt ((x3_13 + 1))) (lv' := [(3, .int (Int32.ofInt ((x3_13 + 1)))), (0, .ref a0), (1, .ref a1), (2, .int (Int32.ofInt x2))]) hx hb dX6_doWorks_42 hl (k := 3) rfl (Int32.ofInt_add _ _).symm (by decide) rfl (fun ls hl => ?_)
        refine lv_goto (tgt := 13) hx hb dX6_doWorks_45 (by decide) ?_
        exact ih_13 ⟨by omega, by omega⟩ ((x3_13 + 1)) ⟨by omega, by omega⟩ (by omega) _ _ hW  _ (lv_sub hl [1, 2, 3, 0] rfl)
      refine lv_iload_n hx hb dX6_doWorks_13 rfl (lv_at hl 3 rfl) ?_
      refine lv_aload_n hx hb dX6_doWorks_14 rfl (lv_at hl 1 rfl) ?_
      refine tf_get hx hb hts inlX3 hown hK (ci := 3) rfl hW ha1 rfl 2 rfl (by decide) (hts _ fl_X6_103) dX6_doWorks_15 (fun v1 hv1 hsv1 => ?_)
      obtain ⟨ad2, rfl, had2⟩ := tf_v1 hv1
      refine tf_get hx hb hts inlX8 hown hK (ci := 8) rfl hW had2 rfl 4 rfl (by decide) (hts _ fl_X6_107) dX6_doWorks_18 (fun v3 hv3 hsv3 => ?_)
      obtain ⟨z4, rfl, hz4⟩ := tf_v0 hv3
      refine tf_icmp_ge (tgt := 48) hx hb ⟨by omega, by omega⟩ ⟨by omega, by omega⟩ dX6_doWorks_21 (by decide) (fun h5 => ?_) (fun h5 => ?_)
      · exact tf_retv hx hb hr hlocks hQ hW trivial dX6_doWorks_48
      · refine lv_iload_n hx hb dX6_doWorks_24 rfl (lv_at hl 2 rfl) ?_
        refine lv_iload_n hx hb dX6_doWorks_25 rfl (lv_at hl 3 rfl) ?_
        refine tf_ishr_any hx hb dX6_doWorks_26 (fun z6 hz6 => ?_)
        refine tf_iconst hx hb dX6_doWorks_27 ?_
        refine tf_iand_mask hx hb 1 (by decide) (by decide +kernel) dX6_doWorks_28 (fun z7 hz7 kz7 => ?_)
        refine tf_iconst hx hb dX6_doWorks_29 ?_
        refine tf_icmp_ne (tgt := 42) hx hb ⟨by omega, by omega⟩ ⟨by decide, by decide⟩ dX6_doWorks_30 (by decide) (fun h8 => ?_) (fun h8 => ?_)
        · exact j_42 ⟨by omega, by omega⟩ ⟨by omega, by omega⟩ _ _ hW  _ (lv_sub hl [0, 1, 2, 3] rfl)
        · refine lv_aload_n hx hb dX6_doWorks_33 rfl (lv_at hl 1 rfl) ?_
          refine lv_iload_n hx hb dX6_doWorks_34 rfl (lv_at hl 3 rfl) ?_
          refine lv_aload_n hx hb dX6_doWorks_35 rfl (lv_at hl 0 rfl) ?_
          refine tf_get hx hb hts inlX6 hown hK (ci := 6) rfl hW ha0 rfl 0 rfl (by decide) (hts _ fl_X6_12) dX6_doWorks_36 (fun v9 hv9 hsv9 => ?_)
          obtain ⟨ad10, rfl, had10⟩ := tf_v1 hv9
          refine tf_callv (va_runV (As := [.int (Int32.ofInt x3_13), .ref ad10]) (rest := []) ⟨hx, hb, hml, hown, hts⟩ (c_X3_doWork l g T a1 ha1 (x3_13) ⟨by omega, by omega⟩ ad10 had10) (cwV 2 hts gv_X6_110 rfl rfl rfl hd_X3_doWork ⟨Nat.le_trans (by decide) hR1, Nat.le_trans (by decide) hR2⟩) (tf_preV hk hW ha1 (ci := 3) rfl rfl trivial) rfl rfl hl.1 rfl (lv_room (Nat.le_of_ble_eq_true rfl)) dX6_doWorks_39 ⟨Nat.zero_le _, Nat.zero_le _⟩) hW (by decide) (fun H11 locs11 hW hF11 hp11 => ?_)
          exact j_42 ⟨by omega, by omega⟩ ⟨by omega, by omega⟩ _ _ hW  _ (lv_sub hl [0, 1, 2, 3] rfl)
  refine tf_enter (As := [.ref a0, .ref a1, .int (Int32.ofInt x2)]) hargs (Nat.le_of_ble_eq_true rfl) (fun ls hl => ?_)
  have hl : lv_has ls 4 [(0, .ref a0), (1, .ref a1), (2, .int (Int32.ofInt x2))] := hl
  refine lv_aload_n hx hb dX6_doWorks_0 rfl (lv_at hl 0 rfl) ?_
  refine tf_get hx hb hts inlX6 hown hK (ci := 6) rfl hW ha0 rfl 0 rfl (by decide) (hts _ fl_X6_12) dX6_doWorks_1 (fun v12 hv12 hsv12 => ?_)
  obtain ⟨ad13, rfl, had13⟩ := tf_v1 hv12
  refine lv_aload_n hx hb dX6_doWorks_4 rfl (lv_at hl 1 rfl) ?_
  refine tf_get hx hb hts inlX3 hown hK (ci := 3) rfl hW ha1 rfl 0 rfl (by decide) (hts _ fl_X6_62) dX6_doWorks_5 (fun v14 hv14 hsv14 => ?_)
  obtain ⟨ad15, rfl, had15⟩ := tf_v1 hv14
  refine tf_callv (va_runV (As := [.ref ad15]) (rest := []) ⟨hx, hb, hml, hown, hts⟩ (c_X0_become l g T ad13 had13 ad15 had15) (cwV 1 hts gv_X6_63 rfl rfl rfl hd_X0_become ⟨Nat.le_trans (by decide) hR1, Nat.le_trans (by decide) hR2⟩) (tf_preV hk hW had13 (ci := 0) rfl rfl trivial) rfl rfl hl.1 rfl (lv_room (Nat.le_of_ble_eq_true rfl)) dX6_doWorks_8 ⟨Nat.zero_le _, Nat.zero_le _⟩) hW (by decide) (fun H16 locs16 hW hF16 hp16 => ?_)
  refine tf_iconst hx hb dX6_doWorks_11 ?_
  refine lv_istore_n (lv' := [(3, .int (Int32.ofInt 0)), (0, .ref a0), (1, .ref a1), (2, .int (Int32.ofInt x2))]) hx hb dX6_doWorks_12 rfl hl (by decide) rfl (fun ls hl => ?_)
  exact j_13 ((8 - 0 + 1 : Int)).toNat ⟨by omega, by omega⟩ (0) ⟨by omega, by omega⟩ (by omega) _ _ hW  _ (lv_sub hl [1, 2, 3, 0] rfl)

abbrev M_X6_findLeast : List (Nat × Nat) := [(0, 0), (1, 0), (4, 0), (23, 3), (23, 4), (23, 5), (23, 6), (24, 5)]
set_option maxHeartbeats 4000000 in
set_option maxRecDepth 100000 in
theorem c_X6_findLeast (l : Launch) (g : tf_G) (T : tf_T) (a0 : Nat) (ha0 : T a0 = some (23, 0)) (a1 : Nat) (ha1 : T a1 = some (20, 0)) (a2 : Nat) (ha2 : T a2 = some (24, 0)) (hE : tf_E g T) : Met l yX6_findLeast (cd_X6_findLeast :: wsL_law) ({ frames := 7, cells := 0, slots := 0, locals := 187 }) (tf_P g T [.ref a0, .ref a1, .ref a2] (fun H => True)) (tf_Qv g M_X6_findLeast T (fun _ H => True)) 0 0 (fun q => tf_B g ≤ q) := by
  refine Met.ofW (cc := cX6_findLeast) (maxL := 6) (ret := none) (by decide) rfl ?_
  intro p e s m args below meth c s₁ B hml hv
  obtain ⟨hargs, hk, hW0, hB, hpre⟩ := hv
  have hx := B.exec
  have hb := B.bytes
  have hr := B.returns
  have hts : ∀ w ∈ wsL_law, w.before args s = true := fun w h => atoms_spec (ws := cd_X6_findLeast :: wsL_law) B.pre w (List.mem_cons_of_mem _ h)
  have hown : s.vm.findClass RX6 = some m.cls := findClass_of_methodNamed B.named
  have hlocks := B.notSynchronized
  have hK := hk.1
  have hW := tf_n.start (M := M_X6_findLeast) hW0 hB
  obtain ⟨Q, hQ⟩ : ∃ q, q = MQ below (tf_Qv g M_X6_findLeast T (fun _ H => True)) args s 0 0 (fun q => tf_B g ≤ q) := ⟨_, rfl⟩
  rw [← hQ]
  obtain ⟨R, hR⟩ : ∃ q, q = (headSpec (cd_X6_findLeast :: wsL_law) ({ frames := 7, cells := 0, slots := 0, locals := 187 })).room := ⟨_, rfl⟩
  rw [← hR]
  have hR1 : 7 ≤ R.frames := by rw [hR]; exact Nat.le_refl _
  have hR2 : 187 ≤ R.locals := by rw [hR]; exact Nat.le_refl _
  have hR3 : 0 ≤ R.cells := by rw [hR]; exact Nat.le_refl _
  have hR4 : 0 ≤ R.slots := by rw [hR]; exact Nat.le_refl _
  have hin := (name_of_methodNamed B.named B.method).1
  clear hR B
  have j_20 : ∀ (n_20 : Nat), ∀ (x3_20 : Int), 0 ≤ x3_20 ∧ x3_20 ≤ 2147483647 → ∀ (f3_20 : Int), (-1) ≤ f3_20 ∧ f3_20 ≤ 2147483646 → (2147483647 - x3_20 + 1 ≤ (n_20 : Int)) → ∀ (H : Heap) (locs : List Loc), tf_n tf_kt g M_X6_findLeast T s.heap T H locs → tf_s H a0 (g.1.2 6 3) = some (.int (Int32.ofInt f3_20)) → ∀ (ls : Array Slot), lv_has ls 6 [(0, .ref a0), (1, .ref a1), (2, .ref a2), (3, .int (Int32.ofInt x3_20))] → W p l e R s m args below meth c H locs 0 0 Q (F0 m 20 ls []) := by
    intro n_20
    induction n_20 with
    | zero =>
      intro x3_20 hx3_20 f3_20 hf3_20 hm_20
      exfalso; omega
    | succ n_20 ih_20 =>
      intro x3_20 hx3_20 f3_20 hf3_20 hm_20 H locs hW hs3_20 ls hl
      have j_139 : 0 ≤ x3_20 ∧ x3_20 ≤ 2147483646 → ∀ (f3_139 : Int), 0 ≤ f3_139 ∧ f3_139 ≤ 2147483646 → ∀ (H : Heap) (locs : List Loc), tf_n tf_kt g M_X6_findLeast T s.heap T H locs → tf_s H a0 (g.1.2 6 3) = some (.int (Int32.ofInt f3_139)) → ∀ (ls : Array Slot), lv_has ls 6 [(0, .ref a0), (1, .ref a1), (2, .ref a2), (3, .int (Int32.ofInt x3_20))] → W p l e R s m args below meth c H locs 0 0 Q (F0 m 139 ls []) := by
        intro hx3_139 f3_139 hf3_139 H locs hW hs3_139 ls hl
        refine lv_iinc (v := Int32.ofInt ((x3_20 + 1))) (lv' := [(3, .int (Int32.ofInt ((x3_20 + 1)))), (0, .ref a0), (1, .ref a1), (2, .ref a2)]) hx hb dX6_findLeast_139 hl (k := 3) rfl (Int32.ofInt_add _ _).symm (by decide) rfl (fun ls hl => ?_)
        refine lv_goto (tgt := 20) hx hb dX6_findLeast_142 (by decide) ?_
        exact ih_20 ((x3_20 + 1)) ⟨by omega, by omega⟩ (f3_139) ⟨by omega, by omega⟩ (by omega) _ _ hW hs3_139 _ (lv_sub hl [1, 2, 3, 0] rfl)
      have j_122 : 0 ≤ x3_20 ∧ x3_20 ≤ 2147483646 → ∀ (x4_122 : Int), (-2147483648) ≤ x4_122 ∧ x4_122 ≤ 2147483647 → ∀ (x5_122 : Int), (-2147483648) ≤ x5_122 ∧ x5_122 ≤ 2147483647 → ∀ (H : Heap) (locs : List Loc), tf_n tf_kt g M_X6_findLeast T s.heap T H locs → ∀ (ls : Array Slot), lv_has ls 6 [(0, .ref a0), (1, .ref a1), (2, .ref a2), (3, .int (Int32.ofInt x3_20)), (4, .int (Int32.ofInt x4_122)), (5, .int (Int32.ofInt x5_122))] → W p l e R s m args below meth c H locs 0 0 Q (F0 m 122 ls []) := by
        intro hx3_122 x4_122 hx4_122 x5_122 hx5_122 H locs hW  ls hl
        refine lv_aload_n hx hb dX6_findLeast_122 rfl (lv_at hl 0 rfl) ?_
        refine lv_iload_n hx hb dX6_findLeast_123 rfl (lv_at hl 3 rfl) ?_
        refine tf_put hx hb hts inlX6 tyX6 tyX6_ok nmX6 hown hK (ci := 6) rfl hW ha0 rfl rfl 3 rfl (by decide) (by decide) (hts _ fl_X6_26) rfl (tf_u0 (by omega) (by omega)) rfl rfl dX6_findLeast_124 (fun H1 locs1 hW hs1 ht1 hq1 => ?_)
        refine lv_aload_n hx hb dX6_findLeast_127 rfl (lv_at hl 0 rfl) ?_
        refine lv_iload hx hb dX6_findLeast_128 (lv_at hl 4 rfl) ?_
        refine tf_put hx hb hts inlX6 tyX6 tyX6_ok nmX6 hown hK (ci := 6) rfl hW ha0 rfl rfl 4 rfl (by decide) (by decide) (hts _ fl_X6_30) rfl (tf_u0 (by omega) (by omega)) rfl rfl dX6_findLeast_130 (fun H2 locs2 hW hs2 ht2 hq2 => ?_)
        have hs3 := (ht2 3 (by decide) (by decide)).trans hs1
        refine lv_aload_n hx hb dX6_findLeast_133 rfl (lv_at hl 0 rfl) ?_
        refine lv_iload hx hb dX6_findLeast_134 (lv_at hl 5 rfl) ?_
        refine tf_put hx hb hts inlX6 tyX6 tyX6_ok nmX6 hown hK (ci := 6) rfl hW ha0 rfl rfl 5 rfl (by decide) (by decide) (hts _ fl_X6_33) rfl (tf_u0 (by omega) (by omega)) rfl rfl dX6_findLeast_136 (fun H4 locs4 hW hs4 ht4 hq4 => ?_)
        have hs5 := (ht4 3 (by decide) (by decide)).trans hs3
        exact j_139 ⟨by omega, by omega⟩ (x3_20) ⟨by omega, by omega⟩ _ _ hW hs5 _ (lv_sub hl [0, 1, 2, 3] rfl)
      have j_70 : 0 ≤ x3_20 ∧ x3_20 ≤ 2147483646 → ∀ (x4_70 : Int), (-2147483648) ≤ x4_70 ∧ x4_70 ≤ 2147483647 → ∀ (f3_70 : Int), (-1) ≤ f3_70 ∧ f3_70 ≤ 2147483646 → ∀ (H : Heap) (locs : List Loc), tf_n tf_kt g M_X6_findLeast T s.heap T H locs → tf_s H a0 (g.1.2 6 3) = some (.int (Int32.ofInt f3_70)) → ∀ (ls : Array Slot), lv_has ls 6 [(0, .ref a0), (1, .ref a1), (2, .ref a2), (3, .int (Int32.ofInt x3_20)), (4, .int (Int32.ofInt x4_70))] → W p l e R s m args below meth c H locs 0 0 Q (F0 m 70 ls []) := by
        intro hx3_70 x4_70 hx4_70 f3_70 hf3_70 H locs hW hs3_70 ls hl
        refine lv_aload_n hx hb dX6_findLeast_70 rfl (lv_at hl 0 rfl) ?_
        refine lv_aload_n hx hb dX6_findLeast_71 rfl (lv_at hl 1 rfl) ?_
        refine lv_iload_n hx hb dX6_findLeast_72 rfl (lv_at hl 3 rfl) ?_
        refine tf_callv (va_runV (As := [.ref a1, .int (Int32.ofInt x3_20)]) (rest := []) ⟨hx, hb, hml, hown, hts⟩ (c_X6_doWorks l g T a0 ha0 a1 ha1 (x3_20) ⟨by omega, by omega⟩) (cwV 2 hts gv_X6_117 rfl rfl rfl hd_X6_doWorks ⟨Nat.le_trans (by decide) hR1, Nat.le_trans (by decide) hR2⟩) (tf_preV hk hW ha0 (ci := 6) rfl rfl trivial) rfl rfl hl.1 rfl (lv_room (Nat.le_of_ble_eq_true rfl)) dX6_findLeast_73 ⟨Nat.zero_le _, Nat.zero_le _⟩) hW (by decide) (fun H6 locs6 hW hF6 hp6 => ?_)
        have hs7 := tf_keepF hF6 ha0 rfl rfl (by decide) hs3_70
        refine lv_aload_n hx hb dX6_findLeast_76 rfl (lv_at hl 2 rfl) ?_
        refine lv_aload_n hx hb dX6_findLeast_77 rfl (lv_at hl 1 rfl) ?_
        refine lv_aload_n hx hb dX6_findLeast_78 rfl (lv_at hl 0 rfl) ?_
        refine tf_get hx hb hts inlX6 hown hK (ci := 6) rfl hW ha0 rfl 0 rfl (by decide) (hts _ fl_X6_12) dX6_findLeast_79 (fun v8 hv8 hsv8 => ?_)
        obtain ⟨ad9, rfl, had9⟩ := tf_v1 hv8
        refine tf_calli (va_runV (As := [.ref a1, .ref ad9]) (rest := []) ⟨hx, hb, hml, hown, hts⟩ (c_X7_allOver l g T a2 ha2 a1 ha1 ad9 had9 hE) (cwV 2 hts gv_X6_71 rfl rfl rfl hd_X7_allOver ⟨Nat.le_trans (by decide) hR1, Nat.le_trans (by decide) hR2⟩) (tf_preV hk hW ha2 (ci := 7) rfl rfl trivial) rfl rfl hl.1 rfl (lv_room (Nat.le_of_ble_eq_true rfl)) dX6_findLeast_82 ⟨Nat.zero_le _, Nat.zero_le _⟩) hW (by decide) (fun z10 H10 locs10 hW hF10 hp10 => ?_)
        have hs11 := tf_keepF hF10 ha0 rfl rfl (by decide) hs7
        obtain ⟨hp10_0, hp10_1⟩ := hp10
        refine lv_istore (lv' := [(5, .int (Int32.ofInt z10)), (0, .ref a0), (1, .ref a1), (2, .ref a2), (3, .int (Int32.ofInt x3_20)), (4, .int (Int32.ofInt x4_70))]) hx hb dX6_findLeast_85 hl (by decide) rfl (fun ls hl => ?_)
        refine lv_aload_n hx hb dX6_findLeast_87 rfl (lv_at hl 1 rfl) ?_
        refine tf_get hx hb hts inlX6 hown hK (ci := 6) rfl hW ha0 rfl 3 rfl (by decide) (hts _ fl_X6_26) dX6_findLeast_88 (fun v12 hv12 hsv12 => ?_)
        obtain rfl : v12 = .int (Int32.ofInt f3_70) := Option.some.inj (hsv12.symm.trans hs11)
        refine tf_iconst hx hb dX6_findLeast_91 ?_
        refine tf_icmp_eq (tgt := 122) hx hb ⟨by omega, by omega⟩ ⟨by decide, by decide⟩ dX6_findLeast_92 (by decide) (fun h13 => ?_) (fun h13 => ?_)
        · exact j_122 ⟨by omega, by omega⟩ (x4_70) ⟨by omega, by omega⟩ (z10) ⟨by omega, by omega⟩ _ _ hW  _ (lv_sub hl [1, 2, 3, 4, 5, 0] rfl)
        · refine lv_iload hx hb dX6_findLeast_95 (lv_at hl 0 rfl) ?_
          refine lv_aload_n hx hb dX6_findLeast_97 rfl (lv_at hl 1 rfl) ?_
          refine tf_get hx hb hts inlX6 hown hK (ci := 6) rfl hW ha0 rfl 5 rfl (by decide) (hts _ fl_X6_33) dX6_findLeast_98 (fun v14 hv14 hsv14 => ?_)
          obtain ⟨z15, rfl, hz15⟩ := tf_v0 hv14
          refine tf_icmp_lt (tgt := 122) hx hb ⟨by omega, by omega⟩ ⟨by omega, by omega⟩ dX6_findLeast_101 (by decide) (fun h16 => ?_) (fun h16 => ?_)
          · exact j_122 ⟨by omega, by omega⟩ (x4_70) ⟨by omega, by omega⟩ (z10) ⟨by omega, by omega⟩ _ _ hW  _ (lv_sub hl [1, 2, 3, 4, 5, 0] rfl)
          · refine lv_iload hx hb dX6_findLeast_104 (lv_at hl 0 rfl) ?_
            refine lv_aload_n hx hb dX6_findLeast_106 rfl (lv_at hl 1 rfl) ?_
            refine tf_get hx hb hts inlX6 hown hK (ci := 6) rfl hW ha0 rfl 5 rfl (by decide) (hts _ fl_X6_33) dX6_findLeast_107 (fun v17 hv17 hsv17 => ?_)
            obtain rfl : v17 = .int (Int32.ofInt z15) := Option.some.inj (hsv17.symm.trans hsv14)
            refine tf_icmp_ne (tgt := 139) hx hb ⟨by omega, by omega⟩ ⟨by omega, by omega⟩ dX6_findLeast_110 (by decide) (fun h18 => ?_) (fun h18 => ?_)
            · exact j_139 ⟨by omega, by omega⟩ (f3_70) ⟨by omega, by omega⟩ _ _ hW hs11 _ (lv_sub hl [1, 2, 3, 4] rfl)
            · refine lv_iload hx hb dX6_findLeast_113 (lv_at hl 5 rfl) ?_
              refine lv_aload_n hx hb dX6_findLeast_115 rfl (lv_at hl 1 rfl) ?_
              refine tf_get hx hb hts inlX6 hown hK (ci := 6) rfl hW ha0 rfl 4 rfl (by decide) (hts _ fl_X6_30) dX6_findLeast_116 (fun v19 hv19 hsv19 => ?_)
              obtain ⟨z20, rfl, hz20⟩ := tf_v0 hv19
              refine tf_icmp_ge (tgt := 139) hx hb ⟨by omega, by omega⟩ ⟨by omega, by omega⟩ dX6_findLeast_119 (by decide) (fun h21 => ?_) (fun h21 => ?_)
              · exact j_139 ⟨by omega, by omega⟩ (f3_70) ⟨by omega, by omega⟩ _ _ hW hs11 _ (lv_sub hl [1, 2, 3, 4] rfl)
              · exact j_122 ⟨by omega, by omega⟩ (x4_70) ⟨by omega, by omega⟩ (z10) ⟨by omega, by omega⟩ _ _ hW  _ (lv_sub hl [1, 2, 3, 4, 5, 0] rfl)
      refine lv_iload_n hx hb dX6_findLeast_20 rfl (lv_at hl 3 rfl) ?_
      refine tf_iconst hx hb dX6_findLeast_21 ?_
      refine lv_aload_n hx hb dX6_findLeast_22 rfl (lv_at hl 1 rfl) ?_
      refine tf_get hx hb hts inlX3 hown hK (ci := 3) rfl hW ha1 rfl 2 rfl (by decide) (hts _ fl_X6_103) dX6_findLeast_23 (fun v22 hv22 hsv22 => ?_)
      obtain ⟨ad23, rfl, had23⟩ := tf_v1 hv22
      refine tf_get hx hb hts inlX8 hown hK (ci := 8) rfl hW had23 rfl 4 rfl (by decide) (hts _ fl_X6_107) dX6_findLeast_26 (fun v24 hv24 hsv24 => ?_)
      obtain ⟨z25, rfl, hz25⟩ := tf_v0 hv24
      refine tf_ishl_any hx hb dX6_findLeast_29 (fun z26 hz26 => ?_)
      refine tf_icmp_ge (tgt := 145) hx hb ⟨by omega, by omega⟩ ⟨by omega, by omega⟩ dX6_findLeast_30 (by decide) (fun h27 => ?_) (fun h27 => ?_)
      · exact tf_retv hx hb hr hlocks hQ hW trivial dX6_findLeast_145
      · refine lv_aload_n hx hb dX6_findLeast_33 rfl (lv_at hl 1 rfl) ?_
        refine tf_get hx hb hts inlX3 hown hK (ci := 3) rfl hW ha1 rfl 2 rfl (by decide) (hts _ fl_X6_103) dX6_findLeast_34 (fun v28 hv28 hsv28 => ?_)
        obtain rfl : v28 = .ref ad23 := Option.some.inj (hsv28.symm.trans hsv22)
        refine lv_iload_n hx hb dX6_findLeast_37 rfl (lv_at hl 3 rfl) ?_
        refine tf_calli (va_runV (As := [.int (Int32.ofInt x3_20)]) (rest := []) ⟨hx, hb, hml, hown, hts⟩ (c_X8_coinOf l g T ad23 had23 (x3_20) ⟨by omega, by omega⟩) (cwV 1 hts gv_X6_114 rfl rfl rfl hd_X8_coinOf ⟨Nat.le_trans (by decide) hR1, Nat.le_trans (by decide) hR2⟩) (tf_preV hk hW had23 (ci := 8) rfl rfl trivial) rfl rfl hl.1 rfl (lv_room (Nat.le_of_ble_eq_true rfl)) dX6_findLeast_38 ⟨Nat.zero_le _, Nat.zero_le _⟩) hW (by decide) (fun z29 H29 locs29 hW hF29 hp29 => ?_)
        have hs30 := tf_keepF hF29 ha0 rfl rfl (by decide) hs3_20
        have hs31 := tf_keepF hF29 ha1 rfl rfl (by decide) hsv22
        obtain ⟨hp29_0, hp29_1⟩ := hp29
        refine lv_istore (lv' := [(4, .int (Int32.ofInt z29)), (0, .ref a0), (1, .ref a1), (2, .ref a2), (3, .int (Int32.ofInt x3_20))]) hx hb dX6_findLeast_41 hl (by decide) rfl (fun ls hl => ?_)
        refine lv_aload_n hx hb dX6_findLeast_43 rfl (lv_at hl 1 rfl) ?_
        refine tf_get hx hb hts inlX6 hown hK (ci := 6) rfl hW ha0 rfl 3 rfl (by decide) (hts _ fl_X6_26) dX6_findLeast_44 (fun v32 hv32 hsv32 => ?_)
        obtain rfl : v32 = .int (Int32.ofInt f3_20) := Option.some.inj (hsv32.symm.trans hs30)
        refine tf_iconst hx hb dX6_findLeast_47 ?_
        refine tf_icmp_eq (tgt := 70) hx hb ⟨by omega, by omega⟩ ⟨by decide, by decide⟩ dX6_findLeast_48 (by decide) (fun h33 => ?_) (fun h33 => ?_)
        · exact j_70 ⟨by omega, by omega⟩ (z29) ⟨by omega, by omega⟩ (f3_20) ⟨by omega, by omega⟩ _ _ hW hs30 _ (lv_sub hl [1, 2, 3, 4, 0] rfl)
        · refine lv_aload_n hx hb dX6_findLeast_51 rfl (lv_at hl 1 rfl) ?_
          refine tf_get hx hb hts inlX6 hown hK (ci := 6) rfl hW ha0 rfl 5 rfl (by decide) (hts _ fl_X6_33) dX6_findLeast_52 (fun v34 hv34 hsv34 => ?_)
          obtain ⟨z35, rfl, hz35⟩ := tf_v0 hv34
          refine tf_if_ne (tgt := 70) hx hb ⟨by omega, by omega⟩ dX6_findLeast_55 (by decide) (fun h36 => ?_) (fun h36 => ?_)
          · exact j_70 ⟨by omega, by omega⟩ (z29) ⟨by omega, by omega⟩ (f3_20) ⟨by omega, by omega⟩ _ _ hW hs30 _ (lv_sub hl [1, 2, 3, 4, 0] rfl)
          · refine lv_iload hx hb dX6_findLeast_58 (lv_at hl 0 rfl) ?_
            refine lv_aload_n hx hb dX6_findLeast_60 rfl (lv_at hl 1 rfl) ?_
            refine tf_get hx hb hts inlX6 hown hK (ci := 6) rfl hW ha0 rfl 4 rfl (by decide) (hts _ fl_X6_30) dX6_findLeast_61 (fun v37 hv37 hsv37 => ?_)
            obtain ⟨z38, rfl, hz38⟩ := tf_v0 hv37
            refine tf_icmp_lt (tgt := 70) hx hb ⟨by omega, by omega⟩ ⟨by omega, by omega⟩ dX6_findLeast_64 (by decide) (fun h39 => ?_) (fun h39 => ?_)
            · exact j_70 ⟨by omega, by omega⟩ (z29) ⟨by omega, by omega⟩ (f3_20) ⟨by omega, by omega⟩ _ _ hW hs30 _ (lv_sub hl [1, 2, 3, 4, 0] rfl)
            · refine lv_goto (tgt := 139) hx hb dX6_findLeast_67 (by decide) ?_
              exact j_139 ⟨by omega, by omega⟩ (f3_20) ⟨by omega, by omega⟩ _ _ hW hs30 _ (lv_sub hl [1, 2, 3, 4] rfl)
  refine tf_enter (As := [.ref a0, .ref a1, .ref a2]) hargs (Nat.le_of_ble_eq_true rfl) (fun ls hl => ?_)
  have hl : lv_has ls 6 [(0, .ref a0), (1, .ref a1), (2, .ref a2)] := hl
  refine lv_aload_n hx hb dX6_findLeast_0 rfl (lv_at hl 0 rfl) ?_
  refine tf_get hx hb hts inlX6 hown hK (ci := 6) rfl hW ha0 rfl 6 rfl (by decide) (hts _ fl_X6_36) dX6_findLeast_1 (fun v40 hv40 hsv40 => ?_)
  obtain ⟨z41, rfl, hz41⟩ := tf_v0 hv40
  refine tf_if_eq (tgt := 8) hx hb ⟨by omega, by omega⟩ dX6_findLeast_4 (by decide) (fun h42 => ?_) (fun h42 => ?_)
  · refine lv_aload_n hx hb dX6_findLeast_8 rfl (lv_at hl 0 rfl) ?_
    refine tf_iconst hx hb dX6_findLeast_9 ?_
    refine tf_put hx hb hts inlX6 tyX6 tyX6_ok nmX6 hown hK (ci := 6) rfl hW ha0 rfl rfl 6 rfl (by decide) (by decide) (hts _ fl_X6_36) rfl (tf_u0 (by omega) (by omega)) (tf_narZ (by omega)) (tf_fitZ (by omega)) dX6_findLeast_10 (fun H43 locs43 hW hs43 ht43 hq43 => ?_)
    refine lv_aload_n hx hb dX6_findLeast_13 rfl (lv_at hl 0 rfl) ?_
    refine tf_iconst hx hb dX6_findLeast_14 ?_
    refine tf_put hx hb hts inlX6 tyX6 tyX6_ok nmX6 hown hK (ci := 6) rfl hW ha0 rfl rfl 3 rfl (by decide) (by decide) (hts _ fl_X6_26) rfl (tf_u0 (by omega) (by omega)) rfl rfl dX6_findLeast_15 (fun H44 locs44 hW hs44 ht44 hq44 => ?_)
    refine tf_iconst hx hb dX6_findLeast_18 ?_
    refine lv_istore_n (lv' := [(3, .int (Int32.ofInt 0)), (0, .ref a0), (1, .ref a1), (2, .ref a2)]) hx hb dX6_findLeast_19 rfl hl (by decide) rfl (fun ls hl => ?_)
    exact j_20 ((2147483647 - 0 + 1 : Int)).toNat (0) ⟨by omega, by omega⟩ ((-1)) ⟨by omega, by omega⟩ (by omega) _ _ hW hs44 _ (lv_sub hl [1, 2, 3, 0] rfl)
  · exact tf_retv hx hb hr hlocks hQ hW trivial dX6_findLeast_7

abbrev M_X6_isHurt : List (Nat × Nat) := [(0, 0), (4, 0), (24, 5)]
set_option maxHeartbeats 4000000 in
set_option maxRecDepth 100000 in
theorem c_X6_isHurt (l : Launch) (g : tf_G) (T : tf_T) (a0 : Nat) (ha0 : T a0 = some (23, 0)) (a1 : Nat) (ha1 : T a1 = some (20, 0)) (a2 : Nat) (ha2 : T a2 = some (24, 0)) (x3 : Int) (hp3 : 0 ≤ x3 ∧ x3 ≤ 99) (hE : tf_E g T) : Met l yX6_isHurt (cd_X6_isHurt :: wsL_law) ({ frames := 6, cells := 0, slots := 0, locals := 159 }) (tf_P g T [.ref a0, .ref a1, .ref a2, .int (Int32.ofInt x3)] (fun H => True)) (tf_Qi g M_X6_isHurt T (fun z _ _ => z = 0 ∨ z = 1)) 0 0 (fun q => tf_B g ≤ q) := by
  refine Met.ofW (cc := cX6_isHurt) (maxL := 7) (ret := (some .boolean)) (by decide) rfl ?_
  intro p e s m args below meth c s₁ B hml hv
  obtain ⟨hargs, hk, hW0, hB, hpre⟩ := hv
  have hx := B.exec
  have hb := B.bytes
  have hr := B.returns
  have hts : ∀ w ∈ wsL_law, w.before args s = true := fun w h => atoms_spec (ws := cd_X6_isHurt :: wsL_law) B.pre w (List.mem_cons_of_mem _ h)
  have hown : s.vm.findClass RX6 = some m.cls := findClass_of_methodNamed B.named
  have hlocks := B.notSynchronized
  have hK := hk.1
  have hW := tf_n.start (M := M_X6_isHurt) hW0 hB
  obtain ⟨Q, hQ⟩ : ∃ q, q = MQ below (tf_Qi g M_X6_isHurt T (fun z _ _ => z = 0 ∨ z = 1)) args s 0 0 (fun q => tf_B g ≤ q) := ⟨_, rfl⟩
  rw [← hQ]
  obtain ⟨R, hR⟩ : ∃ q, q = (headSpec (cd_X6_isHurt :: wsL_law) ({ frames := 6, cells := 0, slots := 0, locals := 159 })).room := ⟨_, rfl⟩
  rw [← hR]
  have hR1 : 6 ≤ R.frames := by rw [hR]; exact Nat.le_refl _
  have hR2 : 159 ≤ R.locals := by rw [hR]; exact Nat.le_refl _
  have hR3 : 0 ≤ R.cells := by rw [hR]; exact Nat.le_refl _
  have hR4 : 0 ≤ R.slots := by rw [hR]; exact Nat.le_refl _
  have hin := (name_of_methodNamed B.named B.method).1
  clear hR B
  refine tf_enter (As := [.ref a0, .ref a1, .ref a2, .int (Int32.ofInt x3)]) hargs (Nat.le_of_ble_eq_true rfl) (fun ls hl => ?_)
  have hl : lv_has ls 7 [(0, .ref a0), (1, .ref a1), (2, .ref a2), (3, .int (Int32.ofInt x3))] := hl
  refine lv_iload_n hx hb dX6_isHurt_0 rfl (lv_at hl 3 rfl) ?_
  refine tf_calli (va_runSN (As := [.int (Int32.ofInt x3)]) (rest := []) ⟨hx, hb, hml, hown, hts⟩ (c_X9_spotOf l g T (x3) ⟨by omega, by omega⟩) ⟨va_cnB 1 hts (gw_ws cm_X9_spotOf) rfl rfl rfl (hk.2.1 _ nw_22) (hts _ (tw1 (i := 2) rfl)) hd_X9_spotOf.2 ⟨Nat.le_trans (by decide) hR1, Nat.le_trans (by decide) hR2⟩, hts _ (tw9 (i := 2) rfl), trivial⟩ (tf_preS hk hW trivial) rfl rfl hl.1 rfl (lv_room (Nat.le_of_ble_eq_true rfl)) dX6_isHurt_1 ⟨Nat.zero_le _, Nat.zero_le _⟩) hW (by decide) (fun z1 H1 locs1 hW hF1 hp1 => ?_)
  obtain ⟨hp1_0, hp1_1⟩ := hp1
  refine lv_istore (lv' := [(4, .int (Int32.ofInt z1)), (0, .ref a0), (1, .ref a1), (2, .ref a2), (3, .int (Int32.ofInt x3))]) hx hb dX6_isHurt_4 hl (by decide) rfl (fun ls hl => ?_)
  refine lv_aload_n hx hb dX6_isHurt_6 rfl (lv_at hl 1 rfl) ?_
  refine tf_get hx hb hts inlX6 hown hK (ci := 6) rfl hW ha0 rfl 0 rfl (by decide) (hts _ fl_X6_12) dX6_isHurt_7 (fun v2 hv2 hsv2 => ?_)
  obtain ⟨ad3, rfl, had3⟩ := tf_v1 hv2
  refine tf_get hx hb hts inlX0 hown hK (ci := 0) rfl hW had3 rfl 3 rfl (by decide) (hts _ fl_X6_124) dX6_isHurt_10 (fun v4 hv4 hsv4 => ?_)
  obtain ⟨ad5, rfl, had5⟩ := tf_v1 hv4
  refine lv_iload hx hb dX6_isHurt_13 (lv_at hl 0 rfl) ?_
  refine tf_iald (t0 := 0) hx hb hK hW had5 rfl rfl (by omega) (by omega) dX6_isHurt_15 (fun v6 hv6 hsv6 => ?_)
  obtain ⟨z7, rfl, hz7⟩ := tf_v0 hv6
  refine lv_istore (lv' := [(5, .int (Int32.ofInt z7)), (4, .int (Int32.ofInt z1)), (0, .ref a0), (1, .ref a1), (2, .ref a2), (3, .int (Int32.ofInt x3))]) hx hb dX6_isHurt_16 hl (by decide) rfl (fun ls hl => ?_)
  refine lv_iload hx hb dX6_isHurt_18 (lv_at hl 0 rfl) ?_
  refine tf_iconst hx hb dX6_isHurt_20 ?_
  refine tf_iconst hx hb dX6_isHurt_21 ?_
  refine tf_calli (va_runSN (As := [.int (Int32.ofInt z7), .int (Int32.ofInt 1), .int (Int32.ofInt 3)]) (rest := []) ⟨hx, hb, hml, hown, hts⟩ (c_X9_isWithin l g T (z7) ⟨by omega, by omega⟩ (1) ⟨by omega, by omega⟩ (3) ⟨by omega, by omega⟩) ⟨va_cnB 3 hts (gw_ws cm_X9_isWithin) rfl rfl rfl (hk.2.1 _ nw_21) (hts _ (tw1 (i := 2) rfl)) hd_X9_isWithin.2 ⟨Nat.le_trans (by decide) hR1, Nat.le_trans (by decide) hR2⟩, hts _ (tw8 (i := 17) rfl), trivial⟩ (tf_preS hk hW trivial) rfl rfl hl.1 rfl (lv_room (Nat.le_of_ble_eq_true rfl)) dX6_isHurt_22 ⟨Nat.zero_le _, Nat.zero_le _⟩) hW (by decide) (fun z8 H8 locs8 hW hF8 hp8 => ?_)
  have hs9 := tf_keepF hF8 ha0 rfl rfl (by decide) hsv2
  rcases hp8 with ⟨rfl, h10, h11⟩ | ⟨rfl, h12⟩
  · refine tf_if_ne (tgt := 30) hx hb ⟨by decide, by decide⟩ dX6_isHurt_25 (by decide) (fun h13 => ?_) (fun h13 => ?_)
    · refine lv_aload_n hx hb dX6_isHurt_30 rfl (lv_at hl 3 rfl) ?_
      refine tf_get hx hb hts inlX3 hown hK (ci := 3) rfl hW ha1 rfl 3 rfl (by decide) (hts _ fl_X6_127) dX6_isHurt_31 (fun v14 hv14 hsv14 => ?_)
      obtain ⟨ad15, rfl, had15⟩ := tf_v1 hv14
      refine lv_iload hx hb dX6_isHurt_34 (lv_at hl 0 rfl) ?_
      refine tf_iald (t0 := 0) hx hb hK hW had15 rfl rfl (by omega) (by omega) dX6_isHurt_36 (fun v16 hv16 hsv16 => ?_)
      obtain ⟨z17, rfl, hz17⟩ := tf_v0 hv16
      refine lv_istore (lv' := [(6, .int (Int32.ofInt z17)), (5, .int (Int32.ofInt z7)), (4, .int (Int32.ofInt z1)), (0, .ref a0), (1, .ref a1), (2, .ref a2), (3, .int (Int32.ofInt x3))]) hx hb dX6_isHurt_37 hl (by decide) rfl (fun ls hl => ?_)
      refine lv_aload_n hx hb dX6_isHurt_39 rfl (lv_at hl 5 rfl) ?_
      refine lv_aload_n hx hb dX6_isHurt_40 rfl (lv_at hl 4 rfl) ?_
      refine lv_aload_n hx hb dX6_isHurt_41 rfl (lv_at hl 3 rfl) ?_
      refine tf_get hx hb hts inlX6 hown hK (ci := 6) rfl hW ha0 rfl 0 rfl (by decide) (hts _ fl_X6_12) dX6_isHurt_42 (fun v18 hv18 hsv18 => ?_)
      obtain rfl : v18 = .ref ad3 := Option.some.inj (hsv18.symm.trans hs9)
      refine lv_iload hx hb dX6_isHurt_45 (lv_at hl 2 rfl) ?_
      refine lv_iload hx hb dX6_isHurt_47 (lv_at hl 0 rfl) ?_
      refine tf_calli (va_runV (As := [.ref a1, .ref ad3, .int (Int32.ofInt z1), .int (Int32.ofInt z17)]) (rest := []) ⟨hx, hb, hml, hown, hts⟩ (c_X7_hoursAbove l g T a2 ha2 a1 ha1 ad3 had3 (z1) ⟨by omega, by omega⟩ (z17) ⟨by omega, by omega⟩ hE) (cwV 4 hts gv_X6_130 rfl rfl rfl hd_X7_hoursAbove ⟨Nat.le_trans (by decide) hR1, Nat.le_trans (by decide) hR2⟩) (tf_preV hk hW ha2 (ci := 7) rfl rfl trivial) rfl rfl hl.1 rfl (lv_room (Nat.le_of_ble_eq_true rfl)) dX6_isHurt_49 ⟨Nat.zero_le _, Nat.zero_le _⟩) hW (by decide) (fun z19 H19 locs19 hW hF19 hp19 => ?_)
      have hs20 := tf_keepF hF19 ha0 rfl rfl (by decide) hs9
      obtain ⟨hp19_0, hp19_1⟩ := hp19
      refine lv_aload_n hx hb dX6_isHurt_52 rfl (lv_at hl 5 rfl) ?_
      refine lv_aload_n hx hb dX6_isHurt_53 rfl (lv_at hl 4 rfl) ?_
      refine lv_aload_n hx hb dX6_isHurt_54 rfl (lv_at hl 4 rfl) ?_
      refine tf_get hx hb hts inlX3 hown hK (ci := 3) rfl hW ha1 rfl 0 rfl (by decide) (hts _ fl_X6_62) dX6_isHurt_55 (fun v21 hv21 hsv21 => ?_)
      obtain ⟨ad22, rfl, had22⟩ := tf_v1 hv21
      refine lv_iload hx hb dX6_isHurt_58 (lv_at hl 2 rfl) ?_
      refine lv_iload hx hb dX6_isHurt_60 (lv_at hl 0 rfl) ?_
      refine tf_calli (va_runV (As := [.ref a1, .ref ad22, .int (Int32.ofInt z1), .int (Int32.ofInt z17)]) (rest := [.int (Int32.ofInt z19)]) ⟨hx, hb, hml, hown, hts⟩ (c_X7_hoursAbove l g T a2 ha2 a1 ha1 ad22 had22 (z1) ⟨by omega, by omega⟩ (z17) ⟨by omega, by omega⟩ hE) (cwV 4 hts gv_X6_130 rfl rfl rfl hd_X7_hoursAbove ⟨Nat.le_trans (by decide) hR1, Nat.le_trans (by decide) hR2⟩) (tf_preV hk hW ha2 (ci := 7) rfl rfl trivial) rfl rfl hl.1 rfl (lv_room (Nat.le_of_ble_eq_true rfl)) dX6_isHurt_62 ⟨Nat.zero_le _, Nat.zero_le _⟩) hW (by decide) (fun z23 H23 locs23 hW hF23 hp23 => ?_)
      have hs24 := tf_keepF hF23 ha0 rfl rfl (by decide) hs20
      obtain ⟨hp23_0, hp23_1⟩ := hp23
      refine tf_icmp_le (tgt := 72) hx hb ⟨by omega, by omega⟩ ⟨by omega, by omega⟩ dX6_isHurt_65 (by decide) (fun h25 => ?_) (fun h25 => ?_)
      · refine tf_iconst hx hb dX6_isHurt_72 ?_
        exact tf_retz (z := 0) hx hb hr hlocks hQ hW (by omega) (show (0) = 0 ∨ (0) = 1 by omega) dX6_isHurt_73
      · refine tf_iconst hx hb dX6_isHurt_68 ?_
        refine lv_goto (tgt := 73) hx hb dX6_isHurt_69 (by decide) ?_
        exact tf_retz (z := 1) hx hb hr hlocks hQ hW (by omega) (show (1) = 0 ∨ (1) = 1 by omega) dX6_isHurt_73
    · exfalso; omega
  · refine tf_if_ne (tgt := 30) hx hb ⟨by decide, by decide⟩ dX6_isHurt_25 (by decide) (fun h26 => ?_) (fun h26 => ?_)
    · exfalso; omega
    · refine tf_iconst hx hb dX6_isHurt_28 ?_
      exact tf_retz (z := 0) hx hb hr hlocks hQ hW (by omega) (show (0) = 0 ∨ (0) = 1 by omega) dX6_isHurt_29

abbrev M_X6_hurtCells : List (Nat × Nat) := [(0, 0), (4, 0), (24, 5)]
set_option maxHeartbeats 4000000 in
set_option maxRecDepth 100000 in
theorem c_X6_hurtCells (l : Launch) (g : tf_G) (T : tf_T) (a0 : Nat) (ha0 : T a0 = some (23, 0)) (a1 : Nat) (ha1 : T a1 = some (20, 0)) (a2 : Nat) (ha2 : T a2 = some (24, 0)) (hE : tf_E g T) : Met l yX6_hurtCells (cd_X6_hurtCells :: wsL_law) ({ frames := 7, cells := 0, slots := 0, locals := 185 }) (tf_P g T [.ref a0, .ref a1, .ref a2] (fun H => True)) (tf_Qi g M_X6_hurtCells T (fun z _ _ => (-2147483648) ≤ z ∧ z ≤ 2147483647)) 0 0 (fun q => tf_B g ≤ q) := by
  refine Met.ofW (cc := cX6_hurtCells) (maxL := 5) (ret := (some .int)) (by decide) rfl ?_
  intro p e s m args below meth c s₁ B hml hv
  obtain ⟨hargs, hk, hW0, hB, hpre⟩ := hv
  have hx := B.exec
  have hb := B.bytes
  have hr := B.returns
  have hts : ∀ w ∈ wsL_law, w.before args s = true := fun w h => atoms_spec (ws := cd_X6_hurtCells :: wsL_law) B.pre w (List.mem_cons_of_mem _ h)
  have hown : s.vm.findClass RX6 = some m.cls := findClass_of_methodNamed B.named
  have hlocks := B.notSynchronized
  have hK := hk.1
  have hW := tf_n.start (M := M_X6_hurtCells) hW0 hB
  obtain ⟨Q, hQ⟩ : ∃ q, q = MQ below (tf_Qi g M_X6_hurtCells T (fun z _ _ => (-2147483648) ≤ z ∧ z ≤ 2147483647)) args s 0 0 (fun q => tf_B g ≤ q) := ⟨_, rfl⟩
  rw [← hQ]
  obtain ⟨R, hR⟩ : ∃ q, q = (headSpec (cd_X6_hurtCells :: wsL_law) ({ frames := 7, cells := 0, slots := 0, locals := 185 })).room := ⟨_, rfl⟩
  rw [← hR]
  have hR1 : 7 ≤ R.frames := by rw [hR]; exact Nat.le_refl _
  have hR2 : 185 ≤ R.locals := by rw [hR]; exact Nat.le_refl _
  have hR3 : 0 ≤ R.cells := by rw [hR]; exact Nat.le_refl _
  have hR4 : 0 ≤ R.slots := by rw [hR]; exact Nat.le_refl _
  have hin := (name_of_methodNamed B.named B.method).1
  clear hR B
  have j_5 : ∀ (n_5 : Nat), ∀ (x3_5 : Int), (-2147483648) ≤ x3_5 ∧ x3_5 ≤ 2147483647 → ∀ (x4_5 : Int), 0 ≤ x4_5 ∧ x4_5 ≤ 100 → (100 - x4_5 + 1 ≤ (n_5 : Int)) → ∀ (H : Heap) (locs : List Loc), tf_n tf_kt g M_X6_hurtCells T s.heap T H locs → ∀ (ls : Array Slot), lv_has ls 5 [(0, .ref a0), (1, .ref a1), (2, .ref a2), (3, .int (Int32.ofInt x3_5)), (4, .int (Int32.ofInt x4_5))] → W p l e R s m args below meth c H locs 0 0 Q (F0 m 5 ls []) := by
    intro n_5
    induction n_5 with
    | zero =>
      intro x3_5 hx3_5 x4_5 hx4_5 hm_5
      exfalso; omega
    | succ n_5 ih_5 =>
      intro x3_5 hx3_5 x4_5 hx4_5 hm_5 H locs hW  ls hl
      have j_29 : 0 ≤ x4_5 ∧ x4_5 ≤ 99 → (-2147483648) ≤ x3_5 ∧ x3_5 ≤ 2147483647 → ∀ (y1_29 : Int), 0 ≤ y1_29 ∧ y1_29 ≤ 1 → ∀ (H : Heap) (locs : List Loc), tf_n tf_kt g M_X6_hurtCells T s.heap T H locs → ∀ (ls : Array Slot), lv_has ls 5 [(0, .ref a0), (1, .ref a1), (2, .ref a2), (4, .int (Int32.ofInt x4_5))] → W p l e R s m args below meth c H locs 0 0 Q (F0 m 29 ls [.int (Int32.ofInt y1_29), .int (Int32.ofInt x3_5)]) := by
        intro hx4_29 hy0_29 y1_29 hy1_29 H locs hW  ls hl
        refine tf_iadd_any hx hb dX6_hurtCells_29 (fun z1 hz1 => ?_)
        refine lv_istore_n (lv' := [(3, .int (Int32.ofInt z1)), (0, .ref a0), (1, .ref a1), (2, .ref a2), (4, .int (Int32.ofInt x4_5))]) hx hb dX6_hurtCells_30 rfl hl (by decide) rfl (fun ls hl => ?_)
        refine lv_iinc (v := Int32.ofInt ((x4_5 + 1))) (lv' := [(4, .int (Int32.ofInt ((x4_5 + 1)))), (3, .int (Int32.ofInt z1)), (0, .ref a0), (1, .ref a1), (2, .ref a2)]) hx hb dX6_hurtCells_31 hl (k := 4) rfl (Int32.ofInt_add _ _).symm (by decide) rfl (fun ls hl => ?_)
        refine lv_goto (tgt := 5) hx hb dX6_hurtCells_34 (by decide) ?_
        exact ih_5 (z1) ⟨by omega, by omega⟩ ((x4_5 + 1)) ⟨by omega, by omega⟩ (by omega) _ _ hW  _ (lv_sub hl [2, 3, 4, 1, 0] rfl)
      refine lv_iload hx hb dX6_hurtCells_5 (lv_at hl 4 rfl) ?_
      refine tf_bipush hx hb dX6_hurtCells_7 (by decide) ?_
      refine tf_icmp_ge (tgt := 37) hx hb ⟨by omega, by omega⟩ ⟨by decide, by decide⟩ dX6_hurtCells_9 (by decide) (fun h2 => ?_) (fun h2 => ?_)
      · refine lv_iload_n hx hb dX6_hurtCells_37 rfl (lv_at hl 3 rfl) ?_
        exact tf_reti (z := x3_5) hx hb hr hlocks hQ hW (show (-2147483648) ≤ (x3_5) ∧ (x3_5) ≤ 2147483647 by omega) dX6_hurtCells_38
      · refine lv_iload_n hx hb dX6_hurtCells_12 rfl (lv_at hl 3 rfl) ?_
        refine lv_aload_n hx hb dX6_hurtCells_13 rfl (lv_at hl 0 rfl) ?_
        refine lv_aload_n hx hb dX6_hurtCells_14 rfl (lv_at hl 1 rfl) ?_
        refine lv_aload_n hx hb dX6_hurtCells_15 rfl (lv_at hl 2 rfl) ?_
        refine lv_iload hx hb dX6_hurtCells_16 (lv_at hl 4 rfl) ?_
        refine tf_calli (va_runV (As := [.ref a1, .ref a2, .int (Int32.ofInt x4_5)]) (rest := [.int (Int32.ofInt x3_5)]) ⟨hx, hb, hml, hown, hts⟩ (c_X6_isHurt l g T a0 ha0 a1 ha1 a2 ha2 (x4_5) ⟨by omega, by omega⟩ hE) (cwV 3 hts gv_X6_134 rfl rfl rfl hd_X6_isHurt ⟨Nat.le_trans (by decide) hR1, Nat.le_trans (by decide) hR2⟩) (tf_preV hk hW ha0 (ci := 6) rfl rfl trivial) rfl rfl hl.1 rfl (lv_room (Nat.le_of_ble_eq_true rfl)) dX6_hurtCells_18 ⟨Nat.zero_le _, Nat.zero_le _⟩) hW (by decide) (fun z3 H3 locs3 hW hF3 hp3 => ?_)
        have hp3 : z3 = 0 ∨ z3 = 1 := hp3
        refine tf_if_eq (tgt := 28) hx hb ⟨by omega, by omega⟩ dX6_hurtCells_21 (by decide) (fun h4 => ?_) (fun h4 => ?_)
        · refine tf_iconst hx hb dX6_hurtCells_28 ?_
          exact j_29 ⟨by omega, by omega⟩ ⟨by omega, by omega⟩ (0) ⟨by omega, by omega⟩ _ _ hW  _ (lv_sub hl [0, 1, 2, 4] rfl)
        · refine tf_iconst hx hb dX6_hurtCells_24 ?_
          refine lv_goto (tgt := 29) hx hb dX6_hurtCells_25 (by decide) ?_
          exact j_29 ⟨by omega, by omega⟩ ⟨by omega, by omega⟩ (1) ⟨by omega, by omega⟩ _ _ hW  _ (lv_sub hl [0, 1, 2, 4] rfl)
  refine tf_enter (As := [.ref a0, .ref a1, .ref a2]) hargs (Nat.le_of_ble_eq_true rfl) (fun ls hl => ?_)
  have hl : lv_has ls 5 [(0, .ref a0), (1, .ref a1), (2, .ref a2)] := hl
  refine tf_iconst hx hb dX6_hurtCells_0 ?_
  refine lv_istore_n (lv' := [(3, .int (Int32.ofInt 0)), (0, .ref a0), (1, .ref a1), (2, .ref a2)]) hx hb dX6_hurtCells_1 rfl hl (by decide) rfl (fun ls hl => ?_)
  refine tf_iconst hx hb dX6_hurtCells_2 ?_
  refine lv_istore (lv' := [(4, .int (Int32.ofInt 0)), (3, .int (Int32.ofInt 0)), (0, .ref a0), (1, .ref a1), (2, .ref a2)]) hx hb dX6_hurtCells_3 hl (by decide) rfl (fun ls hl => ?_)
  exact j_5 ((100 - 0 + 1 : Int)).toNat (0) ⟨by omega, by omega⟩ (0) ⟨by omega, by omega⟩ (by omega) _ _ hW  _ (lv_sub hl [2, 3, 4, 1, 0] rfl)

abbrev M_X6_lowestHurt : List (Nat × Nat) := [(0, 0), (4, 0), (24, 5)]
set_option maxHeartbeats 4000000 in
set_option maxRecDepth 100000 in
theorem c_X6_lowestHurt (l : Launch) (g : tf_G) (T : tf_T) (a0 : Nat) (ha0 : T a0 = some (23, 0)) (a1 : Nat) (ha1 : T a1 = some (20, 0)) (a2 : Nat) (ha2 : T a2 = some (24, 0)) (hE : tf_E g T) : Met l yX6_lowestHurt (cd_X6_lowestHurt :: wsL_law) ({ frames := 7, cells := 0, slots := 0, locals := 185 }) (tf_P g T [.ref a0, .ref a1, .ref a2] (fun H => True)) (tf_Qi g M_X6_lowestHurt T (fun z _ _ => (-2147483648) ≤ z ∧ z ≤ 2147483647)) 0 0 (fun q => tf_B g ≤ q) := by
  refine Met.ofW (cc := cX6_lowestHurt) (maxL := 4) (ret := (some .int)) (by decide) rfl ?_
  intro p e s m args below meth c s₁ B hml hv
  obtain ⟨hargs, hk, hW0, hB, hpre⟩ := hv
  have hx := B.exec
  have hb := B.bytes
  have hr := B.returns
  have hts : ∀ w ∈ wsL_law, w.before args s = true := fun w h => atoms_spec (ws := cd_X6_lowestHurt :: wsL_law) B.pre w (List.mem_cons_of_mem _ h)
  have hown : s.vm.findClass RX6 = some m.cls := findClass_of_methodNamed B.named
  have hlocks := B.notSynchronized
  have hK := hk.1
  have hW := tf_n.start (M := M_X6_lowestHurt) hW0 hB
  obtain ⟨Q, hQ⟩ : ∃ q, q = MQ below (tf_Qi g M_X6_lowestHurt T (fun z _ _ => (-2147483648) ≤ z ∧ z ≤ 2147483647)) args s 0 0 (fun q => tf_B g ≤ q) := ⟨_, rfl⟩
  rw [← hQ]
  obtain ⟨R, hR⟩ : ∃ q, q = (headSpec (cd_X6_lowestHurt :: wsL_law) ({ frames := 7, cells := 0, slots := 0, locals := 185 })).room := ⟨_, rfl⟩
  rw [← hR]
  have hR1 : 7 ≤ R.frames := by rw [hR]; exact Nat.le_refl _
  have hR2 : 185 ≤ R.locals := by rw [hR]; exact Nat.le_refl _
  have hR3 : 0 ≤ R.cells := by rw [hR]; exact Nat.le_refl _
  have hR4 : 0 ≤ R.slots := by rw [hR]; exact Nat.le_refl _
  have hin := (name_of_methodNamed B.named B.method).1
  clear hR B
  have j_2 : ∀ (n_2 : Nat), ∀ (x3_2 : Int), 0 ≤ x3_2 ∧ x3_2 ≤ 100 → (100 - x3_2 + 1 ≤ (n_2 : Int)) → ∀ (H : Heap) (locs : List Loc), tf_n tf_kt g M_X6_lowestHurt T s.heap T H locs → ∀ (ls : Array Slot), lv_has ls 4 [(0, .ref a0), (1, .ref a1), (2, .ref a2), (3, .int (Int32.ofInt x3_2))] → W p l e R s m args below meth c H locs 0 0 Q (F0 m 2 ls []) := by
    intro n_2
    induction n_2 with
    | zero =>
      intro x3_2 hx3_2 hm_2
      exfalso; omega
    | succ n_2 ih_2 =>
      intro x3_2 hx3_2 hm_2 H locs hW  ls hl
      refine lv_iload_n hx hb dX6_lowestHurt_2 rfl (lv_at hl 3 rfl) ?_
      refine tf_bipush hx hb dX6_lowestHurt_3 (by decide) ?_
      refine tf_icmp_ge (tgt := 26) hx hb ⟨by omega, by omega⟩ ⟨by decide, by decide⟩ dX6_lowestHurt_5 (by decide) (fun h1 => ?_) (fun h1 => ?_)
      · refine tf_iconst hx hb dX6_lowestHurt_26 ?_
        exact tf_reti (z := (-1)) hx hb hr hlocks hQ hW (show (-2147483648) ≤ ((-1)) ∧ ((-1)) ≤ 2147483647 by omega) dX6_lowestHurt_27
      · refine lv_aload_n hx hb dX6_lowestHurt_8 rfl (lv_at hl 0 rfl) ?_
        refine lv_aload_n hx hb dX6_lowestHurt_9 rfl (lv_at hl 1 rfl) ?_
        refine lv_aload_n hx hb dX6_lowestHurt_10 rfl (lv_at hl 2 rfl) ?_
        refine lv_iload_n hx hb dX6_lowestHurt_11 rfl (lv_at hl 3 rfl) ?_
        refine tf_calli (va_runV (As := [.ref a1, .ref a2, .int (Int32.ofInt x3_2)]) (rest := []) ⟨hx, hb, hml, hown, hts⟩ (c_X6_isHurt l g T a0 ha0 a1 ha1 a2 ha2 (x3_2) ⟨by omega, by omega⟩ hE) (cwV 3 hts gv_X6_134 rfl rfl rfl hd_X6_isHurt ⟨Nat.le_trans (by decide) hR1, Nat.le_trans (by decide) hR2⟩) (tf_preV hk hW ha0 (ci := 6) rfl rfl trivial) rfl rfl hl.1 rfl (lv_room (Nat.le_of_ble_eq_true rfl)) dX6_lowestHurt_12 ⟨Nat.zero_le _, Nat.zero_le _⟩) hW (by decide) (fun z2 H2 locs2 hW hF2 hp2 => ?_)
        have hp2 : z2 = 0 ∨ z2 = 1 := hp2
        refine tf_if_eq (tgt := 20) hx hb ⟨by omega, by omega⟩ dX6_lowestHurt_15 (by decide) (fun h3 => ?_) (fun h3 => ?_)
        · refine lv_iinc (v := Int32.ofInt ((x3_2 + 1))) (lv' := [(3, .int (Int32.ofInt ((x3_2 + 1)))), (0, .ref a0), (1, .ref a1), (2, .ref a2)]) hx hb dX6_lowestHurt_20 hl (k := 3) rfl (Int32.ofInt_add _ _).symm (by decide) rfl (fun ls hl => ?_)
          refine lv_goto (tgt := 2) hx hb dX6_lowestHurt_23 (by decide) ?_
          exact ih_2 ((x3_2 + 1)) ⟨by omega, by omega⟩ (by omega) _ _ hW  _ (lv_sub hl [1, 2, 3, 0] rfl)
        · refine lv_iload_n hx hb dX6_lowestHurt_18 rfl (lv_at hl 3 rfl) ?_
          exact tf_reti (z := x3_2) hx hb hr hlocks hQ hW (show (-2147483648) ≤ (x3_2) ∧ (x3_2) ≤ 2147483647 by omega) dX6_lowestHurt_19
  refine tf_enter (As := [.ref a0, .ref a1, .ref a2]) hargs (Nat.le_of_ble_eq_true rfl) (fun ls hl => ?_)
  have hl : lv_has ls 4 [(0, .ref a0), (1, .ref a1), (2, .ref a2)] := hl
  refine tf_iconst hx hb dX6_lowestHurt_0 ?_
  refine lv_istore_n (lv' := [(3, .int (Int32.ofInt 0)), (0, .ref a0), (1, .ref a1), (2, .ref a2)]) hx hb dX6_lowestHurt_1 rfl hl (by decide) rfl (fun ls hl => ?_)
  exact j_2 ((100 - 0 + 1 : Int)).toNat (0) ⟨by omega, by omega⟩ (by omega) _ _ hW  _ (lv_sub hl [1, 2, 3, 0] rfl)

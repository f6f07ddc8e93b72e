
abbrev M_X2_read : List (Nat × Nat) := [(0, 0), (10, 0), (19, 1), (19, 4), (19, 5), (19, 6), (19, 7), (21, 2), (21, 3), (21, 4), (52, 0), (52, 1)]
set_option maxHeartbeats 4000000 in
set_option maxRecDepth 100000 in
theorem c_X2_read (l : Launch) (g : tf_G) (T : tf_T) (a0 : Nat) (ha0 : T a0 = some (19, 0)) (a1 : Nat) (ha1 : T a1 = some (3, 400)) (x2 : Int) (hp2 : (-2147483648) ≤ x2 ∧ x2 ≤ 2147483647) (t0 : Nat) (ht0 : T t0 = some (21, 0)) : Met l yX2_read (cd_X2_read :: wsL_law) ({ frames := 72, cells := 3, slots := 804, locals := 1114 }) (tf_P g T [.ref a0, .ref a1, .int (Int32.ofInt x2)] (fun H => tf_s H a0 (g.1.2 2 3) = some (.ref t0))) (tf_QA g M_X2_read T (fun T z _ _ => tf_v T 0 (2, 18, 0, 0, 0) z)) 3 804 (fun q => tf_B g ≤ q) := by
  refine Met.ofW (cc := cX2_read) (maxL := 4) (ret := (some (.object "TowerFoot$Law"))) (by decide) rfl ?_
  intro p e s m args below meth c s₁ B hml hv
  obtain ⟨hargs, hk, hW0, hB, hpre⟩ := hv
  have he0 := hpre
  have hx := B.exec
  have hb := B.bytes
  have hr := B.returns
  have hts : ∀ w ∈ wsL_law, w.before args s = true := fun w h => atoms_spec (ws := cd_X2_read :: wsL_law) B.pre w (List.mem_cons_of_mem _ h)
  have hown : s.vm.findClass RX2 = some m.cls := findClass_of_methodNamed B.named
  have hlocks := B.notSynchronized
  have hK := hk.1
  have hW := tf_n.start (M := M_X2_read) hW0 hB
  obtain ⟨Q, hQ⟩ : ∃ q, q = MQ below (tf_QA g M_X2_read T (fun T z _ _ => tf_v T 0 (2, 18, 0, 0, 0) z)) args s 3 804 (fun q => tf_B g ≤ q) := ⟨_, rfl⟩
  rw [← hQ]
  obtain ⟨R, hR⟩ : ∃ q, q = (headSpec (cd_X2_read :: wsL_law) ({ frames := 72, cells := 3, slots := 804, locals := 1114 })).room := ⟨_, rfl⟩
  rw [← hR]
  have hR1 : 72 ≤ R.frames := by rw [hR]; exact Nat.le_refl _
  have hR2 : 1114 ≤ R.locals := by rw [hR]; exact Nat.le_refl _
  have hR3 : 3 ≤ R.cells := by rw [hR]; exact Nat.le_refl _
  have hR4 : 804 ≤ R.slots := by rw [hR]; exact Nat.le_refl _
  have hin := (name_of_methodNamed B.named B.method).1
  clear hR B
  have j_44 : ∀ (n_44 : Nat), ∀ (x3_44 : Int), 0 ≤ x3_44 ∧ x3_44 ≤ 12 → ∀ (f2_44 : Int), 1 ≤ f2_44 ∧ f2_44 ≤ 401 → (12 - x3_44 + 1 ≤ (n_44 : Int)) → ∀ (H : Heap) (locs : List Loc), tf_n tf_kt g M_X2_read T s.heap T H locs → tf_s H a0 (g.1.2 2 3) = some (.ref t0) → tf_s H t0 (g.1.2 4 2) = some (.int (Int32.ofInt f2_44)) → ∀ (ls : Array Slot), lv_has ls 4 [(0, .ref a0), (3, .int (Int32.ofInt x3_44))] → W p l e R s m args below meth c H locs 0 0 Q (F0 m 44 ls []) := by
    intro n_44
    induction n_44 with
    | zero =>
      intro x3_44 hx3_44 f2_44 hf2_44 hm_44
      exfalso; omega
    | succ n_44 ih_44 =>
      intro x3_44 hx3_44 f2_44 hf2_44 hm_44 H locs hW hs3_44 hs2_44 ls hl
      refine lv_iload_n hx hb dX2_read_44 rfl (lv_at hl 1 rfl) ?_
      refine tf_bipush hx hb dX2_read_45 (by decide) ?_
      refine tf_icmp_ge (tgt := 116) hx hb ⟨by omega, by omega⟩ ⟨by decide, by decide⟩ dX2_read_47 (by decide) (fun h1 => ?_) (fun h1 => ?_)
      · refine lv_aload_n hx hb dX2_read_116 rfl (lv_at hl 0 rfl) ?_
        refine tf_calli (va_runV (As := []) (rest := []) ⟨hx, hb, hml, hown, hts⟩ (c_X2_failHere l g T a0 ha0) (cwV 0 hts gv_X2_66 rfl rfl rfl hd_X2_failHere ⟨Nat.le_trans (by decide) hR1, Nat.le_trans (by decide) hR2⟩) (tf_preV hk hW ha0 (ci := 2) rfl rfl trivial) rfl rfl hl.1 rfl (lv_room (Nat.le_of_ble_eq_true rfl)) dX2_read_117 ⟨Nat.le_trans (by omega) hR3, Nat.le_trans (by omega) hR4⟩) hW (by decide) (fun z2 H2 locs2 hW hF2 hp2 => ?_)
        have hs3 := tf_keepF hF2 ha0 rfl rfl (by decide) hs3_44
        have hs4 := tf_keepF hF2 ht0 rfl rfl (by decide) hs2_44
        have hp2 : z2 = 0 ∨ z2 = 1 := hp2
        refine lv_pop hx hb dX2_read_120 rfl ?_
        refine lv_null hx hb dX2_read_121 ?_
        refine W.widen (k := 3) (n := 804) (by omega) (by omega) ?_
        exact tf_retA hx hb hr (by first | exact Or.inl ⟨_, rfl⟩ | exact Or.inr ⟨_, rfl⟩) (Or.inl rfl) hlocks hQ hW tf_u2n dX2_read_122
      · refine lv_aload_n hx hb dX2_read_50 rfl (lv_at hl 0 rfl) ?_
        refine lv_iload_n hx hb dX2_read_51 rfl (lv_at hl 1 rfl) ?_
        refine tf_calli (va_runV (As := [.int (Int32.ofInt x3_44)]) (rest := []) ⟨hx, hb, hml, hown, hts⟩ (c_X2_readClause l g T a0 ha0 (x3_44) ⟨by omega, by omega⟩ t0 ht0) (cwV 1 hts gv_X2_48 rfl rfl rfl hd_X2_readClause ⟨Nat.le_trans (by decide) hR1, Nat.le_trans (by decide) hR2⟩) (tf_preV hk hW ha0 (ci := 2) rfl rfl ⟨hs3_44, ⟨_, hs2_44, by omega, by omega⟩⟩) rfl rfl hl.1 rfl (lv_room (Nat.le_of_ble_eq_true rfl)) dX2_read_52 ⟨Nat.le_trans (by omega) hR3, Nat.le_trans (by omega) hR4⟩) hW (by decide) (fun z5 H5 locs5 hW hF5 hp5 => ?_)
        have hs6 := tf_keepF hF5 ha0 rfl rfl (by decide) hs3_44
        have hs7 := tf_keepF hF5 ht0 rfl rfl (by decide) hs2_44
        have hp5 : z5 = 0 ∨ z5 = 1 := hp5
        refine tf_if_ne (tgt := 60) hx hb ⟨by omega, by omega⟩ dX2_read_55 (by decide) (fun h8 => ?_) (fun h8 => ?_)
        · refine lv_aload_n hx hb dX2_read_60 rfl (lv_at hl 0 rfl) ?_
          refine tf_get hx hb hts inlX2 hown hK (ci := 2) rfl hW ha0 rfl 5 rfl (by decide) (hts _ fl_X2_32) dX2_read_61 (fun v9 hv9 hsv9 => ?_)
          obtain ⟨z10, rfl, hz10⟩ := tf_v0 hv9
          refine tf_if_ne (tgt := 98) hx hb ⟨by omega, by omega⟩ dX2_read_64 (by decide) (fun h11 => ?_) (fun h11 => ?_)
          · refine lv_aload_n hx hb dX2_read_98 rfl (lv_at hl 0 rfl) ?_
            refine tf_sipush hx hb dX2_read_99 (by decide) ?_
            refine tf_calli (va_runV (As := [.int (Int32.ofInt 1059)]) (rest := []) ⟨hx, hb, hml, hown, hts⟩ (c_X2_pass l g T a0 ha0 (1059) ⟨by omega, by omega⟩ t0 ht0) (cwV 1 hts gv_X2_63 rfl rfl rfl hd_X2_pass ⟨Nat.le_trans (by decide) hR1, Nat.le_trans (by decide) hR2⟩) (tf_preV hk hW ha0 (ci := 2) rfl rfl ⟨hs6, ⟨_, hs7, by omega, by omega⟩⟩) rfl rfl hl.1 rfl (lv_room (Nat.le_of_ble_eq_true rfl)) dX2_read_102 ⟨Nat.le_trans (by omega) hR3, Nat.le_trans (by omega) hR4⟩) hW (by decide) (fun z12 H12 locs12 hW hF12 hp12 => ?_)
            have hs13 := tf_keepF hF12 ha0 rfl rfl (by decide) hs6
            have hs14 := tf_keepF hF12 ht0 rfl rfl (by decide) hs7
            have hp12 : z12 = 0 ∨ z12 = 1 := hp12
            refine tf_if_ne (tgt := 110) hx hb ⟨by omega, by omega⟩ dX2_read_105 (by decide) (fun h15 => ?_) (fun h15 => ?_)
            · refine lv_iinc (v := Int32.ofInt ((x3_44 + 1))) (lv' := [(3, .int (Int32.ofInt ((x3_44 + 1)))), (0, .ref a0)]) hx hb dX2_read_110 hl (k := 1) rfl (Int32.ofInt_add _ _).symm (by decide) rfl (fun ls hl => ?_)
              refine lv_goto (tgt := 44) hx hb dX2_read_113 (by decide) ?_
              exact ih_44 ((x3_44 + 1)) ⟨by omega, by omega⟩ (f2_44) ⟨by omega, by omega⟩ (by omega) _ _ hW hs13 hs14 _ (lv_sub hl [1, 0] rfl)
            · refine lv_null hx hb dX2_read_108 ?_
              refine W.widen (k := 3) (n := 804) (by omega) (by omega) ?_
              exact tf_retA hx hb hr (by first | exact Or.inl ⟨_, rfl⟩ | exact Or.inr ⟨_, rfl⟩) (Or.inl rfl) hlocks hQ hW tf_u2n dX2_read_109
          · have hsz16 := hW.2.2.1.1
            refine tf_new (kr := 52) hx hb hts inlX1 tyX1 tyX1_ok hown (hts _ (tw20 (i := 3) rfl)) (hts _ (tw20 (i := 4) rfl)) (hts _ (tw20 (i := 5) rfl)) hK (ci := 1) rfl hW rfl ⟨rfl, by decide⟩ (Nat.le_trans (by omega) hR3) (Nat.le_trans (by omega) hR4) dX2_read_67 (fun ad16 H16 T hq16 hT16 had16 hE16 hW ho16 => ?_)
            have hsz16 := Nat.le_trans hsz16 (Nat.le_of_eq hq16)
            have hs17 := tf_keepQ hs6 (ho16 _ _ ha0)
            have hs18 := tf_keepQ hs7 (ho16 _ _ ht0)
            have ha0 := hE16 _ _ ha0
            have ha1 := hE16 _ _ ha1
            have ht0 := hE16 _ _ ht0
            refine lv_dup hx hb dX2_read_70 rfl ?_
            refine lv_aload_n hx hb dX2_read_71 rfl (lv_at hl 0 rfl) ?_
            refine tf_get hx hb hts inlX2 hown hK (ci := 2) rfl hW ha0 rfl 0 rfl (by decide) (hts _ fl_X2_9) dX2_read_72 (fun v19 hv19 hsv19 => ?_)
            obtain ⟨ad20, rfl, had20⟩ := tf_v1 hv19
            refine lv_aload_n hx hb dX2_read_75 rfl (lv_at hl 0 rfl) ?_
            refine tf_get hx hb hts inlX2 hown hK (ci := 2) rfl hW ha0 rfl 1 rfl (by decide) (hts _ fl_X2_15) dX2_read_76 (fun v21 hv21 hsv21 => ?_)
            obtain ⟨z22, rfl, hz22⟩ := tf_v0 hv21
            refine tf_callA (va_runS (As := [.ref ad20, .int (Int32.ofInt z22)]) (rest := [.ref ad16, .ref ad16]) ⟨hx, hb, hml, hown, hts⟩ (c_J7_copyOf_59c91 l g T ad20 401 had20 (by omega) (z22) ⟨by omega, by omega⟩) ⟨callB_of 2 hts (gw_ws cm_J7_copyOf_59c91) rfl rfl rfl (hts _ (tw26 (i := 8) rfl)) (hts _ (tw26 (i := 6) rfl)) hd_J7_copyOf_59c91.2 ⟨Nat.le_trans (by decide) hR1, Nat.le_trans (by decide) hR2⟩, hts _ (tw26 (i := 7) rfl)⟩ (tf_preS hk hW trivial) rfl rfl hl.1 rfl (lv_room (Nat.le_of_ble_eq_true rfl)) dX2_read_79 ⟨Nat.le_trans (by omega) hR3, Nat.le_trans (by omega) hR4⟩) hW (by decide) (fun z23 H23 locs23 T hW hE23 hF23 hp23 => ?_)
            have hs24 := tf_keepF hF23 ha0 rfl rfl (by decide) hs17
            have hs25 := tf_keepF hF23 ht0 rfl rfl (by decide) hs18
            have ha0 := hE23 _ _ ha0
            have ha1 := hE23 _ _ ha1
            have had16 := hE23 _ _ had16
            have ht0 := hE23 _ _ ht0
            have hv23 : tf_v T 0 (3, 10, 401, 0, 0) z23 := hp23
            obtain ⟨ad26, il26, rfl, had26, hil26⟩ := tf_v3 hv23
            refine lv_aload_n hx hb dX2_read_82 rfl (lv_at hl 0 rfl) ?_
            refine tf_get hx hb hts inlX2 hown hK (ci := 2) rfl hW ha0 rfl 2 rfl (by decide) (hts _ fl_X2_19) dX2_read_83 (fun v27 hv27 hsv27 => ?_)
            obtain ⟨ad28, rfl, had28⟩ := tf_v1 hv27
            refine tf_iconst hx hb dX2_read_86 ?_
            refine lv_iload_n hx hb dX2_read_87 rfl (lv_at hl 1 rfl) ?_
            refine tf_imul hx hb dX2_read_88 ?_
            refine tf_iconst hx hb dX2_read_89 ?_
            refine tf_iadd hx hb dX2_read_90 ?_
            refine tf_callA (va_runS (As := [.ref ad28, .int (Int32.ofInt (((2 * x3_44) + 3)))]) (rest := [.ref ad26, .ref ad16, .ref ad16]) ⟨hx, hb, hml, hown, hts⟩ (c_J7_copyOf_59c91 l g T ad28 25 had28 (by omega) (((2 * x3_44) + 3)) ⟨by omega, by omega⟩) ⟨callB_of 2 hts (gw_ws cm_J7_copyOf_59c91) rfl rfl rfl (hts _ (tw26 (i := 8) rfl)) (hts _ (tw26 (i := 6) rfl)) hd_J7_copyOf_59c91.2 ⟨Nat.le_trans (by decide) hR1, Nat.le_trans (by decide) hR2⟩, hts _ (tw26 (i := 7) rfl)⟩ (tf_preS hk hW trivial) rfl rfl hl.1 rfl (lv_room (Nat.le_of_ble_eq_true rfl)) dX2_read_91 ⟨Nat.le_trans (by omega) hR3, Nat.le_trans (by omega) hR4⟩) hW (by decide) (fun z29 H29 locs29 T hW hE29 hF29 hp29 => ?_)
            have hs30 := tf_keepF hF29 ha0 rfl rfl (by decide) hs24
            have hs31 := tf_keepF hF29 ht0 rfl rfl (by decide) hs25
            have ha0 := hE29 _ _ ha0
            have ha1 := hE29 _ _ ha1
            have had16 := hE29 _ _ had16
            have had26 := hE29 _ _ had26
            have ht0 := hE29 _ _ ht0
            have hv29 : tf_v T 0 (3, 10, 401, 0, 0) z29 := hp29
            obtain ⟨ad32, il32, rfl, had32, hil32⟩ := tf_v3 hv29
            refine tf_callC (va_runI (As := [.ref ad26, .ref ad32]) (rest := [.ref ad16]) ⟨hx, hb, hml, hown, hts⟩ (c_X1_init l g T ad16 had16 ad26 il26 had26 (by omega) ad32 il32 had32 (by omega)) ⟨callB_of 2 hts (gw_ws cm_X1_init) rfl rfl rfl (hts _ (tw20 (i := 5) rfl)) (hts _ (tw26 (i := 21) rfl)) hd_X1_init.2 ⟨Nat.le_trans (by decide) hR1, Nat.le_trans (by decide) hR2⟩, rfl, hts _ (tw26 (i := 22) rfl)⟩ (tf_preS hk hW trivial) rfl rfl hl.1 rfl (lv_room (Nat.le_of_ble_eq_true rfl)) dX2_read_94 ⟨Nat.le_trans (by omega) hR3, Nat.le_trans (by omega) hR4⟩) hW (by decide) (tf_fresh hW0 hsz16) hsz16 had16 (fun H33 locs33 T hW hn33 hE33 hF33 => ?_)
            have hs34 := tf_keepF hF33 ha0 rfl rfl (by decide) hs30
            have hs35 := tf_keepF hF33 ht0 rfl rfl (by decide) hs31
            have ha0 := hE33 _ _ (tf_ne ha0 had16 (by decide)) ha0
            have ha1 := hE33 _ _ (tf_ne ha1 had16 (by decide)) ha1
            have ht0 := hE33 _ _ (tf_ne ht0 had16 (by decide)) ht0
            refine W.widen (k := 3) (n := 804) (by omega) (by omega) ?_
            exact tf_retA hx hb hr (by first | exact Or.inl ⟨_, rfl⟩ | exact Or.inr ⟨_, rfl⟩) (Or.inr ⟨_, rfl⟩) hlocks hQ hW (tf_u2 hn33) dX2_read_97
        · refine lv_null hx hb dX2_read_58 ?_
          refine W.widen (k := 3) (n := 804) (by omega) (by omega) ?_
          exact tf_retA hx hb hr (by first | exact Or.inl ⟨_, rfl⟩ | exact Or.inr ⟨_, rfl⟩) (Or.inl rfl) hlocks hQ hW tf_u2n dX2_read_59
  refine tf_enter (As := [.ref a0, .ref a1, .int (Int32.ofInt x2)]) hargs (Nat.le_of_ble_eq_true rfl) (fun ls hl => ?_)
  have hl : lv_has ls 4 [(0, .ref a0), (1, .ref a1), (2, .int (Int32.ofInt x2))] := hl
  refine lv_aload_n hx hb dX2_read_0 rfl (lv_at hl 0 rfl) ?_
  refine tf_get hx hb hts inlX2 hown hK (ci := 2) rfl hW ha0 rfl 3 rfl (by decide) (hts _ fl_X2_25) dX2_read_1 (fun v36 hv36 hsv36 => ?_)
  obtain rfl : v36 = .ref t0 := Option.some.inj (hsv36.symm.trans he0)
  refine lv_aload_n hx hb dX2_read_4 rfl (lv_at hl 1 rfl) ?_
  refine lv_iload_n hx hb dX2_read_5 rfl (lv_at hl 2 rfl) ?_
  refine tf_callv (va_runV (As := [.ref a1, .int (Int32.ofInt x2)]) (rest := []) ⟨hx, hb, hml, hown, hts⟩ (c_X4_cut l g T t0 ht0 a1 ha1 (x2) ⟨by omega, by omega⟩) (cwV 2 hts gv_X2_41 rfl rfl rfl hd_X4_cut ⟨Nat.le_trans (by decide) hR1, Nat.le_trans (by decide) hR2⟩) (tf_preV hk hW ht0 (ci := 4) rfl rfl trivial) rfl rfl hl.1 rfl (lv_room (Nat.le_of_ble_eq_true rfl)) dX2_read_6 ⟨Nat.le_trans (by omega) hR3, Nat.le_trans (by omega) hR4⟩) hW (by decide) (fun H37 locs37 hW hF37 hp37 => ?_)
  have hs38 := tf_keepF hF37 ha0 rfl rfl (by decide) he0
  obtain ⟨ho37_0, ⟨zo37_1, ho37_1, hzo37_1⟩⟩ := hp37
  refine lv_aload_n hx hb dX2_read_9 rfl (lv_at hl 0 rfl) ?_
  refine tf_iconst hx hb dX2_read_10 ?_
  refine tf_put hx hb hts inlX2 tyX2 tyX2_ok nmX2 hown hK (ci := 2) rfl hW ha0 rfl rfl 4 rfl (by decide) (by decide) (hts _ fl_X2_29) rfl (tf_u0 (by omega) (by omega)) rfl rfl dX2_read_11 (fun H39 locs39 hW hs39 ht39 hq39 => ?_)
  have hs40 := (ht39 3 (by decide) (by decide)).trans hs38
  have hs41 := tf_keepQ ho37_1 (hq39 _ (tf_ne ht0 ha0 (by decide)))
  refine lv_aload_n hx hb dX2_read_14 rfl (lv_at hl 0 rfl) ?_
  refine lv_aload_n hx hb dX2_read_15 rfl (lv_at hl 0 rfl) ?_
  refine tf_get hx hb hts inlX2 hown hK (ci := 2) rfl hW ha0 rfl 3 rfl (by decide) (hts _ fl_X2_25) dX2_read_16 (fun v42 hv42 hsv42 => ?_)
  obtain rfl : v42 = .ref t0 := Option.some.inj (hsv42.symm.trans hs40)
  refine tf_get hx hb hts inlX4 hown hK (ci := 4) rfl hW ht0 rfl 0 rfl (by decide) (hts _ fl_X2_45) dX2_read_19 (fun v43 hv43 hsv43 => ?_)
  obtain ⟨ad44, rfl, had44⟩ := tf_v1 hv43
  refine tf_iconst hx hb dX2_read_22 ?_
  refine tf_iald (t0 := 0) hx hb hK hW had44 rfl rfl (by omega) (by omega) dX2_read_23 (fun v45 hv45 hsv45 => ?_)
  obtain ⟨z46, rfl, hz46⟩ := tf_v0 hv45
  refine tf_put hx hb hts inlX2 tyX2 tyX2_ok nmX2 hown hK (ci := 2) rfl hW ha0 rfl rfl 5 rfl (by decide) (by decide) (hts _ fl_X2_32) rfl (tf_u0 (by omega) (by omega)) rfl rfl dX2_read_24 (fun H47 locs47 hW hs47 ht47 hq47 => ?_)
  have hs48 := (ht47 3 (by decide) (by decide)).trans hs40
  have hs49 := tf_keepQ hs41 (hq47 _ (tf_ne ht0 ha0 (by decide)))
  refine lv_aload_n hx hb dX2_read_27 rfl (lv_at hl 0 rfl) ?_
  refine tf_iconst hx hb dX2_read_28 ?_
  refine tf_put hx hb hts inlX2 tyX2 tyX2_ok nmX2 hown hK (ci := 2) rfl hW ha0 rfl rfl 1 rfl (by decide) (by decide) (hts _ fl_X2_15) rfl (tf_u0 (by omega) (by omega)) rfl rfl dX2_read_29 (fun H50 locs50 hW hs50 ht50 hq50 => ?_)
  have hs51 := (ht50 3 (by decide) (by decide)).trans hs48
  have hs52 := tf_keepQ hs49 (hq50 _ (tf_ne ht0 ha0 (by decide)))
  refine lv_aload_n hx hb dX2_read_32 rfl (lv_at hl 0 rfl) ?_
  refine tf_iconst hx hb dX2_read_33 ?_
  refine tf_put hx hb hts inlX2 tyX2 tyX2_ok nmX2 hown hK (ci := 2) rfl hW ha0 rfl rfl 6 rfl (by decide) (by decide) (hts _ fl_X2_35) rfl (tf_u0 (by omega) (by omega)) rfl rfl dX2_read_34 (fun H53 locs53 hW hs53 ht53 hq53 => ?_)
  have hs54 := (ht53 3 (by decide) (by decide)).trans hs51
  have hs55 := tf_keepQ hs52 (hq53 _ (tf_ne ht0 ha0 (by decide)))
  refine lv_aload_n hx hb dX2_read_37 rfl (lv_at hl 0 rfl) ?_
  refine tf_iconst hx hb dX2_read_38 ?_
  refine tf_put hx hb hts inlX2 tyX2 tyX2_ok nmX2 hown hK (ci := 2) rfl hW ha0 rfl rfl 7 rfl (by decide) (by decide) (hts _ fl_X2_38) rfl (tf_u0 (by omega) (by omega)) rfl rfl dX2_read_39 (fun H56 locs56 hW hs56 ht56 hq56 => ?_)
  have hs57 := (ht56 3 (by decide) (by decide)).trans hs54
  have hs58 := tf_keepQ hs55 (hq56 _ (tf_ne ht0 ha0 (by decide)))
  refine tf_iconst hx hb dX2_read_42 ?_
  refine lv_istore_n (lv' := [(3, .int (Int32.ofInt 0)), (0, .ref a0), (1, .ref a1), (2, .int (Int32.ofInt x2))]) hx hb dX2_read_43 rfl hl (by decide) rfl (fun ls hl => ?_)
  exact j_44 ((12 - 0 + 1 : Int)).toNat (0) ⟨by omega, by omega⟩ (zo37_1) ⟨by omega, by omega⟩ (by omega) _ _ hW hs57 hs58 _ (lv_sub hl [1, 0] rfl)

abbrev M_X9_law : List (Nat × Nat) := [(0, 0), (10, 0), (12, 0), (13, 0), (19, 1), (19, 4), (19, 5), (19, 6), (19, 7), (20, 8), (21, 2), (21, 3), (21, 4), (23, 2), (23, 6), (23, 10), (26, 7), (26, 9), (26, 13), (52, 0), (52, 1)]
set_option maxHeartbeats 4000000 in
set_option maxRecDepth 100000 in
theorem c_X9_law (l : Launch) (g : tf_G) (T : tf_T) (a0 : Nat) (ha0 : T a0 = some (26, 0)) : Met l yX9_law (cd_X9_law :: wsL_law) ({ frames := 73, cells := 3, slots := 804, locals := 1137 }) (tf_P g T [.ref a0] (fun H => True)) (tf_QI g M_X9_law T (fun z _ _ => (-2147483648) ≤ z ∧ z ≤ 2147483647)) 3 804 (fun q => tf_B g ≤ q) := by
  refine Met.ofW (cc := cX9_law) (maxL := 3) (ret := (some .int)) (by decide) rfl ?_
  intro p e s m args below meth c s₁ B hml hv
  obtain ⟨hargs, hk, hW0, hB, hpre⟩ := hv
  have hx := B.exec
  have hb := B.bytes
  have hr := B.returns
  have hts : ∀ w ∈ wsL_law, w.before args s = true := fun w h => atoms_spec (ws := cd_X9_law :: wsL_law) B.pre w (List.mem_cons_of_mem _ h)
  have hown : s.vm.findClass RX9 = some m.cls := findClass_of_methodNamed B.named
  have hlocks := B.notSynchronized
  have hK := hk.1
  have hW := tf_n.start (M := M_X9_law) hW0 hB
  obtain ⟨Q, hQ⟩ : ∃ q, q = MQ below (tf_QI g M_X9_law T (fun z _ _ => (-2147483648) ≤ z ∧ z ≤ 2147483647)) args s 3 804 (fun q => tf_B g ≤ q) := ⟨_, rfl⟩
  rw [← hQ]
  obtain ⟨R, hR⟩ : ∃ q, q = (headSpec (cd_X9_law :: wsL_law) ({ frames := 73, cells := 3, slots := 804, locals := 1137 })).room := ⟨_, rfl⟩
  rw [← hR]
  have hR1 : 73 ≤ R.frames := by rw [hR]; exact Nat.le_refl _
  have hR2 : 1137 ≤ R.locals := by rw [hR]; exact Nat.le_refl _
  have hR3 : 3 ≤ R.cells := by rw [hR]; exact Nat.le_refl _
  have hR4 : 804 ≤ R.slots := by rw [hR]; exact Nat.le_refl _
  have hin := (name_of_methodNamed B.named B.method).1
  clear hR B
  refine tf_enter (As := [.ref a0]) hargs (Nat.le_of_ble_eq_true rfl) (fun ls hl => ?_)
  have hl : lv_has ls 3 [(0, .ref a0)] := hl
  refine lv_aload_n hx hb dX9_law_0 rfl (lv_at hl 0 rfl) ?_
  refine tf_get hx hb hts inlX9 hown hK (ci := 9) rfl hW ha0 rfl 7 rfl (by decide) (hts _ fl_X9_48) dX9_law_1 (fun v1 hv1 hsv1 => ?_)
  obtain ⟨z2, rfl, hz2⟩ := tf_v0 hv1
  refine lv_istore_n (lv' := [(1, .int (Int32.ofInt z2)), (0, .ref a0)]) hx hb dX9_law_4 rfl hl (by decide) rfl (fun ls hl => ?_)
  refine lv_aload_n hx hb dX9_law_5 rfl (lv_at hl 1 rfl) ?_
  refine tf_iconst hx hb dX9_law_6 ?_
  refine tf_put hx hb hts inlX9 tyX9 tyX9_ok nmX9 hown hK (ci := 9) rfl hW ha0 rfl rfl 7 rfl (by decide) (by decide) (hts _ fl_X9_48) rfl (tf_u0 (by omega) (by omega)) rfl rfl dX9_law_7 (fun H3 locs3 hW hs3 ht3 hq3 => ?_)
  refine lv_aload_n hx hb dX9_law_10 rfl (lv_at hl 1 rfl) ?_
  refine tf_get hx hb hts inlX9 hown hK (ci := 9) rfl hW ha0 rfl 0 rfl (by decide) (hts _ fl_X9_10) dX9_law_11 (fun v4 hv4 hsv4 => ?_)
  obtain ⟨ad5, rfl, had5⟩ := tf_v1 hv4
  refine tf_get hx hb hts inlX3 hown hK (ci := 3) rfl hW had5 rfl 8 rfl (by decide) (hts _ fl_X9_164) dX9_law_14 (fun v6 hv6 hsv6 => ?_)
  obtain ⟨z7, rfl, hz7⟩ := tf_v0 hv6
  refine tf_bipush hx hb dX9_law_17 (by decide) ?_
  refine tf_icmp_lt (tgt := 29) hx hb ⟨by omega, by omega⟩ ⟨by decide, by decide⟩ dX9_law_19 (by decide) (fun h8 => ?_) (fun h8 => ?_)
  · refine lv_aload_n hx hb dX9_law_29 rfl (lv_at hl 1 rfl) ?_
    refine tf_get hx hb hts inlX9 hown hK (ci := 9) rfl hW ha0 rfl 4 rfl (by decide) (hts _ fl_X9_37) dX9_law_30 (fun v9 hv9 hsv9 => ?_)
    obtain ⟨ad10, rfl, had10⟩ := tf_v1 hv9
    refine lv_aload_n hx hb dX9_law_33 rfl (lv_at hl 1 rfl) ?_
    refine tf_get hx hb hts inlX9 hown hK (ci := 9) rfl hW ha0 rfl 6 rfl (by decide) (hts _ fl_X9_45) dX9_law_34 (fun v11 hv11 hsv11 => ?_)
    obtain ⟨ad12, rfl, had12⟩ := tf_v1 hv11
    refine lv_iload_n hx hb dX9_law_37 rfl (lv_at hl 0 rfl) ?_
    obtain ⟨pv13, hpv13, hok13⟩ := tf_peek hW had10 (ci := 2) rfl 3 rfl
    obtain ⟨ad14, rfl, had14⟩ := tf_v1 hok13
    refine tf_callA (va_runV (As := [.ref ad12, .int (Int32.ofInt z2)]) (rest := []) ⟨hx, hb, hml, hown, hts⟩ (c_X2_read l g T ad10 had10 ad12 had12 (z2) ⟨by omega, by omega⟩ ad14 had14) (cwV 2 hts gv_X9_167 rfl rfl rfl hd_X2_read ⟨Nat.le_trans (by decide) hR1, Nat.le_trans (by decide) hR2⟩) (tf_preV hk hW had10 (ci := 2) rfl rfl hpv13) rfl rfl hl.1 rfl (lv_room (Nat.le_of_ble_eq_true rfl)) dX9_law_38 ⟨Nat.le_trans (by omega) hR3, Nat.le_trans (by omega) hR4⟩) hW (by decide) (fun z15 H15 locs15 T hW hE15 hF15 hp15 => ?_)
    have hs16 := tf_keepF hF15 ha0 rfl rfl (by decide) hsv4
    have hs17 := tf_keepF hF15 ha0 rfl rfl (by decide) hsv9
    have hs18 := tf_keepF hF15 had10 rfl rfl (by decide) hpv13
    have ha0 := hE15 _ _ ha0
    have had5 := hE15 _ _ had5
    have had10 := hE15 _ _ had10
    have had14 := hE15 _ _ had14
    have hv15 : tf_v T 0 (2, 18, 0, 0, 0) z15 := hp15
    rcases tf_v2 hv15 with rfl | ⟨ad19, rfl, had19⟩
    · refine tf_Nastore_n (lv' := [(2, .null), (1, .int (Int32.ofInt z2)), (0, .ref a0)]) hx hb dX9_law_41 rfl hl (by decide) rfl (fun ls hl => ?_)
      refine lv_aload_n hx hb dX9_law_42 rfl (lv_at hl 2 rfl) ?_
      refine lv_aload_n hx hb dX9_law_43 rfl (lv_at hl 2 rfl) ?_
      refine tf_get hx hb hts inlX9 hown hK (ci := 9) rfl hW ha0 rfl 4 rfl (by decide) (hts _ fl_X9_37) dX9_law_44 (fun v20 hv20 hsv20 => ?_)
      obtain rfl : v20 = .ref ad10 := Option.some.inj (hsv20.symm.trans hs17)
      refine tf_get hx hb hts inlX2 hown hK (ci := 2) rfl hW had10 rfl 7 rfl (by decide) (hts _ fl_X9_171) dX9_law_47 (fun v21 hv21 hsv21 => ?_)
      obtain ⟨z22, rfl, hz22⟩ := tf_v0 hv21
      refine tf_put hx hb hts inlX9 tyX9 tyX9_ok nmX9 hown hK (ci := 9) rfl hW ha0 rfl rfl 9 rfl (by decide) (by decide) (hts _ fl_X9_55) rfl (tf_u0 (by omega) (by omega)) rfl rfl dX9_law_50 (fun H23 locs23 hW hs23 ht23 hq23 => ?_)
      have hs24 := (ht23 0 (by decide) (by decide)).trans hs16
      have hs25 := (ht23 4 (by decide) (by decide)).trans hs17
      have hs26 := tf_keepQ hs18 (hq23 _ (tf_ne had10 ha0 (by decide)))
      refine tf_aloadN hx hb dX9_law_53 (lv_at hl 0 rfl) ?_
      refine lv_ifnonnullN hx hb dX9_law_54 ?_
      refine lv_aload_n hx hb dX9_law_57 rfl (lv_at hl 2 rfl) ?_
      refine tf_bipush hx hb dX9_law_58 (by decide) ?_
      refine tf_calli (va_runV (As := [.int (Int32.ofInt ((-6)))]) (rest := []) ⟨hx, hb, hml, hown, hts⟩ (c_X9_refuse l g T a0 ha0 ((-6)) ⟨by omega, by omega⟩) (cwV 1 hts gv_X9_75 rfl rfl rfl hd_X9_refuse ⟨Nat.le_trans (by decide) hR1, Nat.le_trans (by decide) hR2⟩) (tf_preV hk hW ha0 (ci := 9) rfl rfl trivial) rfl rfl hl.1 rfl (lv_room (Nat.le_of_ble_eq_true rfl)) dX9_law_60 ⟨Nat.le_trans (by omega) hR3, Nat.le_trans (by omega) hR4⟩) hW (by decide) (fun z27 H27 locs27 hW hF27 hp27 => ?_)
      have hs28 := tf_keepF hF27 ha0 rfl rfl (by decide) hs24
      have hs29 := tf_keepF hF27 ha0 rfl rfl (by decide) hs25
      have hs30 := tf_keepF hF27 had10 rfl rfl (by decide) hs26
      obtain ⟨hp27_0, hp27_1, hp27_2⟩ := hp27
      refine W.widen (k := 3) (n := 804) (by omega) (by omega) ?_
      exact tf_retI (z := z27) hx hb hr hlocks hQ hW (show (-2147483648) ≤ (z27) ∧ (z27) ≤ 2147483647 by omega) dX9_law_63
    · refine lv_astore_n (lv' := [(2, .ref ad19), (1, .int (Int32.ofInt z2)), (0, .ref a0)]) hx hb dX9_law_41 rfl hl (by decide) rfl (fun ls hl => ?_)
      refine lv_aload_n hx hb dX9_law_42 rfl (lv_at hl 2 rfl) ?_
      refine lv_aload_n hx hb dX9_law_43 rfl (lv_at hl 2 rfl) ?_
      refine tf_get hx hb hts inlX9 hown hK (ci := 9) rfl hW ha0 rfl 4 rfl (by decide) (hts _ fl_X9_37) dX9_law_44 (fun v31 hv31 hsv31 => ?_)
      obtain rfl : v31 = .ref ad10 := Option.some.inj (hsv31.symm.trans hs17)
      refine tf_get hx hb hts inlX2 hown hK (ci := 2) rfl hW had10 rfl 7 rfl (by decide) (hts _ fl_X9_171) dX9_law_47 (fun v32 hv32 hsv32 => ?_)
      obtain ⟨z33, rfl, hz33⟩ := tf_v0 hv32
      refine tf_put hx hb hts inlX9 tyX9 tyX9_ok nmX9 hown hK (ci := 9) rfl hW ha0 rfl rfl 9 rfl (by decide) (by decide) (hts _ fl_X9_55) rfl (tf_u0 (by omega) (by omega)) rfl rfl dX9_law_50 (fun H34 locs34 hW hs34 ht34 hq34 => ?_)
      have hs35 := (ht34 0 (by decide) (by decide)).trans hs16
      have hs36 := (ht34 4 (by decide) (by decide)).trans hs17
      have hs37 := tf_keepQ hs18 (hq34 _ (tf_ne had10 ha0 (by decide)))
      refine lv_aload_n hx hb dX9_law_53 rfl (lv_at hl 0 rfl) ?_
      refine lv_ifnonnull (tgt := 64) hx hb dX9_law_54 (by decide) ?_
      refine lv_aload_n hx hb dX9_law_64 rfl (lv_at hl 2 rfl) ?_
      refine lv_aload_n hx hb dX9_law_65 rfl (lv_at hl 2 rfl) ?_
      refine tf_get hx hb hts inlX9 hown hK (ci := 9) rfl hW ha0 rfl 0 rfl (by decide) (hts _ fl_X9_10) dX9_law_66 (fun v38 hv38 hsv38 => ?_)
      obtain rfl : v38 = .ref ad5 := Option.some.inj (hsv38.symm.trans hs35)
      refine lv_aload_n hx hb dX9_law_69 rfl (lv_at hl 0 rfl) ?_
      refine tf_calli (va_runV (As := [.ref ad19]) (rest := [.ref a0]) ⟨hx, hb, hml, hown, hts⟩ (c_X3_addLaw l g T ad5 had5 ad19 had19) (cwV 1 hts gv_X9_172 rfl rfl rfl hd_X3_addLaw ⟨Nat.le_trans (by decide) hR1, Nat.le_trans (by decide) hR2⟩) (tf_preV hk hW had5 (ci := 3) rfl rfl trivial) rfl rfl hl.1 rfl (lv_room (Nat.le_of_ble_eq_true rfl)) dX9_law_70 ⟨Nat.le_trans (by omega) hR3, Nat.le_trans (by omega) hR4⟩) hW (by decide) (fun z39 H39 locs39 hW hF39 hp39 => ?_)
      have hs40 := tf_keepF hF39 ha0 rfl rfl (by decide) hs35
      have hs41 := tf_keepF hF39 ha0 rfl rfl (by decide) hs36
      have hs42 := tf_keepF hF39 had10 rfl rfl (by decide) hs37
      obtain ⟨hp39_0, hp39_1⟩ := hp39
      refine tf_calli (va_runV (As := [.int (Int32.ofInt z39)]) (rest := []) ⟨hx, hb, hml, hown, hts⟩ (c_X9_accept l g T a0 ha0 (z39) ⟨by omega, by omega⟩) (cwV 1 hts gv_X9_99 rfl rfl rfl hd_X9_accept ⟨Nat.le_trans (by decide) hR1, Nat.le_trans (by decide) hR2⟩) (tf_preV hk hW ha0 (ci := 9) rfl rfl trivial) rfl rfl hl.1 rfl (lv_room (Nat.le_of_ble_eq_true rfl)) dX9_law_73 ⟨Nat.le_trans (by omega) hR3, Nat.le_trans (by omega) hR4⟩) hW (by decide) (fun z43 H43 locs43 hW hF43 hp43 => ?_)
      have hs44 := tf_keepF hF43 ha0 rfl rfl (by decide) hs40
      have hs45 := tf_keepF hF43 ha0 rfl rfl (by decide) hs41
      have hs46 := tf_keepF hF43 had10 rfl rfl (by decide) hs42
      obtain ⟨hp43_0, hp43_1, hp43_2⟩ := hp43
      refine W.widen (k := 3) (n := 804) (by omega) (by omega) ?_
      exact tf_retI (z := z43) hx hb hr hlocks hQ hW (show (-2147483648) ≤ (z43) ∧ (z43) ≤ 2147483647 by omega) dX9_law_76
  · refine lv_aload_n hx hb dX9_law_22 rfl (lv_at hl 1 rfl) ?_
    refine tf_bipush hx hb dX9_law_23 (by decide) ?_
    refine tf_calli (va_runV (As := [.int (Int32.ofInt ((-5)))]) (rest := []) ⟨hx, hb, hml, hown, hts⟩ (c_X9_refuse l g T a0 ha0 ((-5)) ⟨by omega, by omega⟩) (cwV 1 hts gv_X9_75 rfl rfl rfl hd_X9_refuse ⟨Nat.le_trans (by decide) hR1, Nat.le_trans (by decide) hR2⟩) (tf_preV hk hW ha0 (ci := 9) rfl rfl trivial) rfl rfl hl.1 rfl (lv_room (Nat.le_of_ble_eq_true rfl)) dX9_law_25 ⟨Nat.le_trans (by omega) hR3, Nat.le_trans (by omega) hR4⟩) hW (by decide) (fun z47 H47 locs47 hW hF47 hp47 => ?_)
    have hs48 := tf_keepF hF47 ha0 rfl rfl (by decide) hsv4
    obtain ⟨hp47_0, hp47_1, hp47_2⟩ := hp47
    refine W.widen (k := 3) (n := 804) (by omega) (by omega) ?_
    exact tf_retI (z := z47) hx hb hr hlocks hQ hW (show (-2147483648) ≤ (z47) ∧ (z47) ≤ 2147483647 by omega) dX9_law_28

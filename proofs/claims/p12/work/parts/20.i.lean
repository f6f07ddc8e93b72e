
abbrev M_J7_copyOf_59c91 : List (Nat × Nat) := [(10, 0)]
set_option maxHeartbeats 4000000 in
set_option maxRecDepth 100000 in
theorem c_J7_copyOf_59c91 (l : Launch) (g : tf_G) (T : tf_T) (a0 i0 : Nat) (ha0 : T a0 = some (0, i0)) (hi0 : i0 ≤ 401) (x1 : Int) (hp1 : 0 ≤ x1 ∧ x1 ≤ 401) : Met l yJ7_copyOf_59c91 (cd_J7_copyOf_59c91 :: wsL_law) ({ frames := 1, cells := 1, slots := 401, locals := 80 }) (tf_P g T [.ref a0, .int (Int32.ofInt x1)] (fun H => True)) (tf_QA g M_J7_copyOf_59c91 T (fun T z _ _ => tf_v T 0 (3, 10, 401, 0, 0) z)) 1 401 (fun q => tf_B g ≤ q) := by
  refine Met.ofW (cc := cJ7_copyOf_59c91) (maxL := 3) (ret := (some (.array .int))) (by decide) rfl ?_
  intro p e s m args below meth c s₁ B hml hv
  obtain ⟨hargs, hk, hW0, hB, hpre⟩ := hv
  have hx := B.exec
  have hb := B.bytes
  have hr := B.returns
  have hts : ∀ w ∈ wsL_law, w.before args s = true := fun w h => atoms_spec (ws := cd_J7_copyOf_59c91 :: wsL_law) B.pre w (List.mem_cons_of_mem _ h)
  have hown : s.vm.findClass RJ7 = some m.cls := findClass_of_methodNamed B.named
  have hlocks := B.notSynchronized
  have hK := hk.1
  have hW := tf_n.start (M := M_J7_copyOf_59c91) hW0 hB
  obtain ⟨Q, hQ⟩ : ∃ q, q = MQ below (tf_QA g M_J7_copyOf_59c91 T (fun T z _ _ => tf_v T 0 (3, 10, 401, 0, 0) z)) args s 1 401 (fun q => tf_B g ≤ q) := ⟨_, rfl⟩
  rw [← hQ]
  obtain ⟨R, hR⟩ : ∃ q, q = (headSpec (cd_J7_copyOf_59c91 :: wsL_law) ({ frames := 1, cells := 1, slots := 401, locals := 80 })).room := ⟨_, rfl⟩
  rw [← hR]
  have hR1 : 1 ≤ R.frames := by rw [hR]; exact Nat.le_refl _
  have hR2 : 80 ≤ R.locals := by rw [hR]; exact Nat.le_refl _
  have hR3 : 1 ≤ R.cells := by rw [hR]; exact Nat.le_refl _
  have hR4 : 401 ≤ R.slots := by rw [hR]; exact Nat.le_refl _
  have hin := (name_of_methodNamed B.named B.method).1
  clear hR B
  refine tf_enter (As := [.ref a0, .int (Int32.ofInt x1)]) hargs (Nat.le_of_ble_eq_true rfl) (fun ls hl => ?_)
  have hl : lv_has ls 3 [(0, .ref a0), (1, .int (Int32.ofInt x1))] := hl
  refine lv_iload_n hx hb dJ7_copyOf_59c91_0 rfl (lv_at hl 1 rfl) ?_
  refine lv_aload_n hx hb dJ7_copyOf_59c91_1 rfl (lv_at hl 0 rfl) ?_
  refine tf_alen (t0 := 0) hx hb hK hW ha0 rfl rfl dJ7_copyOf_59c91_2 (fun hn1 => ?_)
  refine tf_icmp_ne (tgt := 14) hx hb ⟨by omega, by omega⟩ ⟨by omega, by omega⟩ dJ7_copyOf_59c91_3 (by decide) (fun h2 => ?_) (fun h2 => ?_)
  · refine lv_iload_n hx hb dJ7_copyOf_59c91_14 rfl (lv_at hl 1 rfl) ?_
    refine tf_newarr (atype := .int) (ty := .int) (f := (0, 0, 0, -2147483648, 2147483647)) (t0 := 0) (k := 10) (N := (x1).toNat) hx hb (hts _ (tw2 (i := 5) rfl)) hK rfl rfl rfl (fun h => h) (tf_d0 (by decide) (by decide)) hW (by omega) rfl (by omega) (by show _ * 4 ≤ _; omega) (Nat.le_trans (by omega) hR3) (Nat.le_trans (by omega) hR4) dJ7_copyOf_59c91_15 (fun ad3 H3 T hq3 hT3 had3 hE3 hW ho3 => ?_)
    have ha0 := hE3 _ _ ha0
    refine lv_astore_n (lv' := [(2, .ref ad3), (0, .ref a0), (1, .int (Int32.ofInt x1))]) hx hb dJ7_copyOf_59c91_17 rfl hl (by decide) rfl (fun ls hl => ?_)
    refine lv_aload_n hx hb dJ7_copyOf_59c91_18 rfl (lv_at hl 1 rfl) ?_
    refine tf_iconst hx hb dJ7_copyOf_59c91_19 ?_
    refine lv_aload_n hx hb dJ7_copyOf_59c91_20 rfl (lv_at hl 0 rfl) ?_
    refine tf_iconst hx hb dJ7_copyOf_59c91_21 ?_
    refine lv_aload_n hx hb dJ7_copyOf_59c91_22 rfl (lv_at hl 1 rfl) ?_
    refine tf_alen (t0 := 0) hx hb hK hW ha0 rfl rfl dJ7_copyOf_59c91_23 (fun hn4 => ?_)
    refine lv_iload_n hx hb dJ7_copyOf_59c91_24 rfl (lv_at hl 2 rfl) ?_
    refine tf_mmin hx hb hml hl hown (hts _ (tw26 (i := 16) rfl)) (hts _ (tw18 (i := 17) rfl)) (hts _ (tw10 (i := 2) rfl)) (hts _ (tw18 (i := 18) rfl)) ⟨by omega, by omega⟩ ⟨by omega, by omega⟩ (Nat.le_of_ble_eq_true rfl) (Nat.le_trans (by decide) hR1) (Nat.le_trans (by decide) hR2) (Nat.le_trans (by omega) hR3) (Nat.le_trans (by omega) hR4) dJ7_copyOf_59c91_25 (fun z5 hz5 => ?_)
    refine tf_acopy (t0 := 0) hx hb hml hl hown (hts _ (tw26 (i := 17) rfl)) (hts _ (tw26 (i := 18) rfl)) (hts _ (tw26 (i := 19) rfl)) (hts _ (tw26 (i := 20) rfl)) hK hW ha0 had3 rfl rfl rfl (by decide) (by omega) (by omega) (by omega) (by omega) (by omega) (Nat.le_of_ble_eq_true rfl) (Nat.le_trans (by decide) hR1) (Nat.le_trans (by decide) hR2) dJ7_copyOf_59c91_28 (fun H6 locs6 hW hq6 => ?_)
    refine lv_aload_n hx hb dJ7_copyOf_59c91_31 rfl (lv_at hl 0 rfl) ?_
    refine W.widen (k := 1) (n := 401) (by omega) (by omega) ?_
    exact tf_retA hx hb hr (by first | exact Or.inl ⟨_, rfl⟩ | exact Or.inr ⟨_, rfl⟩) (Or.inr ⟨_, rfl⟩) hlocks hQ hW (tf_u3 had3 (by omega)) dJ7_copyOf_59c91_32
  · refine lv_aload_n hx hb dJ7_copyOf_59c91_6 rfl (lv_at hl 0 rfl) ?_
    refine tf_cloneI (t0 := 0) (k := 10) hx hb hml hl hown (hts _ (tw26 (i := 10) rfl)) (hts _ (tw26 (i := 11) rfl)) (hts _ (tw26 (i := 12) rfl)) (hts _ (tw26 (i := 13) rfl)) (hts _ (tw26 (i := 14) rfl)) (hk.2.1 _ nw_27) hK rfl hW ha0 rfl rfl (Nat.le_of_ble_eq_true rfl) (Nat.le_trans (by decide) hR1) (Nat.le_trans (by decide) hR2) (Nat.le_trans (by omega) hR3) (Nat.le_trans (by omega) hR4) dJ7_copyOf_59c91_7 (fun ad7 H7 T hq7 hT7 had7 hE7 hW ho7 => ?_)
    have ha0 := hE7 _ _ ha0
    refine tf_castI (t0 := 0) hx hb hown (hts _ (tw26 (i := 15) rfl)) hK rfl hW had7 rfl dJ7_copyOf_59c91_10 ?_
    refine W.widen (k := 1) (n := 401) (by omega) (by omega) ?_
    exact tf_retA hx hb hr (by first | exact Or.inl ⟨_, rfl⟩ | exact Or.inr ⟨_, rfl⟩) (Or.inr ⟨_, rfl⟩) hlocks hQ hW (tf_u3 had7 (by omega)) dJ7_copyOf_59c91_13

abbrev M_X9_image : List (Nat × Nat) := [(1, 0), (2, 0), (5, 0), (6, 0), (7, 0), (8, 0), (9, 0), (12, 0), (13, 0), (14, 0), (20, 8), (20, 9), (20, 11), (22, 4), (23, 2), (23, 6), (23, 10), (25, 4), (26, 13), (51, 0), (51, 1), (51, 2), (51, 3), (54, 0), (54, 1), (54, 2), (54, 3), (54, 4), (54, 5), (54, 6), (54, 7), (54, 8), (54, 9), (54, 10), (54, 11), (56, 0), (56, 1), (56, 2), (56, 3), (56, 4), (59, 0), (59, 1), (59, 2), (59, 3), (59, 4)]
set_option maxHeartbeats 4000000 in
set_option maxRecDepth 100000 in
theorem c_X9_image (l : Launch) (g : tf_G) (T : tf_T) (a0 : Nat) (ha0 : T a0 = some (26, 0)) (x1 : Int) (hp1 : (-2147483648) ≤ x1 ∧ x1 ≤ 2147483647) : Met l yX9_image (cd_X9_image :: wsL_law) ({ frames := 3, cells := 22, slots := 1176, locals := 123 }) (tf_P g T [.ref a0, .int (Int32.ofInt x1)] (fun H => True)) (tf_QI g M_X9_image T (fun z _ _ => (z = 0 ∧ 0 ≤ x1 ∧ x1 ≤ 1) ∨ (z = (-1) ∧ (x1 < 0 ∨ 1 < x1)))) 22 1176 (fun q => tf_B g ≤ q) := by
  refine Met.ofW (cc := cX9_image) (maxL := 3) (ret := (some .int)) (by decide) rfl ?_
  intro p e s m args below meth c s₁ B hml hv
  obtain ⟨hargs, hk, hW0, hB, hpre⟩ := hv
  have hx := B.exec
  have hb := B.bytes
  have hr := B.returns
  have hts : ∀ w ∈ wsL_law, w.before args s = true := fun w h => atoms_spec (ws := cd_X9_image :: wsL_law) B.pre w (List.mem_cons_of_mem _ h)
  have hown : s.vm.findClass RX9 = some m.cls := findClass_of_methodNamed B.named
  have hlocks := B.notSynchronized
  have hK := hk.1
  have hW := tf_n.start (M := M_X9_image) hW0 hB
  obtain ⟨Q, hQ⟩ : ∃ q, q = MQ below (tf_QI g M_X9_image T (fun z _ _ => (z = 0 ∧ 0 ≤ x1 ∧ x1 ≤ 1) ∨ (z = (-1) ∧ (x1 < 0 ∨ 1 < x1)))) args s 22 1176 (fun q => tf_B g ≤ q) := ⟨_, rfl⟩
  rw [← hQ]
  obtain ⟨R, hR⟩ : ∃ q, q = (headSpec (cd_X9_image :: wsL_law) ({ frames := 3, cells := 22, slots := 1176, locals := 123 })).room := ⟨_, rfl⟩
  rw [← hR]
  have hR1 : 3 ≤ R.frames := by rw [hR]; exact Nat.le_refl _
  have hR2 : 123 ≤ R.locals := by rw [hR]; exact Nat.le_refl _
  have hR3 : 22 ≤ R.cells := by rw [hR]; exact Nat.le_refl _
  have hR4 : 1176 ≤ R.slots := by rw [hR]; exact Nat.le_refl _
  have hin := (name_of_methodNamed B.named B.method).1
  clear hR B
  refine tf_enter (As := [.ref a0, .int (Int32.ofInt x1)]) hargs (Nat.le_of_ble_eq_true rfl) (fun ls hl => ?_)
  have hl : lv_has ls 3 [(0, .ref a0), (1, .int (Int32.ofInt x1))] := hl
  refine lv_iload_n hx hb dX9_image_0 rfl (lv_at hl 1 rfl) ?_
  refine tf_iconst hx hb dX9_image_1 ?_
  refine tf_iconst hx hb dX9_image_2 ?_
  refine tf_calli (va_runS (As := [.int (Int32.ofInt x1), .int (Int32.ofInt 0), .int (Int32.ofInt 1)]) (rest := []) ⟨hx, hb, hml, hown, hts⟩ (c_X9_isWithin l g T (x1) ⟨by omega, by omega⟩ (0) ⟨by omega, by omega⟩ (1) ⟨by omega, by omega⟩) ⟨callB_of 3 hts (gw_ws cm_X9_isWithin) rfl rfl rfl (hts _ (tw1 (i := 2) rfl)) (hts _ (tw9 (i := 19) rfl)) hd_X9_isWithin.2 ⟨Nat.le_trans (by decide) hR1, Nat.le_trans (by decide) hR2⟩, hts _ (tw8 (i := 17) rfl)⟩ (tf_preS hk hW trivial) rfl rfl hl.1 rfl (lv_room (Nat.le_of_ble_eq_true rfl)) dX9_image_3 ⟨Nat.le_trans (by omega) hR3, Nat.le_trans (by omega) hR4⟩) hW (by decide) (fun z1 H1 locs1 hW hF1 hp1 => ?_)
  rcases hp1 with ⟨rfl, h2, h3⟩ | ⟨rfl, h4⟩
  · refine tf_if_ne (tgt := 15) hx hb ⟨by decide, by decide⟩ dX9_image_6 (by decide) (fun h5 => ?_) (fun h5 => ?_)
    · refine lv_aload_n hx hb dX9_image_15 rfl (lv_at hl 0 rfl) ?_
      refine tf_get hx hb hts inlX9 hown hK (ci := 9) rfl hW ha0 rfl 1 rfl (by decide) (hts _ fl_X9_16) dX9_image_16 (fun v6 hv6 hsv6 => ?_)
      obtain ⟨ad7, rfl, had7⟩ := tf_v1 hv6
      refine lv_iload_n hx hb dX9_image_19 rfl (lv_at hl 1 rfl) ?_
      refine tf_aald (t0 := 5) hx hb hK hW had7 rfl rfl rfl (by omega) (by omega) dX9_image_20 (fun v8 hv8 hsv8 => ?_)
      rcases tf_v2 hv8 with rfl | ⟨ad9, rfl, had9⟩
      · refine tf_Nastore_n (lv' := [(2, .null), (0, .ref a0), (1, .int (Int32.ofInt x1))]) hx hb dX9_image_21 rfl hl (by decide) rfl (fun ls hl => ?_)
        refine tf_aloadN hx hb dX9_image_22 (lv_at hl 0 rfl) ?_
        refine lv_ifnonnullN hx hb dX9_image_23 ?_
        have hsz10 := hW.2.2.1.1
        refine tf_new (kr := 54) hx hb hts inlX3 tyX3 tyX3_ok hown (hts _ (tw1 (i := 12) rfl)) (hts _ (tw1 (i := 13) rfl)) (hts _ (tw1 (i := 14) rfl)) hK (ci := 3) rfl hW rfl ⟨rfl, by decide⟩ (Nat.le_trans (by omega) hR3) (Nat.le_trans (by omega) hR4) dX9_image_26 (fun ad10 H10 T hq10 hT10 had10 hE10 hW ho10 => ?_)
        have hsz10 := Nat.le_trans hsz10 (Nat.le_of_eq hq10)
        have hs11 := tf_keepQ hsv6 (ho10 _ _ ha0)
        have ha0 := hE10 _ _ ha0
        have had7 := hE10 _ _ had7
        refine lv_dup hx hb dX9_image_29 rfl ?_
        refine tf_callC (va_runIN (As := []) (rest := [.ref ad10]) ⟨hx, hb, hml, hown, hts⟩ (c_X3_init l g T ad10 had10) ⟨va_cnB 0 hts (gw_ws cm_X3_init) rfl rfl rfl (hk.2.1 _ nw_0) (hts _ (tw1 (i := 14) rfl)) hd_X3_init.2 ⟨Nat.le_trans (by decide) hR1, Nat.le_trans (by decide) hR2⟩, rfl, hts _ (tw2 (i := 15) rfl)⟩ (tf_preS hk hW trivial) rfl rfl hl.1 rfl (lv_room (Nat.le_of_ble_eq_true rfl)) dX9_image_30 ⟨Nat.le_trans (by omega) hR3, Nat.le_trans (by omega) hR4⟩) hW (by decide) (tf_fresh hW0 hsz10) hsz10 had10 (fun H12 locs12 T hW hn12 hE12 hF12 => ?_)
        have hs13 := tf_keepF hF12 ha0 rfl rfl (by decide) hs11
        have ha0 := hE12 _ _ (tf_ne ha0 had10 (by decide)) ha0
        have had7 := hE12 _ _ (tf_ne had7 had10 (by decide)) had7
        refine lv_astore_n (lv' := [(2, .ref ad10), (0, .ref a0), (1, .int (Int32.ofInt x1))]) hx hb dX9_image_33 rfl hl (by decide) rfl (fun ls hl => ?_)
        refine lv_aload_n hx hb dX9_image_34 rfl (lv_at hl 1 rfl) ?_
        refine tf_get hx hb hts inlX9 hown hK (ci := 9) rfl hW ha0 rfl 1 rfl (by decide) (hts _ fl_X9_16) dX9_image_35 (fun v14 hv14 hsv14 => ?_)
        obtain rfl : v14 = .ref ad7 := Option.some.inj (hsv14.symm.trans hs13)
        refine lv_iload_n hx hb dX9_image_38 rfl (lv_at hl 2 rfl) ?_
        refine lv_aload_n hx hb dX9_image_39 rfl (lv_at hl 0 rfl) ?_
        refine tf_aast (t0 := 5) (ci := 3) hx hb hK hW had7 rfl rfl hn12 rfl rfl (by omega) (by omega) (by decide) dX9_image_40 (fun H15 locs15 hW hs15 ht15 hq15 => ?_)
        have hs16 := tf_keepQ hs13 (hq15 _ (tf_ne ha0 had7 (by decide)))
        refine lv_aload_n hx hb dX9_image_41 rfl (lv_at hl 0 rfl) ?_
        refine lv_aload_n hx hb dX9_image_42 rfl (lv_at hl 1 rfl) ?_
        refine tf_get hx hb hts inlX9 hown hK (ci := 9) rfl hW ha0 rfl 0 rfl (by decide) (hts _ fl_X9_10) dX9_image_43 (fun v17 hv17 hsv17 => ?_)
        obtain ⟨ad18, rfl, had18⟩ := tf_v1 hv17
        refine tf_callv (va_runV (As := [.ref ad18]) (rest := []) ⟨hx, hb, hml, hown, hts⟩ (c_X3_become l g T ad10 hn12 ad18 had18) (cwV 1 hts gv_X9_355 rfl rfl rfl hd_X3_become ⟨Nat.le_trans (by decide) hR1, Nat.le_trans (by decide) hR2⟩) (tf_preV hk hW hn12 (ci := 3) rfl rfl trivial) rfl rfl hl.1 rfl (lv_room (Nat.le_of_ble_eq_true rfl)) dX9_image_46 ⟨Nat.le_trans (by omega) hR3, Nat.le_trans (by omega) hR4⟩) hW (by decide) (fun H19 locs19 hW hF19 hp19 => ?_)
        have hs20 := tf_keepF hF19 ha0 rfl rfl (by decide) hs16
        refine lv_aload_n hx hb dX9_image_49 rfl (lv_at hl 1 rfl) ?_
        refine tf_iconst hx hb dX9_image_50 ?_
        refine tf_calli (va_runV (As := [.int (Int32.ofInt 0)]) (rest := []) ⟨hx, hb, hml, hown, hts⟩ (c_X9_accept l g T a0 ha0 (0) ⟨by omega, by omega⟩) (cwV 1 hts gv_X9_99 rfl rfl rfl hd_X9_accept ⟨Nat.le_trans (by decide) hR1, Nat.le_trans (by decide) hR2⟩) (tf_preV hk hW ha0 (ci := 9) rfl rfl trivial) rfl rfl hl.1 rfl (lv_room (Nat.le_of_ble_eq_true rfl)) dX9_image_51 ⟨Nat.le_trans (by omega) hR3, Nat.le_trans (by omega) hR4⟩) hW (by decide) (fun z21 H21 locs21 hW hF21 hp21 => ?_)
        have hs22 := tf_keepF hF21 ha0 rfl rfl (by decide) hs20
        obtain ⟨hp21_0, hp21_1, hp21_2⟩ := hp21
        refine W.widen (k := 22) (n := 1176) (by omega) (by omega) ?_
        exact tf_retI (z := z21) hx hb hr hlocks hQ hW (show ((z21) = 0 ∧ 0 ≤ x1 ∧ x1 ≤ 1) ∨ ((z21) = (-1) ∧ (x1 < 0 ∨ 1 < x1)) by omega) dX9_image_54
      · refine lv_astore_n (lv' := [(2, .ref ad9), (0, .ref a0), (1, .int (Int32.ofInt x1))]) hx hb dX9_image_21 rfl hl (by decide) rfl (fun ls hl => ?_)
        refine lv_aload_n hx hb dX9_image_22 rfl (lv_at hl 0 rfl) ?_
        refine lv_ifnonnull (tgt := 41) hx hb dX9_image_23 (by decide) ?_
        refine lv_aload_n hx hb dX9_image_41 rfl (lv_at hl 0 rfl) ?_
        refine lv_aload_n hx hb dX9_image_42 rfl (lv_at hl 1 rfl) ?_
        refine tf_get hx hb hts inlX9 hown hK (ci := 9) rfl hW ha0 rfl 0 rfl (by decide) (hts _ fl_X9_10) dX9_image_43 (fun v23 hv23 hsv23 => ?_)
        obtain ⟨ad24, rfl, had24⟩ := tf_v1 hv23
        refine tf_callv (va_runV (As := [.ref ad24]) (rest := []) ⟨hx, hb, hml, hown, hts⟩ (c_X3_become l g T ad9 had9 ad24 had24) (cwV 1 hts gv_X9_355 rfl rfl rfl hd_X3_become ⟨Nat.le_trans (by decide) hR1, Nat.le_trans (by decide) hR2⟩) (tf_preV hk hW had9 (ci := 3) rfl rfl trivial) rfl rfl hl.1 rfl (lv_room (Nat.le_of_ble_eq_true rfl)) dX9_image_46 ⟨Nat.le_trans (by omega) hR3, Nat.le_trans (by omega) hR4⟩) hW (by decide) (fun H25 locs25 hW hF25 hp25 => ?_)
        have hs26 := tf_keepF hF25 ha0 rfl rfl (by decide) hsv6
        refine lv_aload_n hx hb dX9_image_49 rfl (lv_at hl 1 rfl) ?_
        refine tf_iconst hx hb dX9_image_50 ?_
        refine tf_calli (va_runV (As := [.int (Int32.ofInt 0)]) (rest := []) ⟨hx, hb, hml, hown, hts⟩ (c_X9_accept l g T a0 ha0 (0) ⟨by omega, by omega⟩) (cwV 1 hts gv_X9_99 rfl rfl rfl hd_X9_accept ⟨Nat.le_trans (by decide) hR1, Nat.le_trans (by decide) hR2⟩) (tf_preV hk hW ha0 (ci := 9) rfl rfl trivial) rfl rfl hl.1 rfl (lv_room (Nat.le_of_ble_eq_true rfl)) dX9_image_51 ⟨Nat.le_trans (by omega) hR3, Nat.le_trans (by omega) hR4⟩) hW (by decide) (fun z27 H27 locs27 hW hF27 hp27 => ?_)
        have hs28 := tf_keepF hF27 ha0 rfl rfl (by decide) hs26
        obtain ⟨hp27_0, hp27_1, hp27_2⟩ := hp27
        refine W.widen (k := 22) (n := 1176) (by omega) (by omega) ?_
        exact tf_retI (z := z27) hx hb hr hlocks hQ hW (show ((z27) = 0 ∧ 0 ≤ x1 ∧ x1 ≤ 1) ∨ ((z27) = (-1) ∧ (x1 < 0 ∨ 1 < x1)) by omega) dX9_image_54
    · exfalso; omega
  · refine tf_if_ne (tgt := 15) hx hb ⟨by decide, by decide⟩ dX9_image_6 (by decide) (fun h29 => ?_) (fun h29 => ?_)
    · exfalso; omega
    · refine lv_aload_n hx hb dX9_image_9 rfl (lv_at hl 0 rfl) ?_
      refine tf_iconst hx hb dX9_image_10 ?_
      refine tf_calli (va_runV (As := [.int (Int32.ofInt ((-1)))]) (rest := []) ⟨hx, hb, hml, hown, hts⟩ (c_X9_refuse l g T a0 ha0 ((-1)) ⟨by omega, by omega⟩) (cwV 1 hts gv_X9_75 rfl rfl rfl hd_X9_refuse ⟨Nat.le_trans (by decide) hR1, Nat.le_trans (by decide) hR2⟩) (tf_preV hk hW ha0 (ci := 9) rfl rfl trivial) rfl rfl hl.1 rfl (lv_room (Nat.le_of_ble_eq_true rfl)) dX9_image_11 ⟨Nat.le_trans (by omega) hR3, Nat.le_trans (by omega) hR4⟩) hW (by decide) (fun z30 H30 locs30 hW hF30 hp30 => ?_)
      obtain ⟨hp30_0, hp30_1, hp30_2⟩ := hp30
      refine W.widen (k := 22) (n := 1176) (by omega) (by omega) ?_
      exact tf_retI (z := z30) hx hb hr hlocks hQ hW (show ((z30) = 0 ∧ 0 ≤ x1 ∧ x1 ≤ 1) ∨ ((z30) = (-1) ∧ (x1 < 0 ∨ 1 < x1)) by omega) dX9_image_14

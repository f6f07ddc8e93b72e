
abbrev M_X0_init : List (Nat × Nat) := [(51, 0), (51, 1), (51, 2), (51, 3)]
set_option maxHeartbeats 4000000 in
set_option maxRecDepth 100000 in
theorem c_X0_init (l : Launch) (g : tf_G) (T : tf_T) (a0 : Nat) (ha0 : T a0 = some (51, 0)) : Met l yX0_init (cd_X0_init :: wsL_law) ({ frames := 1, cells := 4, slots := 1024, locals := 40 }) (tf_P g T [.ref a0] (fun H => True)) (tf_QC g M_X0_init T a0 17) 4 1024 (fun q => tf_B g ≤ q) := by
  refine Met.ofW (cc := cX0_init) (maxL := 1) (ret := none) (by decide) rfl ?_
  intro p e s m args below meth c s₁ B hml hv
  obtain ⟨hargs, hk, hW0, hB, hpre⟩ := hv
  have hx := B.exec
  have hb := B.bytes
  have hr := B.returns
  have hts : ∀ w ∈ wsL_law, w.before args s = true := fun w h => atoms_spec (ws := cd_X0_init :: wsL_law) B.pre w (List.mem_cons_of_mem _ h)
  have hown : s.vm.findClass RX0 = some m.cls := findClass_of_methodNamed B.named
  have hlocks := B.notSynchronized
  have hK := hk.1
  have hW := tf_n.start (M := M_X0_init) hW0 hB
  obtain ⟨Q, hQ⟩ : ∃ q, q = MQ below (tf_QC g M_X0_init T a0 17) args s 4 1024 (fun q => tf_B g ≤ q) := ⟨_, rfl⟩
  rw [← hQ]
  obtain ⟨R, hR⟩ : ∃ q, q = (headSpec (cd_X0_init :: wsL_law) ({ frames := 1, cells := 4, slots := 1024, locals := 40 })).room := ⟨_, rfl⟩
  rw [← hR]
  have hR1 : 1 ≤ R.frames := by rw [hR]; exact Nat.le_refl _
  have hR2 : 40 ≤ R.locals := by rw [hR]; exact Nat.le_refl _
  have hR3 : 4 ≤ R.cells := by rw [hR]; exact Nat.le_refl _
  have hR4 : 1024 ≤ R.slots := by rw [hR]; exact Nat.le_refl _
  have hin := (name_of_methodNamed B.named B.method).1
  clear hR B
  refine tf_enter (As := [.ref a0]) hargs (Nat.le_of_ble_eq_true rfl) (fun ls hl => ?_)
  have hl : lv_has ls 1 [(0, .ref a0)] := hl
  refine lv_aload_n hx hb dX0_init_0 rfl (lv_at hl 0 rfl) ?_
  refine W.objInit hx hb hown (hts _ (tw3 (i := 18) rfl)) (hts _ (tw1 (i := 10) rfl)) (hts _ (tw1 (i := 11) rfl)) rfl (by rw [hml]; exact hl.1) rfl dX0_init_1 (Nat.le_trans (by decide) hR1) (Nat.le_trans (by exact Nat.le_of_ble_eq_true rfl) hR2) ?_
  refine W.eq (g2 := F0 m 4 ls []) rfl ?_
  refine lv_aload_n hx hb dX0_init_4 rfl (lv_at hl 0 rfl) ?_
  refine tf_sipush hx hb dX0_init_5 (by decide) ?_
  refine tf_newarr (atype := .int) (ty := .int) (f := (0, 0, 0, -2147483648, 2147483647)) (t0 := 0) (k := 1) (N := 256) hx hb (hts _ (tw2 (i := 5) rfl)) hK rfl rfl rfl (fun h => h) (tf_d0 (by decide) (by decide)) hW (by omega) rfl (by decide) (by decide) (Nat.le_trans (by omega) hR3) (Nat.le_trans (by omega) hR4) dX0_init_8 (fun ad1 H1 T hq1 hT1 had1 hE1 hW ho1 => ?_)
  have ha0 := hE1 _ _ ha0
  refine tf_putF hx hb hts inlX0 tyX0 tyX0_ok nmX0 hown hK (ci := 0) rfl hW ha0 rfl rfl 0 rfl (by decide) (by decide) (hts _ fl_X0_9) rfl hin rfl trivial rfl rfl dX0_init_10 (fun H2 locs2 hW hs2 ht2 hq2 => ?_)
  refine lv_aload_n hx hb dX0_init_13 rfl (lv_at hl 0 rfl) ?_
  refine tf_sipush hx hb dX0_init_14 (by decide) ?_
  refine tf_newarr (atype := .int) (ty := .int) (f := (0, 0, 0, -2147483648, 2147483647)) (t0 := 0) (k := 1) (N := 256) hx hb (hts _ (tw2 (i := 5) rfl)) hK rfl rfl rfl (fun h => h) (tf_d0 (by decide) (by decide)) hW (by omega) rfl (by decide) (by decide) (Nat.le_trans (by omega) hR3) (Nat.le_trans (by omega) hR4) dX0_init_17 (fun ad3 H3 T hq3 hT3 had3 hE3 hW ho3 => ?_)
  have hs4 := tf_keepQ hs2 (ho3 _ _ ha0)
  have ha0 := hE3 _ _ ha0
  have had1 := hE3 _ _ had1
  refine tf_putF hx hb hts inlX0 tyX0 tyX0_ok nmX0 hown hK (ci := 0) rfl hW ha0 rfl rfl 1 rfl (by decide) (by decide) (hts _ fl_X0_15) rfl hin rfl trivial rfl rfl dX0_init_19 (fun H5 locs5 hW hs5 ht5 hq5 => ?_)
  have hs6 := (ht5 0 (by decide) (by decide)).trans hs4
  refine lv_aload_n hx hb dX0_init_22 rfl (lv_at hl 0 rfl) ?_
  refine tf_sipush hx hb dX0_init_23 (by decide) ?_
  refine tf_newarr (atype := .int) (ty := .int) (f := (0, 0, 0, -2147483648, 2147483647)) (t0 := 0) (k := 1) (N := 256) hx hb (hts _ (tw2 (i := 5) rfl)) hK rfl rfl rfl (fun h => h) (tf_d0 (by decide) (by decide)) hW (by omega) rfl (by decide) (by decide) (Nat.le_trans (by omega) hR3) (Nat.le_trans (by omega) hR4) dX0_init_26 (fun ad7 H7 T hq7 hT7 had7 hE7 hW ho7 => ?_)
  have hs8 := tf_keepQ hs6 (ho7 _ _ ha0)
  have hs9 := tf_keepQ hs5 (ho7 _ _ ha0)
  have ha0 := hE7 _ _ ha0
  have had1 := hE7 _ _ had1
  have had3 := hE7 _ _ had3
  refine tf_putF hx hb hts inlX0 tyX0 tyX0_ok nmX0 hown hK (ci := 0) rfl hW ha0 rfl rfl 2 rfl (by decide) (by decide) (hts _ fl_X0_18) rfl hin rfl trivial rfl rfl dX0_init_28 (fun H10 locs10 hW hs10 ht10 hq10 => ?_)
  have hs11 := (ht10 0 (by decide) (by decide)).trans hs8
  have hs12 := (ht10 1 (by decide) (by decide)).trans hs9
  refine lv_aload_n hx hb dX0_init_31 rfl (lv_at hl 0 rfl) ?_
  refine tf_sipush hx hb dX0_init_32 (by decide) ?_
  refine tf_newarr (atype := .int) (ty := .int) (f := (0, 0, 0, -2147483648, 2147483647)) (t0 := 0) (k := 1) (N := 256) hx hb (hts _ (tw2 (i := 5) rfl)) hK rfl rfl rfl (fun h => h) (tf_d0 (by decide) (by decide)) hW (by omega) rfl (by decide) (by decide) (Nat.le_trans (by omega) hR3) (Nat.le_trans (by omega) hR4) dX0_init_35 (fun ad13 H13 T hq13 hT13 had13 hE13 hW ho13 => ?_)
  have hs14 := tf_keepQ hs11 (ho13 _ _ ha0)
  have hs15 := tf_keepQ hs12 (ho13 _ _ ha0)
  have hs16 := tf_keepQ hs10 (ho13 _ _ ha0)
  have ha0 := hE13 _ _ ha0
  have had1 := hE13 _ _ had1
  have had3 := hE13 _ _ had3
  have had7 := hE13 _ _ had7
  refine tf_putF hx hb hts inlX0 tyX0 tyX0_ok nmX0 hown hK (ci := 0) rfl hW ha0 rfl rfl 3 rfl (by decide) (by decide) (hts _ fl_X0_21) rfl hin rfl trivial rfl rfl dX0_init_37 (fun H17 locs17 hW hs17 ht17 hq17 => ?_)
  have hs18 := (ht17 0 (by decide) (by decide)).trans hs14
  have hs19 := (ht17 1 (by decide) (by decide)).trans hs15
  have hs20 := (ht17 2 (by decide) (by decide)).trans hs16
  refine W.widen (k := 4) (n := 1024) (by omega) (by omega) ?_
  exact tf_retC (ci := 0) hx hb hr hlocks hQ hW ha0 rfl (by decide) rfl (fun j f hj => match j, hj with | 0, hj => by obtain rfl : _ = f := Option.some.inj hj; exact ⟨_, hs18, tf_u1 had1⟩ | 1, hj => by obtain rfl : _ = f := Option.some.inj hj; exact ⟨_, hs19, tf_u1 had3⟩ | 2, hj => by obtain rfl : _ = f := Option.some.inj hj; exact ⟨_, hs20, tf_u1 had7⟩ | 3, hj => by obtain rfl : _ = f := Option.some.inj hj; exact ⟨_, hs17, tf_u1 had13⟩ | (j + 4), hj => by cases hj) dX0_init_40

abbrev M_X5_init : List (Nat × Nat) := [(56, 0), (56, 1), (56, 2), (56, 3), (56, 4)]
set_option maxHeartbeats 4000000 in
set_option maxRecDepth 100000 in
theorem c_X5_init (l : Launch) (g : tf_G) (T : tf_T) (a0 : Nat) (ha0 : T a0 = some (56, 0)) : Met l yX5_init (cd_X5_init :: wsL_law) ({ frames := 1, cells := 4, slots := 24, locals := 40 }) (tf_P g T [.ref a0] (fun H => True)) (tf_QC g M_X5_init T a0 22) 4 24 (fun q => tf_B g ≤ q) := by
  refine Met.ofW (cc := cX5_init) (maxL := 1) (ret := none) (by decide) rfl ?_
  intro p e s m args below meth c s₁ B hml hv
  obtain ⟨hargs, hk, hW0, hB, hpre⟩ := hv
  have hx := B.exec
  have hb := B.bytes
  have hr := B.returns
  have hts : ∀ w ∈ wsL_law, w.before args s = true := fun w h => atoms_spec (ws := cd_X5_init :: wsL_law) B.pre w (List.mem_cons_of_mem _ h)
  have hown : s.vm.findClass RX5 = some m.cls := findClass_of_methodNamed B.named
  have hlocks := B.notSynchronized
  have hK := hk.1
  have hW := tf_n.start (M := M_X5_init) hW0 hB
  obtain ⟨Q, hQ⟩ : ∃ q, q = MQ below (tf_QC g M_X5_init T a0 22) args s 4 24 (fun q => tf_B g ≤ q) := ⟨_, rfl⟩
  rw [← hQ]
  obtain ⟨R, hR⟩ : ∃ q, q = (headSpec (cd_X5_init :: wsL_law) ({ frames := 1, cells := 4, slots := 24, locals := 40 })).room := ⟨_, rfl⟩
  rw [← hR]
  have hR1 : 1 ≤ R.frames := by rw [hR]; exact Nat.le_refl _
  have hR2 : 40 ≤ R.locals := by rw [hR]; exact Nat.le_refl _
  have hR3 : 4 ≤ R.cells := by rw [hR]; exact Nat.le_refl _
  have hR4 : 24 ≤ R.slots := by rw [hR]; exact Nat.le_refl _
  have hin := (name_of_methodNamed B.named B.method).1
  clear hR B
  refine tf_enter (As := [.ref a0]) hargs (Nat.le_of_ble_eq_true rfl) (fun ls hl => ?_)
  have hl : lv_has ls 1 [(0, .ref a0)] := hl
  refine lv_aload_n hx hb dX5_init_0 rfl (lv_at hl 0 rfl) ?_
  refine W.objInit hx hb hown (hts _ (tw4 (i := 1) rfl)) (hts _ (tw1 (i := 10) rfl)) (hts _ (tw1 (i := 11) rfl)) rfl (by rw [hml]; exact hl.1) rfl dX5_init_1 (Nat.le_trans (by decide) hR1) (Nat.le_trans (by exact Nat.le_of_ble_eq_true rfl) hR2) ?_
  refine W.eq (g2 := F0 m 4 ls []) rfl ?_
  refine lv_aload_n hx hb dX5_init_4 rfl (lv_at hl 0 rfl) ?_
  refine tf_bipush hx hb dX5_init_5 (by decide) ?_
  refine tf_newarr (atype := .int) (ty := .int) (f := (0, 0, 0, 0, 9)) (t0 := 0) (k := 2) (N := 6) hx hb (hts _ (tw2 (i := 5) rfl)) hK rfl rfl rfl (fun h => h) (tf_d0 (by decide) (by decide)) hW (by omega) rfl (by decide) (by decide) (Nat.le_trans (by omega) hR3) (Nat.le_trans (by omega) hR4) dX5_init_7 (fun ad1 H1 T hq1 hT1 had1 hE1 hW ho1 => ?_)
  have ha0 := hE1 _ _ ha0
  refine tf_putF hx hb hts inlX5 tyX5 tyX5_ok nmX5 hown hK (ci := 5) rfl hW ha0 rfl rfl 0 rfl (by decide) (by decide) (hts _ fl_X5_9) rfl hin rfl trivial rfl rfl dX5_init_9 (fun H2 locs2 hW hs2 ht2 hq2 => ?_)
  refine lv_aload_n hx hb dX5_init_12 rfl (lv_at hl 0 rfl) ?_
  refine tf_bipush hx hb dX5_init_13 (by decide) ?_
  refine tf_newarr (atype := .int) (ty := .int) (f := (0, 0, 0, 0, 9)) (t0 := 0) (k := 2) (N := 6) hx hb (hts _ (tw2 (i := 5) rfl)) hK rfl rfl rfl (fun h => h) (tf_d0 (by decide) (by decide)) hW (by omega) rfl (by decide) (by decide) (Nat.le_trans (by omega) hR3) (Nat.le_trans (by omega) hR4) dX5_init_15 (fun ad3 H3 T hq3 hT3 had3 hE3 hW ho3 => ?_)
  have hs4 := tf_keepQ hs2 (ho3 _ _ ha0)
  have ha0 := hE3 _ _ ha0
  have had1 := hE3 _ _ had1
  refine tf_putF hx hb hts inlX5 tyX5 tyX5_ok nmX5 hown hK (ci := 5) rfl hW ha0 rfl rfl 1 rfl (by decide) (by decide) (hts _ fl_X5_15) rfl hin rfl trivial rfl rfl dX5_init_17 (fun H5 locs5 hW hs5 ht5 hq5 => ?_)
  have hs6 := (ht5 0 (by decide) (by decide)).trans hs4
  refine lv_aload_n hx hb dX5_init_20 rfl (lv_at hl 0 rfl) ?_
  refine tf_bipush hx hb dX5_init_21 (by decide) ?_
  refine tf_newarr (atype := .int) (ty := .int) (f := (0, 0, 0, 0, 9)) (t0 := 0) (k := 2) (N := 6) hx hb (hts _ (tw2 (i := 5) rfl)) hK rfl rfl rfl (fun h => h) (tf_d0 (by decide) (by decide)) hW (by omega) rfl (by decide) (by decide) (Nat.le_trans (by omega) hR3) (Nat.le_trans (by omega) hR4) dX5_init_23 (fun ad7 H7 T hq7 hT7 had7 hE7 hW ho7 => ?_)
  have hs8 := tf_keepQ hs6 (ho7 _ _ ha0)
  have hs9 := tf_keepQ hs5 (ho7 _ _ ha0)
  have ha0 := hE7 _ _ ha0
  have had1 := hE7 _ _ had1
  have had3 := hE7 _ _ had3
  refine tf_putF hx hb hts inlX5 tyX5 tyX5_ok nmX5 hown hK (ci := 5) rfl hW ha0 rfl rfl 2 rfl (by decide) (by decide) (hts _ fl_X5_18) rfl hin rfl trivial rfl rfl dX5_init_25 (fun H10 locs10 hW hs10 ht10 hq10 => ?_)
  have hs11 := (ht10 0 (by decide) (by decide)).trans hs8
  have hs12 := (ht10 1 (by decide) (by decide)).trans hs9
  refine lv_aload_n hx hb dX5_init_28 rfl (lv_at hl 0 rfl) ?_
  refine tf_bipush hx hb dX5_init_29 (by decide) ?_
  refine tf_newarr (atype := .int) (ty := .int) (f := (0, 0, 0, 0, 9)) (t0 := 0) (k := 2) (N := 6) hx hb (hts _ (tw2 (i := 5) rfl)) hK rfl rfl rfl (fun h => h) (tf_d0 (by decide) (by decide)) hW (by omega) rfl (by decide) (by decide) (Nat.le_trans (by omega) hR3) (Nat.le_trans (by omega) hR4) dX5_init_31 (fun ad13 H13 T hq13 hT13 had13 hE13 hW ho13 => ?_)
  have hs14 := tf_keepQ hs11 (ho13 _ _ ha0)
  have hs15 := tf_keepQ hs12 (ho13 _ _ ha0)
  have hs16 := tf_keepQ hs10 (ho13 _ _ ha0)
  have ha0 := hE13 _ _ ha0
  have had1 := hE13 _ _ had1
  have had3 := hE13 _ _ had3
  have had7 := hE13 _ _ had7
  refine tf_putF hx hb hts inlX5 tyX5 tyX5_ok nmX5 hown hK (ci := 5) rfl hW ha0 rfl rfl 3 rfl (by decide) (by decide) (hts _ fl_X5_21) rfl hin rfl trivial rfl rfl dX5_init_33 (fun H17 locs17 hW hs17 ht17 hq17 => ?_)
  have hs18 := (ht17 0 (by decide) (by decide)).trans hs14
  have hs19 := (ht17 1 (by decide) (by decide)).trans hs15
  have hs20 := (ht17 2 (by decide) (by decide)).trans hs16
  refine lv_aload_n hx hb dX5_init_36 rfl (lv_at hl 0 rfl) ?_
  refine tf_iconst hx hb dX5_init_37 ?_
  refine tf_put hx hb hts inlX5 tyX5 tyX5_ok nmX5 hown hK (ci := 5) rfl hW ha0 rfl rfl 4 rfl (by decide) (by decide) (hts _ fl_X5_24) rfl trivial rfl rfl dX5_init_38 (fun H21 locs21 hW hs21 ht21 hq21 => ?_)
  have hs22 := (ht21 0 (by decide) (by decide)).trans hs18
  have hs23 := (ht21 1 (by decide) (by decide)).trans hs19
  have hs24 := (ht21 2 (by decide) (by decide)).trans hs20
  have hs25 := (ht21 3 (by decide) (by decide)).trans hs17
  refine W.widen (k := 4) (n := 24) (by omega) (by omega) ?_
  exact tf_retC (ci := 5) hx hb hr hlocks hQ hW ha0 rfl (by decide) rfl (fun j f hj => match j, hj with | 0, hj => by obtain rfl : _ = f := Option.some.inj hj; exact ⟨_, hs22, tf_u1 had1⟩ | 1, hj => by obtain rfl : _ = f := Option.some.inj hj; exact ⟨_, hs23, tf_u1 had3⟩ | 2, hj => by obtain rfl : _ = f := Option.some.inj hj; exact ⟨_, hs24, tf_u1 had7⟩ | 3, hj => by obtain rfl : _ = f := Option.some.inj hj; exact ⟨_, hs25, tf_u1 had13⟩ | 4, hj => by obtain rfl : _ = f := Option.some.inj hj; exact ⟨_, hs21, tf_u0 (by omega) (by omega)⟩ | (j + 5), hj => by cases hj) dX5_init_41

abbrev M_X8_init : List (Nat × Nat) := [(59, 0), (59, 1), (59, 2), (59, 3), (59, 4)]
set_option maxHeartbeats 4000000 in
set_option maxRecDepth 100000 in
theorem c_X8_init (l : Launch) (g : tf_G) (T : tf_T) (a0 : Nat) (ha0 : T a0 = some (59, 0)) : Met l yX8_init (cd_X8_init :: wsL_law) ({ frames := 1, cells := 4, slots := 32, locals := 40 }) (tf_P g T [.ref a0] (fun H => True)) (tf_QC g M_X8_init T a0 25) 4 32 (fun q => tf_B g ≤ q) := by
  refine Met.ofW (cc := cX8_init) (maxL := 1) (ret := none) (by decide) rfl ?_
  intro p e s m args below meth c s₁ B hml hv
  obtain ⟨hargs, hk, hW0, hB, hpre⟩ := hv
  have hx := B.exec
  have hb := B.bytes
  have hr := B.returns
  have hts : ∀ w ∈ wsL_law, w.before args s = true := fun w h => atoms_spec (ws := cd_X8_init :: wsL_law) B.pre w (List.mem_cons_of_mem _ h)
  have hown : s.vm.findClass RX8 = some m.cls := findClass_of_methodNamed B.named
  have hlocks := B.notSynchronized
  have hK := hk.1
  have hW := tf_n.start (M := M_X8_init) hW0 hB
  obtain ⟨Q, hQ⟩ : ∃ q, q = MQ below (tf_QC g M_X8_init T a0 25) args s 4 32 (fun q => tf_B g ≤ q) := ⟨_, rfl⟩
  rw [← hQ]
  obtain ⟨R, hR⟩ : ∃ q, q = (headSpec (cd_X8_init :: wsL_law) ({ frames := 1, cells := 4, slots := 32, locals := 40 })).room := ⟨_, rfl⟩
  rw [← hR]
  have hR1 : 1 ≤ R.frames := by rw [hR]; exact Nat.le_refl _
  have hR2 : 40 ≤ R.locals := by rw [hR]; exact Nat.le_refl _
  have hR3 : 4 ≤ R.cells := by rw [hR]; exact Nat.le_refl _
  have hR4 : 32 ≤ R.slots := by rw [hR]; exact Nat.le_refl _
  have hin := (name_of_methodNamed B.named B.method).1
  clear hR B
  refine tf_enter (As := [.ref a0]) hargs (Nat.le_of_ble_eq_true rfl) (fun ls hl => ?_)
  have hl : lv_has ls 1 [(0, .ref a0)] := hl
  refine lv_aload_n hx hb dX8_init_0 rfl (lv_at hl 0 rfl) ?_
  refine W.objInit hx hb hown (hts _ (tw4 (i := 9) rfl)) (hts _ (tw1 (i := 10) rfl)) (hts _ (tw1 (i := 11) rfl)) rfl (by rw [hml]; exact hl.1) rfl dX8_init_1 (Nat.le_trans (by decide) hR1) (Nat.le_trans (by exact Nat.le_of_ble_eq_true rfl) hR2) ?_
  refine W.eq (g2 := F0 m 4 ls []) rfl ?_
  refine lv_aload_n hx hb dX8_init_4 rfl (lv_at hl 0 rfl) ?_
  refine tf_bipush hx hb dX8_init_5 (by decide) ?_
  refine tf_newarr (atype := .int) (ty := .int) (f := (0, 0, 0, -2147483648, 2147483647)) (t0 := 0) (k := 9) (N := 8) hx hb (hts _ (tw2 (i := 5) rfl)) hK rfl rfl rfl (fun h => h) (tf_d0 (by decide) (by decide)) hW (by omega) rfl (by decide) (by decide) (Nat.le_trans (by omega) hR3) (Nat.le_trans (by omega) hR4) dX8_init_7 (fun ad1 H1 T hq1 hT1 had1 hE1 hW ho1 => ?_)
  have ha0 := hE1 _ _ ha0
  refine tf_putF hx hb hts inlX8 tyX8 tyX8_ok nmX8 hown hK (ci := 8) rfl hW ha0 rfl rfl 0 rfl (by decide) (by decide) (hts _ fl_X8_9) rfl hin rfl trivial rfl rfl dX8_init_9 (fun H2 locs2 hW hs2 ht2 hq2 => ?_)
  refine lv_aload_n hx hb dX8_init_12 rfl (lv_at hl 0 rfl) ?_
  refine tf_bipush hx hb dX8_init_13 (by decide) ?_
  refine tf_newarr (atype := .int) (ty := .int) (f := (0, 0, 0, -2147483648, 2147483647)) (t0 := 0) (k := 9) (N := 8) hx hb (hts _ (tw2 (i := 5) rfl)) hK rfl rfl rfl (fun h => h) (tf_d0 (by decide) (by decide)) hW (by omega) rfl (by decide) (by decide) (Nat.le_trans (by omega) hR3) (Nat.le_trans (by omega) hR4) dX8_init_15 (fun ad3 H3 T hq3 hT3 had3 hE3 hW ho3 => ?_)
  have hs4 := tf_keepQ hs2 (ho3 _ _ ha0)
  have ha0 := hE3 _ _ ha0
  have had1 := hE3 _ _ had1
  refine tf_putF hx hb hts inlX8 tyX8 tyX8_ok nmX8 hown hK (ci := 8) rfl hW ha0 rfl rfl 1 rfl (by decide) (by decide) (hts _ fl_X8_15) rfl hin rfl trivial rfl rfl dX8_init_17 (fun H5 locs5 hW hs5 ht5 hq5 => ?_)
  have hs6 := (ht5 0 (by decide) (by decide)).trans hs4
  refine lv_aload_n hx hb dX8_init_20 rfl (lv_at hl 0 rfl) ?_
  refine tf_bipush hx hb dX8_init_21 (by decide) ?_
  refine tf_newarr (atype := .int) (ty := .int) (f := (0, 0, 0, -2147483648, 2147483647)) (t0 := 0) (k := 9) (N := 8) hx hb (hts _ (tw2 (i := 5) rfl)) hK rfl rfl rfl (fun h => h) (tf_d0 (by decide) (by decide)) hW (by omega) rfl (by decide) (by decide) (Nat.le_trans (by omega) hR3) (Nat.le_trans (by omega) hR4) dX8_init_23 (fun ad7 H7 T hq7 hT7 had7 hE7 hW ho7 => ?_)
  have hs8 := tf_keepQ hs6 (ho7 _ _ ha0)
  have hs9 := tf_keepQ hs5 (ho7 _ _ ha0)
  have ha0 := hE7 _ _ ha0
  have had1 := hE7 _ _ had1
  have had3 := hE7 _ _ had3
  refine tf_putF hx hb hts inlX8 tyX8 tyX8_ok nmX8 hown hK (ci := 8) rfl hW ha0 rfl rfl 2 rfl (by decide) (by decide) (hts _ fl_X8_18) rfl hin rfl trivial rfl rfl dX8_init_25 (fun H10 locs10 hW hs10 ht10 hq10 => ?_)
  have hs11 := (ht10 0 (by decide) (by decide)).trans hs8
  have hs12 := (ht10 1 (by decide) (by decide)).trans hs9
  refine lv_aload_n hx hb dX8_init_28 rfl (lv_at hl 0 rfl) ?_
  refine tf_bipush hx hb dX8_init_29 (by decide) ?_
  refine tf_newarr (atype := .int) (ty := .int) (f := (0, 0, 0, -2147483648, 2147483647)) (t0 := 0) (k := 9) (N := 8) hx hb (hts _ (tw2 (i := 5) rfl)) hK rfl rfl rfl (fun h => h) (tf_d0 (by decide) (by decide)) hW (by omega) rfl (by decide) (by decide) (Nat.le_trans (by omega) hR3) (Nat.le_trans (by omega) hR4) dX8_init_31 (fun ad13 H13 T hq13 hT13 had13 hE13 hW ho13 => ?_)
  have hs14 := tf_keepQ hs11 (ho13 _ _ ha0)
  have hs15 := tf_keepQ hs12 (ho13 _ _ ha0)
  have hs16 := tf_keepQ hs10 (ho13 _ _ ha0)
  have ha0 := hE13 _ _ ha0
  have had1 := hE13 _ _ had1
  have had3 := hE13 _ _ had3
  have had7 := hE13 _ _ had7
  refine tf_putF hx hb hts inlX8 tyX8 tyX8_ok nmX8 hown hK (ci := 8) rfl hW ha0 rfl rfl 3 rfl (by decide) (by decide) (hts _ fl_X8_21) rfl hin rfl trivial rfl rfl dX8_init_33 (fun H17 locs17 hW hs17 ht17 hq17 => ?_)
  have hs18 := (ht17 0 (by decide) (by decide)).trans hs14
  have hs19 := (ht17 1 (by decide) (by decide)).trans hs15
  have hs20 := (ht17 2 (by decide) (by decide)).trans hs16
  refine lv_aload_n hx hb dX8_init_36 rfl (lv_at hl 0 rfl) ?_
  refine tf_iconst hx hb dX8_init_37 ?_
  refine tf_put hx hb hts inlX8 tyX8 tyX8_ok nmX8 hown hK (ci := 8) rfl hW ha0 rfl rfl 4 rfl (by decide) (by decide) (hts _ fl_X8_24) rfl trivial rfl rfl dX8_init_38 (fun H21 locs21 hW hs21 ht21 hq21 => ?_)
  have hs22 := (ht21 0 (by decide) (by decide)).trans hs18
  have hs23 := (ht21 1 (by decide) (by decide)).trans hs19
  have hs24 := (ht21 2 (by decide) (by decide)).trans hs20
  have hs25 := (ht21 3 (by decide) (by decide)).trans hs17
  refine W.widen (k := 4) (n := 32) (by omega) (by omega) ?_
  exact tf_retC (ci := 8) hx hb hr hlocks hQ hW ha0 rfl (by decide) rfl (fun j f hj => match j, hj with | 0, hj => by obtain rfl : _ = f := Option.some.inj hj; exact ⟨_, hs22, tf_u1 had1⟩ | 1, hj => by obtain rfl : _ = f := Option.some.inj hj; exact ⟨_, hs23, tf_u1 had3⟩ | 2, hj => by obtain rfl : _ = f := Option.some.inj hj; exact ⟨_, hs24, tf_u1 had7⟩ | 3, hj => by obtain rfl : _ = f := Option.some.inj hj; exact ⟨_, hs25, tf_u1 had13⟩ | 4, hj => by obtain rfl : _ = f := Option.some.inj hj; exact ⟨_, hs21, tf_u0 (by omega) (by omega)⟩ | (j + 5), hj => by cases hj) dX8_init_41

abbrev M_X3_init : List (Nat × Nat) := [(5, 0), (51, 0), (51, 1), (51, 2), (51, 3), (54, 0), (54, 1), (54, 2), (54, 3), (54, 4), (54, 5), (54, 6), (54, 7), (54, 8), (54, 9), (54, 10), (54, 11), (56, 0), (56, 1), (56, 2), (56, 3), (56, 4), (59, 0), (59, 1), (59, 2), (59, 3), (59, 4)]
set_option maxHeartbeats 4000000 in
set_option maxRecDepth 100000 in
theorem c_X3_init (l : Launch) (g : tf_G) (T : tf_T) (a0 : Nat) (ha0 : T a0 = some (54, 0)) : Met l yX3_init (cd_X3_init :: wsL_law) ({ frames := 2, cells := 21, slots := 1164, locals := 60 }) (tf_P g T [.ref a0] (fun H => True)) (tf_QC g M_X3_init T a0 20) 21 1164 (fun q => tf_B g ≤ q) := by
  refine Met.ofW (cc := cX3_init) (maxL := 1) (ret := none) (by decide) rfl ?_
  intro p e s m args below meth c s₁ B hml hv
  obtain ⟨hargs, hk, hW0, hB, hpre⟩ := hv
  have hx := B.exec
  have hb := B.bytes
  have hr := B.returns
  have hts : ∀ w ∈ wsL_law, w.before args s = true := fun w h => atoms_spec (ws := cd_X3_init :: wsL_law) B.pre w (List.mem_cons_of_mem _ h)
  have hown : s.vm.findClass RX3 = some m.cls := findClass_of_methodNamed B.named
  have hlocks := B.notSynchronized
  have hK := hk.1
  have hW := tf_n.start (M := M_X3_init) hW0 hB
  obtain ⟨Q, hQ⟩ : ∃ q, q = MQ below (tf_QC g M_X3_init T a0 20) args s 21 1164 (fun q => tf_B g ≤ q) := ⟨_, rfl⟩
  rw [← hQ]
  obtain ⟨R, hR⟩ : ∃ q, q = (headSpec (cd_X3_init :: wsL_law) ({ frames := 2, cells := 21, slots := 1164, locals := 60 })).room := ⟨_, rfl⟩
  rw [← hR]
  have hR1 : 2 ≤ R.frames := by rw [hR]; exact Nat.le_refl _
  have hR2 : 60 ≤ R.locals := by rw [hR]; exact Nat.le_refl _
  have hR3 : 21 ≤ R.cells := by rw [hR]; exact Nat.le_refl _
  have hR4 : 1164 ≤ R.slots := by rw [hR]; exact Nat.le_refl _
  have hin := (name_of_methodNamed B.named B.method).1
  clear hR B
  refine tf_enter (As := [.ref a0]) hargs (Nat.le_of_ble_eq_true rfl) (fun ls hl => ?_)
  have hl : lv_has ls 1 [(0, .ref a0)] := hl
  refine lv_aload_n hx hb dX3_init_0 rfl (lv_at hl 0 rfl) ?_
  refine W.objInit hx hb hown (hts _ (tw2 (i := 17) rfl)) (hts _ (tw1 (i := 10) rfl)) (hts _ (tw1 (i := 11) rfl)) rfl (by rw [hml]; exact hl.1) rfl dX3_init_1 (Nat.le_trans (by decide) hR1) (Nat.le_trans (by exact Nat.le_of_ble_eq_true rfl) hR2) ?_
  refine W.eq (g2 := F0 m 4 ls []) rfl ?_
  refine lv_aload_n hx hb dX3_init_4 rfl (lv_at hl 0 rfl) ?_
  have hsz1 := hW.2.2.1.1
  refine tf_new (kr := 51) hx hb hts inlX0 tyX0 tyX0_ok hown (hts _ (tw2 (i := 18) rfl)) (hts _ (tw2 (i := 19) rfl)) (hts _ (tw2 (i := 20) rfl)) hK (ci := 0) rfl hW rfl ⟨rfl, by decide⟩ (Nat.le_trans (by omega) hR3) (Nat.le_trans (by omega) hR4) dX3_init_5 (fun ad1 H1 T hq1 hT1 had1 hE1 hW ho1 => ?_)
  have hsz1 := Nat.le_trans hsz1 (Nat.le_of_eq hq1)
  have ha0 := hE1 _ _ ha0
  refine lv_dup hx hb dX3_init_8 rfl ?_
  refine tf_callC (va_runIN (As := []) (rest := [.ref ad1, .ref a0]) ⟨hx, hb, hml, hown, hts⟩ (c_X0_init l g T ad1 had1) ⟨va_cnB 0 hts (gw_ws cm_X0_init) rfl rfl rfl (hk.2.1 _ nw_1) (hts _ (tw2 (i := 20) rfl)) hd_X0_init.2 ⟨Nat.le_trans (by decide) hR1, Nat.le_trans (by decide) hR2⟩, rfl, hts _ (tw3 (i := 16) rfl)⟩ (tf_preS hk hW trivial) rfl rfl hl.1 rfl (lv_room (Nat.le_of_ble_eq_true rfl)) dX3_init_9 ⟨Nat.le_trans (by omega) hR3, Nat.le_trans (by omega) hR4⟩) hW (by decide) (tf_fresh hW0 hsz1) hsz1 had1 (fun H2 locs2 T hW hn2 hE2 hF2 => ?_)
  have ha0 := hE2 _ _ (tf_ne ha0 had1 (by decide)) ha0
  refine tf_putF hx hb hts inlX3 tyX3 tyX3_ok nmX3 hown hK (ci := 3) rfl hW ha0 rfl rfl 0 rfl (by decide) (by decide) (hts _ fl_X3_12) rfl hin rfl trivial rfl rfl dX3_init_12 (fun H3 locs3 hW hs3 ht3 hq3 => ?_)
  refine lv_aload_n hx hb dX3_init_15 rfl (lv_at hl 0 rfl) ?_
  have hsz4 := hW.2.2.1.1
  refine tf_new (kr := 56) hx hb hts inlX5 tyX5 tyX5_ok hown (hts _ (tw2 (i := 22) rfl)) (hts _ (tw2 (i := 23) rfl)) (hts _ (tw3 (i := 0) rfl)) hK (ci := 5) rfl hW rfl ⟨rfl, by decide⟩ (Nat.le_trans (by omega) hR3) (Nat.le_trans (by omega) hR4) dX3_init_16 (fun ad4 H4 T hq4 hT4 had4 hE4 hW ho4 => ?_)
  have hsz4 := Nat.le_trans hsz4 (Nat.le_of_eq hq4)
  have hs5 := tf_keepQ hs3 (ho4 _ _ ha0)
  have ha0 := hE4 _ _ ha0
  have hn2 := hE4 _ _ hn2
  refine lv_dup hx hb dX3_init_19 rfl ?_
  refine tf_callC (va_runIN (As := []) (rest := [.ref ad4, .ref a0]) ⟨hx, hb, hml, hown, hts⟩ (c_X5_init l g T ad4 had4) ⟨va_cnB 0 hts (gw_ws cm_X5_init) rfl rfl rfl (hk.2.1 _ nw_2) (hts _ (tw3 (i := 0) rfl)) hd_X5_init.2 ⟨Nat.le_trans (by decide) hR1, Nat.le_trans (by decide) hR2⟩, rfl, hts _ (tw3 (i := 23) rfl)⟩ (tf_preS hk hW trivial) rfl rfl hl.1 rfl (lv_room (Nat.le_of_ble_eq_true rfl)) dX3_init_20 ⟨Nat.le_trans (by omega) hR3, Nat.le_trans (by omega) hR4⟩) hW (by decide) (tf_fresh hW0 hsz4) hsz4 had4 (fun H6 locs6 T hW hn6 hE6 hF6 => ?_)
  have hs7 := tf_keepF hF6 ha0 rfl rfl (by decide) hs5
  have ha0 := hE6 _ _ (tf_ne ha0 had4 (by decide)) ha0
  have hn2 := hE6 _ _ (tf_ne hn2 had4 (by decide)) hn2
  refine tf_putF hx hb hts inlX3 tyX3 tyX3_ok nmX3 hown hK (ci := 3) rfl hW ha0 rfl rfl 1 rfl (by decide) (by decide) (hts _ fl_X3_21) rfl hin rfl trivial rfl rfl dX3_init_23 (fun H8 locs8 hW hs8 ht8 hq8 => ?_)
  have hs9 := (ht8 0 (by decide) (by decide)).trans hs7
  refine lv_aload_n hx hb dX3_init_26 rfl (lv_at hl 0 rfl) ?_
  have hsz10 := hW.2.2.1.1
  refine tf_new (kr := 59) hx hb hts inlX8 tyX8 tyX8_ok hown (hts _ (tw3 (i := 2) rfl)) (hts _ (tw3 (i := 3) rfl)) (hts _ (tw3 (i := 4) rfl)) hK (ci := 8) rfl hW rfl ⟨rfl, by decide⟩ (Nat.le_trans (by omega) hR3) (Nat.le_trans (by omega) hR4) dX3_init_27 (fun ad10 H10 T hq10 hT10 had10 hE10 hW ho10 => ?_)
  have hsz10 := Nat.le_trans hsz10 (Nat.le_of_eq hq10)
  have hs11 := tf_keepQ hs9 (ho10 _ _ ha0)
  have hs12 := tf_keepQ hs8 (ho10 _ _ ha0)
  have ha0 := hE10 _ _ ha0
  have hn2 := hE10 _ _ hn2
  have hn6 := hE10 _ _ hn6
  refine lv_dup hx hb dX3_init_30 rfl ?_
  refine tf_callC (va_runIN (As := []) (rest := [.ref ad10, .ref a0]) ⟨hx, hb, hml, hown, hts⟩ (c_X8_init l g T ad10 had10) ⟨va_cnB 0 hts (gw_ws cm_X8_init) rfl rfl rfl (hk.2.1 _ nw_3) (hts _ (tw3 (i := 4) rfl)) hd_X8_init.2 ⟨Nat.le_trans (by decide) hR1, Nat.le_trans (by decide) hR2⟩, rfl, hts _ (tw4 (i := 7) rfl)⟩ (tf_preS hk hW trivial) rfl rfl hl.1 rfl (lv_room (Nat.le_of_ble_eq_true rfl)) dX3_init_31 ⟨Nat.le_trans (by omega) hR3, Nat.le_trans (by omega) hR4⟩) hW (by decide) (tf_fresh hW0 hsz10) hsz10 had10 (fun H13 locs13 T hW hn13 hE13 hF13 => ?_)
  have hs14 := tf_keepF hF13 ha0 rfl rfl (by decide) hs11
  have hs15 := tf_keepF hF13 ha0 rfl rfl (by decide) hs12
  have ha0 := hE13 _ _ (tf_ne ha0 had10 (by decide)) ha0
  have hn2 := hE13 _ _ (tf_ne hn2 had10 (by decide)) hn2
  have hn6 := hE13 _ _ (tf_ne hn6 had10 (by decide)) hn6
  refine tf_putF hx hb hts inlX3 tyX3 tyX3_ok nmX3 hown hK (ci := 3) rfl hW ha0 rfl rfl 2 rfl (by decide) (by decide) (hts _ fl_X3_28) rfl hin rfl trivial rfl rfl dX3_init_34 (fun H16 locs16 hW hs16 ht16 hq16 => ?_)
  have hs17 := (ht16 0 (by decide) (by decide)).trans hs14
  have hs18 := (ht16 1 (by decide) (by decide)).trans hs15
  refine lv_aload_n hx hb dX3_init_37 rfl (lv_at hl 0 rfl) ?_
  refine tf_iconst hx hb dX3_init_38 ?_
  refine tf_newarr (atype := .int) (ty := .int) (f := (0, 0, 0, 0, 9999)) (t0 := 0) (k := 5) (N := 4) hx hb (hts _ (tw2 (i := 5) rfl)) hK rfl rfl rfl (fun h => h) (tf_d0 (by decide) (by decide)) hW (by omega) rfl (by decide) (by decide) (Nat.le_trans (by omega) hR3) (Nat.le_trans (by omega) hR4) dX3_init_39 (fun ad19 H19 T hq19 hT19 had19 hE19 hW ho19 => ?_)
  have hs20 := tf_keepQ hs17 (ho19 _ _ ha0)
  have hs21 := tf_keepQ hs18 (ho19 _ _ ha0)
  have hs22 := tf_keepQ hs16 (ho19 _ _ ha0)
  have ha0 := hE19 _ _ ha0
  have hn2 := hE19 _ _ hn2
  have hn6 := hE19 _ _ hn6
  have hn13 := hE19 _ _ hn13
  refine lv_dup hx hb dX3_init_41 rfl ?_
  refine tf_iconst hx hb dX3_init_42 ?_
  refine tf_iconst hx hb dX3_init_43 ?_
  refine tf_iast (t0 := 0) hx hb hK hW had19 rfl rfl (by omega) (by omega) (by decide) (tf_u0 (by omega) (by omega)) dX3_init_44 (fun H23 locs23 hW hs23 ht23 hq23 => ?_)
  have hs24 := tf_keepQ hs20 (hq23 _ (tf_ne ha0 had19 (by decide)))
  have hs25 := tf_keepQ hs21 (hq23 _ (tf_ne ha0 had19 (by decide)))
  have hs26 := tf_keepQ hs22 (hq23 _ (tf_ne ha0 had19 (by decide)))
  refine lv_dup hx hb dX3_init_45 rfl ?_
  refine tf_iconst hx hb dX3_init_46 ?_
  refine tf_bipush hx hb dX3_init_47 (by decide) ?_
  refine tf_iast (t0 := 0) hx hb hK hW had19 rfl rfl (by omega) (by omega) (by decide) (tf_u0 (by omega) (by omega)) dX3_init_49 (fun H27 locs27 hW hs27 ht27 hq27 => ?_)
  have hs28 := tf_keepQ hs24 (hq27 _ (tf_ne ha0 had19 (by decide)))
  have hs29 := tf_keepQ hs25 (hq27 _ (tf_ne ha0 had19 (by decide)))
  have hs30 := tf_keepQ hs26 (hq27 _ (tf_ne ha0 had19 (by decide)))
  refine lv_dup hx hb dX3_init_50 rfl ?_
  refine tf_iconst hx hb dX3_init_51 ?_
  refine tf_bipush hx hb dX3_init_52 (by decide) ?_
  refine tf_iast (t0 := 0) hx hb hK hW had19 rfl rfl (by omega) (by omega) (by decide) (tf_u0 (by omega) (by omega)) dX3_init_54 (fun H31 locs31 hW hs31 ht31 hq31 => ?_)
  have hs32 := tf_keepQ hs28 (hq31 _ (tf_ne ha0 had19 (by decide)))
  have hs33 := tf_keepQ hs29 (hq31 _ (tf_ne ha0 had19 (by decide)))
  have hs34 := tf_keepQ hs30 (hq31 _ (tf_ne ha0 had19 (by decide)))
  refine lv_dup hx hb dX3_init_55 rfl ?_
  refine tf_iconst hx hb dX3_init_56 ?_
  refine tf_bipush hx hb dX3_init_57 (by decide) ?_
  refine tf_iast (t0 := 0) hx hb hK hW had19 rfl rfl (by omega) (by omega) (by decide) (tf_u0 (by omega) (by omega)) dX3_init_59 (fun H35 locs35 hW hs35 ht35 hq35 => ?_)
  have hs36 := tf_keepQ hs32 (hq35 _ (tf_ne ha0 had19 (by decide)))
  have hs37 := tf_keepQ hs33 (hq35 _ (tf_ne ha0 had19 (by decide)))
  have hs38 := tf_keepQ hs34 (hq35 _ (tf_ne ha0 had19 (by decide)))
  refine tf_putF hx hb hts inlX3 tyX3 tyX3_ok nmX3 hown hK (ci := 3) rfl hW ha0 rfl rfl 3 rfl (by decide) (by decide) (hts _ fl_X3_32) rfl hin rfl trivial rfl rfl dX3_init_60 (fun H39 locs39 hW hs39 ht39 hq39 => ?_)
  have hs40 := (ht39 0 (by decide) (by decide)).trans hs36
  have hs41 := (ht39 1 (by decide) (by decide)).trans hs37
  have hs42 := (ht39 2 (by decide) (by decide)).trans hs38
  refine lv_aload_n hx hb dX3_init_63 rfl (lv_at hl 0 rfl) ?_
  refine tf_iconst hx hb dX3_init_64 ?_
  refine tf_newarr (atype := .int) (ty := .int) (f := (0, 0, 0, 0, 9999)) (t0 := 0) (k := 5) (N := 4) hx hb (hts _ (tw2 (i := 5) rfl)) hK rfl rfl rfl (fun h => h) (tf_d0 (by decide) (by decide)) hW (by omega) rfl (by decide) (by decide) (Nat.le_trans (by omega) hR3) (Nat.le_trans (by omega) hR4) dX3_init_65 (fun ad43 H43 T hq43 hT43 had43 hE43 hW ho43 => ?_)
  have hs44 := tf_keepQ hs40 (ho43 _ _ ha0)
  have hs45 := tf_keepQ hs41 (ho43 _ _ ha0)
  have hs46 := tf_keepQ hs42 (ho43 _ _ ha0)
  have hs47 := tf_keepQ hs39 (ho43 _ _ ha0)
  have ha0 := hE43 _ _ ha0
  have hn2 := hE43 _ _ hn2
  have hn6 := hE43 _ _ hn6
  have hn13 := hE43 _ _ hn13
  have had19 := hE43 _ _ had19
  refine tf_putF hx hb hts inlX3 tyX3 tyX3_ok nmX3 hown hK (ci := 3) rfl hW ha0 rfl rfl 4 rfl (by decide) (by decide) (hts _ fl_X3_36) rfl hin rfl trivial rfl rfl dX3_init_67 (fun H48 locs48 hW hs48 ht48 hq48 => ?_)
  have hs49 := (ht48 0 (by decide) (by decide)).trans hs44
  have hs50 := (ht48 1 (by decide) (by decide)).trans hs45
  have hs51 := (ht48 2 (by decide) (by decide)).trans hs46
  have hs52 := (ht48 3 (by decide) (by decide)).trans hs47
  refine lv_aload_n hx hb dX3_init_70 rfl (lv_at hl 0 rfl) ?_
  refine tf_bipush hx hb dX3_init_71 (by decide) ?_
  refine tf_newarr (atype := .int) (ty := .int) (f := (0, 0, 0, -2147483648, 2147483647)) (t0 := 0) (k := 6) (N := 40) hx hb (hts _ (tw2 (i := 5) rfl)) hK rfl rfl rfl (fun h => h) (tf_d0 (by decide) (by decide)) hW (by omega) rfl (by decide) (by decide) (Nat.le_trans (by omega) hR3) (Nat.le_trans (by omega) hR4) dX3_init_73 (fun ad53 H53 T hq53 hT53 had53 hE53 hW ho53 => ?_)
  have hs54 := tf_keepQ hs49 (ho53 _ _ ha0)
  have hs55 := tf_keepQ hs50 (ho53 _ _ ha0)
  have hs56 := tf_keepQ hs51 (ho53 _ _ ha0)
  have hs57 := tf_keepQ hs52 (ho53 _ _ ha0)
  have hs58 := tf_keepQ hs48 (ho53 _ _ ha0)
  have ha0 := hE53 _ _ ha0
  have hn2 := hE53 _ _ hn2
  have hn6 := hE53 _ _ hn6
  have hn13 := hE53 _ _ hn13
  have had19 := hE53 _ _ had19
  have had43 := hE53 _ _ had43
  refine tf_putF hx hb hts inlX3 tyX3 tyX3_ok nmX3 hown hK (ci := 3) rfl hW ha0 rfl rfl 5 rfl (by decide) (by decide) (hts _ fl_X3_39) rfl hin rfl trivial rfl rfl dX3_init_75 (fun H59 locs59 hW hs59 ht59 hq59 => ?_)
  have hs60 := (ht59 0 (by decide) (by decide)).trans hs54
  have hs61 := (ht59 1 (by decide) (by decide)).trans hs55
  have hs62 := (ht59 2 (by decide) (by decide)).trans hs56
  have hs63 := (ht59 3 (by decide) (by decide)).trans hs57
  have hs64 := (ht59 4 (by decide) (by decide)).trans hs58
  refine lv_aload_n hx hb dX3_init_78 rfl (lv_at hl 0 rfl) ?_
  refine tf_iconst hx hb dX3_init_79 ?_
  refine tf_newarr (atype := .int) (ty := .int) (f := (0, 0, 0, -2147483648, 2147483647)) (t0 := 0) (k := 7) (N := 4) hx hb (hts _ (tw2 (i := 5) rfl)) hK rfl rfl rfl (fun h => h) (tf_d0 (by decide) (by decide)) hW (by omega) rfl (by decide) (by decide) (Nat.le_trans (by omega) hR3) (Nat.le_trans (by omega) hR4) dX3_init_80 (fun ad65 H65 T hq65 hT65 had65 hE65 hW ho65 => ?_)
  have hs66 := tf_keepQ hs60 (ho65 _ _ ha0)
  have hs67 := tf_keepQ hs61 (ho65 _ _ ha0)
  have hs68 := tf_keepQ hs62 (ho65 _ _ ha0)
  have hs69 := tf_keepQ hs63 (ho65 _ _ ha0)
  have hs70 := tf_keepQ hs64 (ho65 _ _ ha0)
  have hs71 := tf_keepQ hs59 (ho65 _ _ ha0)
  have ha0 := hE65 _ _ ha0
  have hn2 := hE65 _ _ hn2
  have hn6 := hE65 _ _ hn6
  have hn13 := hE65 _ _ hn13
  have had19 := hE65 _ _ had19
  have had43 := hE65 _ _ had43
  have had53 := hE65 _ _ had53
  refine tf_putF hx hb hts inlX3 tyX3 tyX3_ok nmX3 hown hK (ci := 3) rfl hW ha0 rfl rfl 6 rfl (by decide) (by decide) (hts _ fl_X3_42) rfl hin rfl trivial rfl rfl dX3_init_82 (fun H72 locs72 hW hs72 ht72 hq72 => ?_)
  have hs73 := (ht72 0 (by decide) (by decide)).trans hs66
  have hs74 := (ht72 1 (by decide) (by decide)).trans hs67
  have hs75 := (ht72 2 (by decide) (by decide)).trans hs68
  have hs76 := (ht72 3 (by decide) (by decide)).trans hs69
  have hs77 := (ht72 4 (by decide) (by decide)).trans hs70
  have hs78 := (ht72 5 (by decide) (by decide)).trans hs71
  refine lv_aload_n hx hb dX3_init_85 rfl (lv_at hl 0 rfl) ?_
  refine tf_bipush hx hb dX3_init_86 (by decide) ?_
  refine tf_anewarr (t0 := 4) (k := 13) (N := 6) hx hb hown (hts _ (tw3 (i := 10) rfl)) hk.2.2.2.1 hK rfl rfl hW (by omega) rfl (by decide) (Nat.le_trans (by omega) hR3) (Nat.le_trans (by omega) hR4) dX3_init_88 (fun ad79 H79 T hq79 hT79 had79 hE79 hW ho79 => ?_)
  have hs80 := tf_keepQ hs73 (ho79 _ _ ha0)
  have hs81 := tf_keepQ hs74 (ho79 _ _ ha0)
  have hs82 := tf_keepQ hs75 (ho79 _ _ ha0)
  have hs83 := tf_keepQ hs76 (ho79 _ _ ha0)
  have hs84 := tf_keepQ hs77 (ho79 _ _ ha0)
  have hs85 := tf_keepQ hs78 (ho79 _ _ ha0)
  have hs86 := tf_keepQ hs72 (ho79 _ _ ha0)
  have ha0 := hE79 _ _ ha0
  have hn2 := hE79 _ _ hn2
  have hn6 := hE79 _ _ hn6
  have hn13 := hE79 _ _ hn13
  have had19 := hE79 _ _ had19
  have had43 := hE79 _ _ had43
  have had53 := hE79 _ _ had53
  have had65 := hE79 _ _ had65
  refine tf_putF hx hb hts inlX3 tyX3 tyX3_ok nmX3 hown hK (ci := 3) rfl hW ha0 rfl rfl 7 rfl (by decide) (by decide) (hts _ fl_X3_47) rfl hin rfl trivial rfl rfl dX3_init_91 (fun H87 locs87 hW hs87 ht87 hq87 => ?_)
  have hs88 := (ht87 0 (by decide) (by decide)).trans hs80
  have hs89 := (ht87 1 (by decide) (by decide)).trans hs81
  have hs90 := (ht87 2 (by decide) (by decide)).trans hs82
  have hs91 := (ht87 3 (by decide) (by decide)).trans hs83
  have hs92 := (ht87 4 (by decide) (by decide)).trans hs84
  have hs93 := (ht87 5 (by decide) (by decide)).trans hs85
  have hs94 := (ht87 6 (by decide) (by decide)).trans hs86
  refine lv_aload_n hx hb dX3_init_94 rfl (lv_at hl 0 rfl) ?_
  refine tf_iconst hx hb dX3_init_95 ?_
  refine tf_put hx hb hts inlX3 tyX3 tyX3_ok nmX3 hown hK (ci := 3) rfl hW ha0 rfl rfl 8 rfl (by decide) (by decide) (hts _ fl_X3_51) rfl trivial rfl rfl dX3_init_96 (fun H95 locs95 hW hs95 ht95 hq95 => ?_)
  have hs96 := (ht95 0 (by decide) (by decide)).trans hs88
  have hs97 := (ht95 1 (by decide) (by decide)).trans hs89
  have hs98 := (ht95 2 (by decide) (by decide)).trans hs90
  have hs99 := (ht95 3 (by decide) (by decide)).trans hs91
  have hs100 := (ht95 4 (by decide) (by decide)).trans hs92
  have hs101 := (ht95 5 (by decide) (by decide)).trans hs93
  have hs102 := (ht95 6 (by decide) (by decide)).trans hs94
  have hs103 := (ht95 7 (by decide) (by decide)).trans hs87
  refine lv_aload_n hx hb dX3_init_99 rfl (lv_at hl 0 rfl) ?_
  refine tf_iconst hx hb dX3_init_100 ?_
  refine tf_put hx hb hts inlX3 tyX3 tyX3_ok nmX3 hown hK (ci := 3) rfl hW ha0 rfl rfl 9 rfl (by decide) (by decide) (hts _ fl_X3_55) rfl trivial rfl rfl dX3_init_101 (fun H104 locs104 hW hs104 ht104 hq104 => ?_)
  have hs105 := (ht104 0 (by decide) (by decide)).trans hs96
  have hs106 := (ht104 1 (by decide) (by decide)).trans hs97
  have hs107 := (ht104 2 (by decide) (by decide)).trans hs98
  have hs108 := (ht104 3 (by decide) (by decide)).trans hs99
  have hs109 := (ht104 4 (by decide) (by decide)).trans hs100
  have hs110 := (ht104 5 (by decide) (by decide)).trans hs101
  have hs111 := (ht104 6 (by decide) (by decide)).trans hs102
  have hs112 := (ht104 7 (by decide) (by decide)).trans hs103
  have hs113 := (ht104 8 (by decide) (by decide)).trans hs95
  refine lv_aload_n hx hb dX3_init_104 rfl (lv_at hl 0 rfl) ?_
  refine tf_bipush hx hb dX3_init_105 (by decide) ?_
  refine tf_newarr (atype := .int) (ty := .int) (f := (0, 0, 0, -2147483648, 2147483647)) (t0 := 0) (k := 8) (N := 12) hx hb (hts _ (tw2 (i := 5) rfl)) hK rfl rfl rfl (fun h => h) (tf_d0 (by decide) (by decide)) hW (by omega) rfl (by decide) (by decide) (Nat.le_trans (by omega) hR3) (Nat.le_trans (by omega) hR4) dX3_init_107 (fun ad114 H114 T hq114 hT114 had114 hE114 hW ho114 => ?_)
  have hs115 := tf_keepQ hs105 (ho114 _ _ ha0)
  have hs116 := tf_keepQ hs106 (ho114 _ _ ha0)
  have hs117 := tf_keepQ hs107 (ho114 _ _ ha0)
  have hs118 := tf_keepQ hs108 (ho114 _ _ ha0)
  have hs119 := tf_keepQ hs109 (ho114 _ _ ha0)
  have hs120 := tf_keepQ hs110 (ho114 _ _ ha0)
  have hs121 := tf_keepQ hs111 (ho114 _ _ ha0)
  have hs122 := tf_keepQ hs112 (ho114 _ _ ha0)
  have hs123 := tf_keepQ hs113 (ho114 _ _ ha0)
  have hs124 := tf_keepQ hs104 (ho114 _ _ ha0)
  have ha0 := hE114 _ _ ha0
  have hn2 := hE114 _ _ hn2
  have hn6 := hE114 _ _ hn6
  have hn13 := hE114 _ _ hn13
  have had19 := hE114 _ _ had19
  have had43 := hE114 _ _ had43
  have had53 := hE114 _ _ had53
  have had65 := hE114 _ _ had65
  have had79 := hE114 _ _ had79
  refine tf_putF hx hb hts inlX3 tyX3 tyX3_ok nmX3 hown hK (ci := 3) rfl hW ha0 rfl rfl 10 rfl (by decide) (by decide) (hts _ fl_X3_58) rfl hin rfl trivial rfl rfl dX3_init_109 (fun H125 locs125 hW hs125 ht125 hq125 => ?_)
  have hs126 := (ht125 0 (by decide) (by decide)).trans hs115
  have hs127 := (ht125 1 (by decide) (by decide)).trans hs116
  have hs128 := (ht125 2 (by decide) (by decide)).trans hs117
  have hs129 := (ht125 3 (by decide) (by decide)).trans hs118
  have hs130 := (ht125 4 (by decide) (by decide)).trans hs119
  have hs131 := (ht125 5 (by decide) (by decide)).trans hs120
  have hs132 := (ht125 6 (by decide) (by decide)).trans hs121
  have hs133 := (ht125 7 (by decide) (by decide)).trans hs122
  have hs134 := (ht125 8 (by decide) (by decide)).trans hs123
  have hs135 := (ht125 9 (by decide) (by decide)).trans hs124
  refine lv_aload_n hx hb dX3_init_112 rfl (lv_at hl 0 rfl) ?_
  refine tf_iconst hx hb dX3_init_113 ?_
  refine tf_put hx hb hts inlX3 tyX3 tyX3_ok nmX3 hown hK (ci := 3) rfl hW ha0 rfl rfl 11 rfl (by decide) (by decide) (hts _ fl_X3_61) rfl trivial rfl rfl dX3_init_114 (fun H136 locs136 hW hs136 ht136 hq136 => ?_)
  have hs137 := (ht136 0 (by decide) (by decide)).trans hs126
  have hs138 := (ht136 1 (by decide) (by decide)).trans hs127
  have hs139 := (ht136 2 (by decide) (by decide)).trans hs128
  have hs140 := (ht136 3 (by decide) (by decide)).trans hs129
  have hs141 := (ht136 4 (by decide) (by decide)).trans hs130
  have hs142 := (ht136 5 (by decide) (by decide)).trans hs131
  have hs143 := (ht136 6 (by decide) (by decide)).trans hs132
  have hs144 := (ht136 7 (by decide) (by decide)).trans hs133
  have hs145 := (ht136 8 (by decide) (by decide)).trans hs134
  have hs146 := (ht136 9 (by decide) (by decide)).trans hs135
  have hs147 := (ht136 10 (by decide) (by decide)).trans hs125
  refine W.widen (k := 21) (n := 1164) (by omega) (by omega) ?_
  exact tf_retC (ci := 3) hx hb hr hlocks hQ hW ha0 rfl (by decide) rfl (fun j f hj => match j, hj with | 0, hj => by obtain rfl : _ = f := Option.some.inj hj; exact ⟨_, hs137, tf_u1 hn2⟩ | 1, hj => by obtain rfl : _ = f := Option.some.inj hj; exact ⟨_, hs138, tf_u1 hn6⟩ | 2, hj => by obtain rfl : _ = f := Option.some.inj hj; exact ⟨_, hs139, tf_u1 hn13⟩ | 3, hj => by obtain rfl : _ = f := Option.some.inj hj; exact ⟨_, hs140, tf_u1 had19⟩ | 4, hj => by obtain rfl : _ = f := Option.some.inj hj; exact ⟨_, hs141, tf_u1 had43⟩ | 5, hj => by obtain rfl : _ = f := Option.some.inj hj; exact ⟨_, hs142, tf_u1 had53⟩ | 6, hj => by obtain rfl : _ = f := Option.some.inj hj; exact ⟨_, hs143, tf_u1 had65⟩ | 7, hj => by obtain rfl : _ = f := Option.some.inj hj; exact ⟨_, hs144, tf_u1 had79⟩ | 8, hj => by obtain rfl : _ = f := Option.some.inj hj; exact ⟨_, hs145, tf_u0 (by omega) (by omega)⟩ | 9, hj => by obtain rfl : _ = f := Option.some.inj hj; exact ⟨_, hs146, tf_u0 (by omega) (by omega)⟩ | 10, hj => by obtain rfl : _ = f := Option.some.inj hj; exact ⟨_, hs147, tf_u1 had114⟩ | 11, hj => by obtain rfl : _ = f := Option.some.inj hj; exact ⟨_, hs136, tf_u0 (by omega) (by omega)⟩ | (j + 12), hj => by cases hj) dX3_init_117

abbrev M_X7_init : List (Nat × Nat) := [(58, 0), (58, 1), (58, 2), (58, 3), (58, 4), (58, 5)]
set_option maxHeartbeats 4000000 in
set_option maxRecDepth 100000 in
theorem c_X7_init (l : Launch) (g : tf_G) (T : tf_T) (a0 : Nat) (ha0 : T a0 = some (58, 0)) : Met l yX7_init (cd_X7_init :: wsL_law) ({ frames := 1, cells := 5, slots := 2221, locals := 40 }) (tf_P g T [.ref a0] (fun H => True)) (tf_QC g M_X7_init T a0 24) 5 2221 (fun q => tf_B g ≤ q) := by
  refine Met.ofW (cc := cX7_init) (maxL := 1) (ret := none) (by decide) rfl ?_
  intro p e s m args below meth c s₁ B hml hv
  obtain ⟨hargs, hk, hW0, hB, hpre⟩ := hv
  have hx := B.exec
  have hb := B.bytes
  have hr := B.returns
  have hts : ∀ w ∈ wsL_law, w.before args s = true := fun w h => atoms_spec (ws := cd_X7_init :: wsL_law) B.pre w (List.mem_cons_of_mem _ h)
  have hown : s.vm.findClass RX7 = some m.cls := findClass_of_methodNamed B.named
  have hlocks := B.notSynchronized
  have hK := hk.1
  have hW := tf_n.start (M := M_X7_init) hW0 hB
  obtain ⟨Q, hQ⟩ : ∃ q, q = MQ below (tf_QC g M_X7_init T a0 24) args s 5 2221 (fun q => tf_B g ≤ q) := ⟨_, rfl⟩
  rw [← hQ]
  obtain ⟨R, hR⟩ : ∃ q, q = (headSpec (cd_X7_init :: wsL_law) ({ frames := 1, cells := 5, slots := 2221, locals := 40 })).room := ⟨_, rfl⟩
  rw [← hR]
  have hR1 : 1 ≤ R.frames := by rw [hR]; exact Nat.le_refl _
  have hR2 : 40 ≤ R.locals := by rw [hR]; exact Nat.le_refl _
  have hR3 : 5 ≤ R.cells := by rw [hR]; exact Nat.le_refl _
  have hR4 : 2221 ≤ R.slots := by rw [hR]; exact Nat.le_refl _
  have hin := (name_of_methodNamed B.named B.method).1
  clear hR B
  refine tf_enter (As := [.ref a0]) hargs (Nat.le_of_ble_eq_true rfl) (fun ls hl => ?_)
  have hl : lv_has ls 1 [(0, .ref a0)] := hl
  refine lv_aload_n hx hb dX7_init_0 rfl (lv_at hl 0 rfl) ?_
  refine W.objInit hx hb hown (hts _ (tw4 (i := 17) rfl)) (hts _ (tw1 (i := 10) rfl)) (hts _ (tw1 (i := 11) rfl)) rfl (by rw [hml]; exact hl.1) rfl dX7_init_1 (Nat.le_trans (by decide) hR1) (Nat.le_trans (by exact Nat.le_of_ble_eq_true rfl) hR2) ?_
  refine W.eq (g2 := F0 m 4 ls []) rfl ?_
  refine lv_aload_n hx hb dX7_init_4 rfl (lv_at hl 0 rfl) ?_
  refine tf_bipush hx hb dX7_init_5 (by decide) ?_
  refine tf_newarr (atype := .int) (ty := .int) (f := (0, 0, 0, -2147483648, 2147483647)) (t0 := 0) (k := 0) (N := 9) hx hb (hts _ (tw2 (i := 5) rfl)) hK rfl rfl rfl (fun h => h) (tf_d0 (by decide) (by decide)) hW (by omega) rfl (by decide) (by decide) (Nat.le_trans (by omega) hR3) (Nat.le_trans (by omega) hR4) dX7_init_7 (fun ad1 H1 T hq1 hT1 had1 hE1 hW ho1 => ?_)
  have ha0 := hE1 _ _ ha0
  refine tf_putF hx hb hts inlX7 tyX7 tyX7_ok nmX7 hown hK (ci := 7) rfl hW ha0 rfl rfl 0 rfl (by decide) (by decide) (hts _ fl_X7_9) rfl hin rfl trivial rfl rfl dX7_init_9 (fun H2 locs2 hW hs2 ht2 hq2 => ?_)
  refine lv_aload_n hx hb dX7_init_12 rfl (lv_at hl 0 rfl) ?_
  refine tf_bipush hx hb dX7_init_13 (by decide) ?_
  refine tf_newarr (atype := .int) (ty := .int) (f := (0, 0, 0, -2147483648, 2147483647)) (t0 := 0) (k := 0) (N := 100) hx hb (hts _ (tw2 (i := 5) rfl)) hK rfl rfl rfl (fun h => h) (tf_d0 (by decide) (by decide)) hW (by omega) rfl (by decide) (by decide) (Nat.le_trans (by omega) hR3) (Nat.le_trans (by omega) hR4) dX7_init_15 (fun ad3 H3 T hq3 hT3 had3 hE3 hW ho3 => ?_)
  have hs4 := tf_keepQ hs2 (ho3 _ _ ha0)
  have ha0 := hE3 _ _ ha0
  have had1 := hE3 _ _ had1
  refine tf_putF hx hb hts inlX7 tyX7 tyX7_ok nmX7 hown hK (ci := 7) rfl hW ha0 rfl rfl 1 rfl (by decide) (by decide) (hts _ fl_X7_15) rfl hin rfl trivial rfl rfl dX7_init_17 (fun H5 locs5 hW hs5 ht5 hq5 => ?_)
  have hs6 := (ht5 0 (by decide) (by decide)).trans hs4
  refine lv_aload_n hx hb dX7_init_20 rfl (lv_at hl 0 rfl) ?_
  refine tf_bipush hx hb dX7_init_21 (by decide) ?_
  refine tf_newarr (atype := .int) (ty := .int) (f := (0, 0, 0, -2147483648, 2147483647)) (t0 := 0) (k := 0) (N := 64) hx hb (hts _ (tw2 (i := 5) rfl)) hK rfl rfl rfl (fun h => h) (tf_d0 (by decide) (by decide)) hW (by omega) rfl (by decide) (by decide) (Nat.le_trans (by omega) hR3) (Nat.le_trans (by omega) hR4) dX7_init_23 (fun ad7 H7 T hq7 hT7 had7 hE7 hW ho7 => ?_)
  have hs8 := tf_keepQ hs6 (ho7 _ _ ha0)
  have hs9 := tf_keepQ hs5 (ho7 _ _ ha0)
  have ha0 := hE7 _ _ ha0
  have had1 := hE7 _ _ had1
  have had3 := hE7 _ _ had3
  refine tf_putF hx hb hts inlX7 tyX7 tyX7_ok nmX7 hown hK (ci := 7) rfl hW ha0 rfl rfl 2 rfl (by decide) (by decide) (hts _ fl_X7_18) rfl hin rfl trivial rfl rfl dX7_init_25 (fun H10 locs10 hW hs10 ht10 hq10 => ?_)
  have hs11 := (ht10 0 (by decide) (by decide)).trans hs8
  have hs12 := (ht10 1 (by decide) (by decide)).trans hs9
  refine lv_aload_n hx hb dX7_init_28 rfl (lv_at hl 0 rfl) ?_
  refine tf_sipush hx hb dX7_init_29 (by decide) ?_
  refine tf_newarr (atype := .long) (ty := .long) (f := (5, 0, 0, -9223372036854775808, 9223372036854775807)) (t0 := 1) (k := 4) (N := 1024) hx hb (hts _ (tw4 (i := 21) rfl)) hK rfl rfl rfl (fun h => h) (tf_d5 (by decide) (by decide)) hW (by omega) rfl (by decide) (by decide) (Nat.le_trans (by omega) hR3) (Nat.le_trans (by omega) hR4) dX7_init_32 (fun ad13 H13 T hq13 hT13 had13 hE13 hW ho13 => ?_)
  have hs14 := tf_keepQ hs11 (ho13 _ _ ha0)
  have hs15 := tf_keepQ hs12 (ho13 _ _ ha0)
  have hs16 := tf_keepQ hs10 (ho13 _ _ ha0)
  have ha0 := hE13 _ _ ha0
  have had1 := hE13 _ _ had1
  have had3 := hE13 _ _ had3
  have had7 := hE13 _ _ had7
  refine tf_putF hx hb hts inlX7 tyX7 tyX7_ok nmX7 hown hK (ci := 7) rfl hW ha0 rfl rfl 3 rfl (by decide) (by decide) (hts _ fl_X7_21) rfl hin rfl trivial rfl rfl dX7_init_34 (fun H17 locs17 hW hs17 ht17 hq17 => ?_)
  have hs18 := (ht17 0 (by decide) (by decide)).trans hs14
  have hs19 := (ht17 1 (by decide) (by decide)).trans hs15
  have hs20 := (ht17 2 (by decide) (by decide)).trans hs16
  refine lv_aload_n hx hb dX7_init_37 rfl (lv_at hl 0 rfl) ?_
  refine tf_sipush hx hb dX7_init_38 (by decide) ?_
  refine tf_newarr (atype := .int) (ty := .int) (f := (0, 0, 0, -2147483648, 2147483647)) (t0 := 0) (k := 0) (N := 1024) hx hb (hts _ (tw2 (i := 5) rfl)) hK rfl rfl rfl (fun h => h) (tf_d0 (by decide) (by decide)) hW (by omega) rfl (by decide) (by decide) (Nat.le_trans (by omega) hR3) (Nat.le_trans (by omega) hR4) dX7_init_41 (fun ad21 H21 T hq21 hT21 had21 hE21 hW ho21 => ?_)
  have hs22 := tf_keepQ hs18 (ho21 _ _ ha0)
  have hs23 := tf_keepQ hs19 (ho21 _ _ ha0)
  have hs24 := tf_keepQ hs20 (ho21 _ _ ha0)
  have hs25 := tf_keepQ hs17 (ho21 _ _ ha0)
  have ha0 := hE21 _ _ ha0
  have had1 := hE21 _ _ had1
  have had3 := hE21 _ _ had3
  have had7 := hE21 _ _ had7
  have had13 := hE21 _ _ had13
  refine tf_putF hx hb hts inlX7 tyX7 tyX7_ok nmX7 hown hK (ci := 7) rfl hW ha0 rfl rfl 4 rfl (by decide) (by decide) (hts _ fl_X7_25) rfl hin rfl trivial rfl rfl dX7_init_43 (fun H26 locs26 hW hs26 ht26 hq26 => ?_)
  have hs27 := (ht26 0 (by decide) (by decide)).trans hs22
  have hs28 := (ht26 1 (by decide) (by decide)).trans hs23
  have hs29 := (ht26 2 (by decide) (by decide)).trans hs24
  have hs30 := (ht26 3 (by decide) (by decide)).trans hs25
  refine lv_aload_n hx hb dX7_init_46 rfl (lv_at hl 0 rfl) ?_
  refine lv_null hx hb dX7_init_47 ?_
  refine tf_put hx hb hts inlX7 tyX7 tyX7_ok nmX7 hown hK (ci := 7) rfl hW ha0 rfl rfl 5 rfl (by decide) (by decide) (hts _ fl_X7_28) rfl trivial rfl rfl dX7_init_48 (fun H31 locs31 hW hs31 ht31 hq31 => ?_)
  have hs32 := (ht31 0 (by decide) (by decide)).trans hs27
  have hs33 := (ht31 1 (by decide) (by decide)).trans hs28
  have hs34 := (ht31 2 (by decide) (by decide)).trans hs29
  have hs35 := (ht31 3 (by decide) (by decide)).trans hs30
  have hs36 := (ht31 4 (by decide) (by decide)).trans hs26
  refine W.widen (k := 5) (n := 2221) (by omega) (by omega) ?_
  exact tf_retC (ci := 7) hx hb hr hlocks hQ hW ha0 rfl (by decide) rfl (fun j f hj => match j, hj with | 0, hj => by obtain rfl : _ = f := Option.some.inj hj; exact ⟨_, hs32, tf_u1 had1⟩ | 1, hj => by obtain rfl : _ = f := Option.some.inj hj; exact ⟨_, hs33, tf_u1 had3⟩ | 2, hj => by obtain rfl : _ = f := Option.some.inj hj; exact ⟨_, hs34, tf_u1 had7⟩ | 3, hj => by obtain rfl : _ = f := Option.some.inj hj; exact ⟨_, hs35, tf_u1 had13⟩ | 4, hj => by obtain rfl : _ = f := Option.some.inj hj; exact ⟨_, hs36, tf_u1 had21⟩ | 5, hj => by obtain rfl : _ = f := Option.some.inj hj; exact ⟨_, hs31, tf_u2n⟩ | (j + 6), hj => by cases hj) dX7_init_51

abbrev M_X6_init : List (Nat × Nat) := [(51, 0), (51, 1), (51, 2), (51, 3), (57, 0), (57, 1), (57, 2), (57, 3), (57, 4), (57, 5), (57, 6), (57, 7), (57, 8), (57, 9), (57, 10)]
set_option maxHeartbeats 4000000 in
set_option maxRecDepth 100000 in
theorem c_X6_init (l : Launch) (g : tf_G) (T : tf_T) (a0 : Nat) (ha0 : T a0 = some (57, 0)) : Met l yX6_init (cd_X6_init :: wsL_law) ({ frames := 2, cells := 6, slots := 1092, locals := 60 }) (tf_P g T [.ref a0] (fun H => True)) (tf_QC g M_X6_init T a0 23) 6 1092 (fun q => tf_B g ≤ q) := by
  refine Met.ofW (cc := cX6_init) (maxL := 1) (ret := none) (by decide) rfl ?_
  intro p e s m args below meth c s₁ B hml hv
  obtain ⟨hargs, hk, hW0, hB, hpre⟩ := hv
  have hx := B.exec
  have hb := B.bytes
  have hr := B.returns
  have hts : ∀ w ∈ wsL_law, w.before args s = true := fun w h => atoms_spec (ws := cd_X6_init :: wsL_law) B.pre w (List.mem_cons_of_mem _ h)
  have hown : s.vm.findClass RX6 = some m.cls := findClass_of_methodNamed B.named
  have hlocks := B.notSynchronized
  have hK := hk.1
  have hW := tf_n.start (M := M_X6_init) hW0 hB
  obtain ⟨Q, hQ⟩ : ∃ q, q = MQ below (tf_QC g M_X6_init T a0 23) args s 6 1092 (fun q => tf_B g ≤ q) := ⟨_, rfl⟩
  rw [← hQ]
  obtain ⟨R, hR⟩ : ∃ q, q = (headSpec (cd_X6_init :: wsL_law) ({ frames := 2, cells := 6, slots := 1092, locals := 60 })).room := ⟨_, rfl⟩
  rw [← hR]
  have hR1 : 2 ≤ R.frames := by rw [hR]; exact Nat.le_refl _
  have hR2 : 60 ≤ R.locals := by rw [hR]; exact Nat.le_refl _
  have hR3 : 6 ≤ R.cells := by rw [hR]; exact Nat.le_refl _
  have hR4 : 1092 ≤ R.slots := by rw [hR]; exact Nat.le_refl _
  have hin := (name_of_methodNamed B.named B.method).1
  clear hR B
  refine tf_enter (As := [.ref a0]) hargs (Nat.le_of_ble_eq_true rfl) (fun ls hl => ?_)
  have hl : lv_has ls 1 [(0, .ref a0)] := hl
  refine lv_aload_n hx hb dX6_init_0 rfl (lv_at hl 0 rfl) ?_
  refine W.objInit hx hb hown (hts _ (tw5 (i := 3) rfl)) (hts _ (tw1 (i := 10) rfl)) (hts _ (tw1 (i := 11) rfl)) rfl (by rw [hml]; exact hl.1) rfl dX6_init_1 (Nat.le_trans (by decide) hR1) (Nat.le_trans (by exact Nat.le_of_ble_eq_true rfl) hR2) ?_
  refine W.eq (g2 := F0 m 4 ls []) rfl ?_
  refine lv_aload_n hx hb dX6_init_4 rfl (lv_at hl 0 rfl) ?_
  have hsz1 := hW.2.2.1.1
  refine tf_new (kr := 51) hx hb hts inlX0 tyX0 tyX0_ok hown (hts _ (tw5 (i := 4) rfl)) (hts _ (tw2 (i := 19) rfl)) (hts _ (tw2 (i := 20) rfl)) hK (ci := 0) rfl hW rfl ⟨rfl, by decide⟩ (Nat.le_trans (by omega) hR3) (Nat.le_trans (by omega) hR4) dX6_init_5 (fun ad1 H1 T hq1 hT1 had1 hE1 hW ho1 => ?_)
  have hsz1 := Nat.le_trans hsz1 (Nat.le_of_eq hq1)
  have ha0 := hE1 _ _ ha0
  refine lv_dup hx hb dX6_init_8 rfl ?_
  refine tf_callC (va_runIN (As := []) (rest := [.ref ad1, .ref a0]) ⟨hx, hb, hml, hown, hts⟩ (c_X0_init l g T ad1 had1) ⟨va_cnB 0 hts (gw_ws cm_X0_init) rfl rfl rfl (hk.2.1 _ nw_6) (hts _ (tw2 (i := 20) rfl)) hd_X0_init.2 ⟨Nat.le_trans (by decide) hR1, Nat.le_trans (by decide) hR2⟩, rfl, hts _ (tw3 (i := 16) rfl)⟩ (tf_preS hk hW trivial) rfl rfl hl.1 rfl (lv_room (Nat.le_of_ble_eq_true rfl)) dX6_init_9 ⟨Nat.le_trans (by omega) hR3, Nat.le_trans (by omega) hR4⟩) hW (by decide) (tf_fresh hW0 hsz1) hsz1 had1 (fun H2 locs2 T hW hn2 hE2 hF2 => ?_)
  have ha0 := hE2 _ _ (tf_ne ha0 had1 (by decide)) ha0
  refine tf_putF hx hb hts inlX6 tyX6 tyX6_ok nmX6 hown hK (ci := 6) rfl hW ha0 rfl rfl 0 rfl (by decide) (by decide) (hts _ fl_X6_12) rfl hin rfl trivial rfl rfl dX6_init_12 (fun H3 locs3 hW hs3 ht3 hq3 => ?_)
  refine lv_aload_n hx hb dX6_init_15 rfl (lv_at hl 0 rfl) ?_
  refine tf_bipush hx hb dX6_init_16 (by decide) ?_
  refine tf_newarr (atype := .int) (ty := .int) (f := (0, 0, 0, -2147483648, 2147483647)) (t0 := 0) (k := 0) (N := 64) hx hb (hts _ (tw2 (i := 5) rfl)) hK rfl rfl rfl (fun h => h) (tf_d0 (by decide) (by decide)) hW (by omega) rfl (by decide) (by decide) (Nat.le_trans (by omega) hR3) (Nat.le_trans (by omega) hR4) dX6_init_18 (fun ad4 H4 T hq4 hT4 had4 hE4 hW ho4 => ?_)
  have hs5 := tf_keepQ hs3 (ho4 _ _ ha0)
  have ha0 := hE4 _ _ ha0
  have hn2 := hE4 _ _ hn2
  refine tf_putF hx hb hts inlX6 tyX6 tyX6_ok nmX6 hown hK (ci := 6) rfl hW ha0 rfl rfl 1 rfl (by decide) (by decide) (hts _ fl_X6_18) rfl hin rfl trivial rfl rfl dX6_init_20 (fun H6 locs6 hW hs6 ht6 hq6 => ?_)
  have hs7 := (ht6 0 (by decide) (by decide)).trans hs5
  refine lv_aload_n hx hb dX6_init_23 rfl (lv_at hl 0 rfl) ?_
  refine tf_iconst hx hb dX6_init_24 ?_
  refine tf_put hx hb hts inlX6 tyX6 tyX6_ok nmX6 hown hK (ci := 6) rfl hW ha0 rfl rfl 2 rfl (by decide) (by decide) (hts _ fl_X6_22) rfl trivial (tf_narZ (by omega)) (tf_fitZ (by omega)) dX6_init_25 (fun H8 locs8 hW hs8 ht8 hq8 => ?_)
  have hs9 := (ht8 0 (by decide) (by decide)).trans hs7
  have hs10 := (ht8 1 (by decide) (by decide)).trans hs6
  refine lv_aload_n hx hb dX6_init_28 rfl (lv_at hl 0 rfl) ?_
  refine tf_iconst hx hb dX6_init_29 ?_
  refine tf_put hx hb hts inlX6 tyX6 tyX6_ok nmX6 hown hK (ci := 6) rfl hW ha0 rfl rfl 3 rfl (by decide) (by decide) (hts _ fl_X6_26) rfl trivial rfl rfl dX6_init_30 (fun H11 locs11 hW hs11 ht11 hq11 => ?_)
  have hs12 := (ht11 0 (by decide) (by decide)).trans hs9
  have hs13 := (ht11 1 (by decide) (by decide)).trans hs10
  have hs14 := (ht11 2 (by decide) (by decide)).trans hs8
  refine lv_aload_n hx hb dX6_init_33 rfl (lv_at hl 0 rfl) ?_
  refine tf_iconst hx hb dX6_init_34 ?_
  refine tf_put hx hb hts inlX6 tyX6 tyX6_ok nmX6 hown hK (ci := 6) rfl hW ha0 rfl rfl 4 rfl (by decide) (by decide) (hts _ fl_X6_30) rfl trivial rfl rfl dX6_init_35 (fun H15 locs15 hW hs15 ht15 hq15 => ?_)
  have hs16 := (ht15 0 (by decide) (by decide)).trans hs12
  have hs17 := (ht15 1 (by decide) (by decide)).trans hs13
  have hs18 := (ht15 2 (by decide) (by decide)).trans hs14
  have hs19 := (ht15 3 (by decide) (by decide)).trans hs11
  refine lv_aload_n hx hb dX6_init_38 rfl (lv_at hl 0 rfl) ?_
  refine tf_iconst hx hb dX6_init_39 ?_
  refine tf_put hx hb hts inlX6 tyX6 tyX6_ok nmX6 hown hK (ci := 6) rfl hW ha0 rfl rfl 5 rfl (by decide) (by decide) (hts _ fl_X6_33) rfl trivial rfl rfl dX6_init_40 (fun H20 locs20 hW hs20 ht20 hq20 => ?_)
  have hs21 := (ht20 0 (by decide) (by decide)).trans hs16
  have hs22 := (ht20 1 (by decide) (by decide)).trans hs17
  have hs23 := (ht20 2 (by decide) (by decide)).trans hs18
  have hs24 := (ht20 3 (by decide) (by decide)).trans hs19
  have hs25 := (ht20 4 (by decide) (by decide)).trans hs15
  refine lv_aload_n hx hb dX6_init_43 rfl (lv_at hl 0 rfl) ?_
  refine tf_iconst hx hb dX6_init_44 ?_
  refine tf_put hx hb hts inlX6 tyX6 tyX6_ok nmX6 hown hK (ci := 6) rfl hW ha0 rfl rfl 6 rfl (by decide) (by decide) (hts _ fl_X6_36) rfl trivial (tf_narZ (by omega)) (tf_fitZ (by omega)) dX6_init_45 (fun H26 locs26 hW hs26 ht26 hq26 => ?_)
  have hs27 := (ht26 0 (by decide) (by decide)).trans hs21
  have hs28 := (ht26 1 (by decide) (by decide)).trans hs22
  have hs29 := (ht26 2 (by decide) (by decide)).trans hs23
  have hs30 := (ht26 3 (by decide) (by decide)).trans hs24
  have hs31 := (ht26 4 (by decide) (by decide)).trans hs25
  have hs32 := (ht26 5 (by decide) (by decide)).trans hs20
  refine lv_aload_n hx hb dX6_init_48 rfl (lv_at hl 0 rfl) ?_
  refine tf_iconst hx hb dX6_init_49 ?_
  refine tf_put hx hb hts inlX6 tyX6 tyX6_ok nmX6 hown hK (ci := 6) rfl hW ha0 rfl rfl 7 rfl (by decide) (by decide) (hts _ fl_X6_39) rfl trivial rfl rfl dX6_init_50 (fun H33 locs33 hW hs33 ht33 hq33 => ?_)
  have hs34 := (ht33 0 (by decide) (by decide)).trans hs27
  have hs35 := (ht33 1 (by decide) (by decide)).trans hs28
  have hs36 := (ht33 2 (by decide) (by decide)).trans hs29
  have hs37 := (ht33 3 (by decide) (by decide)).trans hs30
  have hs38 := (ht33 4 (by decide) (by decide)).trans hs31
  have hs39 := (ht33 5 (by decide) (by decide)).trans hs32
  have hs40 := (ht33 6 (by decide) (by decide)).trans hs26
  refine lv_aload_n hx hb dX6_init_53 rfl (lv_at hl 0 rfl) ?_
  refine tf_iconst hx hb dX6_init_54 ?_
  refine tf_put hx hb hts inlX6 tyX6 tyX6_ok nmX6 hown hK (ci := 6) rfl hW ha0 rfl rfl 8 rfl (by decide) (by decide) (hts _ fl_X6_42) rfl trivial rfl rfl dX6_init_55 (fun H41 locs41 hW hs41 ht41 hq41 => ?_)
  have hs42 := (ht41 0 (by decide) (by decide)).trans hs34
  have hs43 := (ht41 1 (by decide) (by decide)).trans hs35
  have hs44 := (ht41 2 (by decide) (by decide)).trans hs36
  have hs45 := (ht41 3 (by decide) (by decide)).trans hs37
  have hs46 := (ht41 4 (by decide) (by decide)).trans hs38
  have hs47 := (ht41 5 (by decide) (by decide)).trans hs39
  have hs48 := (ht41 6 (by decide) (by decide)).trans hs40
  have hs49 := (ht41 7 (by decide) (by decide)).trans hs33
  refine lv_aload_n hx hb dX6_init_58 rfl (lv_at hl 0 rfl) ?_
  refine tf_iconst hx hb dX6_init_59 ?_
  refine tf_put hx hb hts inlX6 tyX6 tyX6_ok nmX6 hown hK (ci := 6) rfl hW ha0 rfl rfl 9 rfl (by decide) (by decide) (hts _ fl_X6_45) rfl trivial rfl rfl dX6_init_60 (fun H50 locs50 hW hs50 ht50 hq50 => ?_)
  have hs51 := (ht50 0 (by decide) (by decide)).trans hs42
  have hs52 := (ht50 1 (by decide) (by decide)).trans hs43
  have hs53 := (ht50 2 (by decide) (by decide)).trans hs44
  have hs54 := (ht50 3 (by decide) (by decide)).trans hs45
  have hs55 := (ht50 4 (by decide) (by decide)).trans hs46
  have hs56 := (ht50 5 (by decide) (by decide)).trans hs47
  have hs57 := (ht50 6 (by decide) (by decide)).trans hs48
  have hs58 := (ht50 7 (by decide) (by decide)).trans hs49
  have hs59 := (ht50 8 (by decide) (by decide)).trans hs41
  refine lv_aload_n hx hb dX6_init_63 rfl (lv_at hl 0 rfl) ?_
  refine tf_iconst hx hb dX6_init_64 ?_
  refine tf_put hx hb hts inlX6 tyX6 tyX6_ok nmX6 hown hK (ci := 6) rfl hW ha0 rfl rfl 10 rfl (by decide) (by decide) (hts _ fl_X6_48) rfl trivial rfl rfl dX6_init_65 (fun H60 locs60 hW hs60 ht60 hq60 => ?_)
  have hs61 := (ht60 0 (by decide) (by decide)).trans hs51
  have hs62 := (ht60 1 (by decide) (by decide)).trans hs52
  have hs63 := (ht60 2 (by decide) (by decide)).trans hs53
  have hs64 := (ht60 3 (by decide) (by decide)).trans hs54
  have hs65 := (ht60 4 (by decide) (by decide)).trans hs55
  have hs66 := (ht60 5 (by decide) (by decide)).trans hs56
  have hs67 := (ht60 6 (by decide) (by decide)).trans hs57
  have hs68 := (ht60 7 (by decide) (by decide)).trans hs58
  have hs69 := (ht60 8 (by decide) (by decide)).trans hs59
  have hs70 := (ht60 9 (by decide) (by decide)).trans hs50
  refine W.widen (k := 6) (n := 1092) (by omega) (by omega) ?_
  exact tf_retC (ci := 6) hx hb hr hlocks hQ hW ha0 rfl (by decide) rfl (fun j f hj => match j, hj with | 0, hj => by obtain rfl : _ = f := Option.some.inj hj; exact ⟨_, hs61, tf_u1 hn2⟩ | 1, hj => by obtain rfl : _ = f := Option.some.inj hj; exact ⟨_, hs62, tf_u1 had4⟩ | 2, hj => by obtain rfl : _ = f := Option.some.inj hj; exact ⟨_, hs63, tf_u0 (by omega) (by omega)⟩ | 3, hj => by obtain rfl : _ = f := Option.some.inj hj; exact ⟨_, hs64, tf_u0 (by omega) (by omega)⟩ | 4, hj => by obtain rfl : _ = f := Option.some.inj hj; exact ⟨_, hs65, tf_u0 (by omega) (by omega)⟩ | 5, hj => by obtain rfl : _ = f := Option.some.inj hj; exact ⟨_, hs66, tf_u0 (by omega) (by omega)⟩ | 6, hj => by obtain rfl : _ = f := Option.some.inj hj; exact ⟨_, hs67, tf_u0 (by omega) (by omega)⟩ | 7, hj => by obtain rfl : _ = f := Option.some.inj hj; exact ⟨_, hs68, tf_u0 (by omega) (by omega)⟩ | 8, hj => by obtain rfl : _ = f := Option.some.inj hj; exact ⟨_, hs69, tf_u0 (by omega) (by omega)⟩ | 9, hj => by obtain rfl : _ = f := Option.some.inj hj; exact ⟨_, hs70, tf_u0 (by omega) (by omega)⟩ | 10, hj => by obtain rfl : _ = f := Option.some.inj hj; exact ⟨_, hs60, tf_u0 (by omega) (by omega)⟩ | (j + 11), hj => by cases hj) dX6_init_68

abbrev M_X4_init : List (Nat × Nat) := [(55, 0), (55, 1), (55, 2), (55, 3), (55, 4)]
set_option maxHeartbeats 4000000 in
set_option maxRecDepth 100000 in
theorem c_X4_init (l : Launch) (g : tf_G) (T : tf_T) (a0 : Nat) (ha0 : T a0 = some (55, 0)) : Met l yX4_init (cd_X4_init :: wsL_law) ({ frames := 1, cells := 3, slots := 802, locals := 40 }) (tf_P g T [.ref a0] (fun H => True)) (tf_QC g M_X4_init T a0 21) 3 802 (fun q => tf_B g ≤ q) := by
  refine Met.ofW (cc := cX4_init) (maxL := 1) (ret := none) (by decide) rfl ?_
  intro p e s m args below meth c s₁ B hml hv
  obtain ⟨hargs, hk, hW0, hB, hpre⟩ := hv
  have hx := B.exec
  have hb := B.bytes
  have hr := B.returns
  have hts : ∀ w ∈ wsL_law, w.before args s = true := fun w h => atoms_spec (ws := cd_X4_init :: wsL_law) B.pre w (List.mem_cons_of_mem _ h)
  have hown : s.vm.findClass RX4 = some m.cls := findClass_of_methodNamed B.named
  have hlocks := B.notSynchronized
  have hK := hk.1
  have hW := tf_n.start (M := M_X4_init) hW0 hB
  obtain ⟨Q, hQ⟩ : ∃ q, q = MQ below (tf_QC g M_X4_init T a0 21) args s 3 802 (fun q => tf_B g ≤ q) := ⟨_, rfl⟩
  rw [← hQ]
  obtain ⟨R, hR⟩ : ∃ q, q = (headSpec (cd_X4_init :: wsL_law) ({ frames := 1, cells := 3, slots := 802, locals := 40 })).room := ⟨_, rfl⟩
  rw [← hR]
  have hR1 : 1 ≤ R.frames := by rw [hR]; exact Nat.le_refl _
  have hR2 : 40 ≤ R.locals := by rw [hR]; exact Nat.le_refl _
  have hR3 : 3 ≤ R.cells := by rw [hR]; exact Nat.le_refl _
  have hR4 : 802 ≤ R.slots := by rw [hR]; exact Nat.le_refl _
  have hin := (name_of_methodNamed B.named B.method).1
  clear hR B
  refine tf_enter (As := [.ref a0]) hargs (Nat.le_of_ble_eq_true rfl) (fun ls hl => ?_)
  have hl : lv_has ls 1 [(0, .ref a0)] := hl
  refine lv_aload_n hx hb dX4_init_0 rfl (lv_at hl 0 rfl) ?_
  refine W.objInit hx hb hown (hts _ (tw6 (i := 8) rfl)) (hts _ (tw1 (i := 10) rfl)) (hts _ (tw1 (i := 11) rfl)) rfl (by rw [hml]; exact hl.1) rfl dX4_init_1 (Nat.le_trans (by decide) hR1) (Nat.le_trans (by exact Nat.le_of_ble_eq_true rfl) hR2) ?_
  refine W.eq (g2 := F0 m 4 ls []) rfl ?_
  refine lv_aload_n hx hb dX4_init_4 rfl (lv_at hl 0 rfl) ?_
  refine tf_sipush hx hb dX4_init_5 (by decide) ?_
  refine tf_newarr (atype := .int) (ty := .int) (f := (0, 0, 0, -2147483648, 2147483647)) (t0 := 0) (k := 0) (N := 401) hx hb (hts _ (tw2 (i := 5) rfl)) hK rfl rfl rfl (fun h => h) (tf_d0 (by decide) (by decide)) hW (by omega) rfl (by decide) (by decide) (Nat.le_trans (by omega) hR3) (Nat.le_trans (by omega) hR4) dX4_init_8 (fun ad1 H1 T hq1 hT1 had1 hE1 hW ho1 => ?_)
  have ha0 := hE1 _ _ ha0
  refine tf_putF hx hb hts inlX4 tyX4 tyX4_ok nmX4 hown hK (ci := 4) rfl hW ha0 rfl rfl 0 rfl (by decide) (by decide) (hts _ fl_X4_9) rfl hin rfl trivial rfl rfl dX4_init_10 (fun H2 locs2 hW hs2 ht2 hq2 => ?_)
  refine lv_aload_n hx hb dX4_init_13 rfl (lv_at hl 0 rfl) ?_
  refine tf_sipush hx hb dX4_init_14 (by decide) ?_
  refine tf_newarr (atype := .int) (ty := .int) (f := (0, 0, 0, -2147483648, 2147483647)) (t0 := 0) (k := 0) (N := 401) hx hb (hts _ (tw2 (i := 5) rfl)) hK rfl rfl rfl (fun h => h) (tf_d0 (by decide) (by decide)) hW (by omega) rfl (by decide) (by decide) (Nat.le_trans (by omega) hR3) (Nat.le_trans (by omega) hR4) dX4_init_17 (fun ad3 H3 T hq3 hT3 had3 hE3 hW ho3 => ?_)
  have hs4 := tf_keepQ hs2 (ho3 _ _ ha0)
  have ha0 := hE3 _ _ ha0
  have had1 := hE3 _ _ had1
  refine tf_putF hx hb hts inlX4 tyX4 tyX4_ok nmX4 hown hK (ci := 4) rfl hW ha0 rfl rfl 1 rfl (by decide) (by decide) (hts _ fl_X4_15) rfl hin rfl trivial rfl rfl dX4_init_19 (fun H5 locs5 hW hs5 ht5 hq5 => ?_)
  have hs6 := (ht5 0 (by decide) (by decide)).trans hs4
  refine lv_aload_n hx hb dX4_init_22 rfl (lv_at hl 0 rfl) ?_
  refine tf_iconst hx hb dX4_init_23 ?_
  refine tf_put hx hb hts inlX4 tyX4 tyX4_ok nmX4 hown hK (ci := 4) rfl hW ha0 rfl rfl 2 rfl (by decide) (by decide) (hts _ fl_X4_18) rfl trivial rfl rfl dX4_init_24 (fun H7 locs7 hW hs7 ht7 hq7 => ?_)
  have hs8 := (ht7 0 (by decide) (by decide)).trans hs6
  have hs9 := (ht7 1 (by decide) (by decide)).trans hs5
  refine lv_aload_n hx hb dX4_init_27 rfl (lv_at hl 0 rfl) ?_
  refine tf_iconst hx hb dX4_init_28 ?_
  refine tf_newarr (atype := .int) (ty := .int) (f := (0, 0, 0, 0, 255)) (t0 := 0) (k := 3) (N := 0) hx hb (hts _ (tw2 (i := 5) rfl)) hK rfl rfl rfl (fun h => h) (tf_d0 (by decide) (by decide)) hW (by omega) rfl (by decide) (by decide) (Nat.le_trans (by omega) hR3) (Nat.le_trans (by omega) hR4) dX4_init_29 (fun ad10 H10 T hq10 hT10 had10 hE10 hW ho10 => ?_)
  have hs11 := tf_keepQ hs8 (ho10 _ _ ha0)
  have hs12 := tf_keepQ hs9 (ho10 _ _ ha0)
  have hs13 := tf_keepQ hs7 (ho10 _ _ ha0)
  have ha0 := hE10 _ _ ha0
  have had1 := hE10 _ _ had1
  have had3 := hE10 _ _ had3
  refine tf_put hx hb hts inlX4 tyX4 tyX4_ok nmX4 hown hK (ci := 4) rfl hW ha0 rfl rfl 3 rfl (by decide) (by decide) (hts _ fl_X4_22) rfl trivial rfl rfl dX4_init_31 (fun H14 locs14 hW hs14 ht14 hq14 => ?_)
  have hs15 := (ht14 0 (by decide) (by decide)).trans hs11
  have hs16 := (ht14 1 (by decide) (by decide)).trans hs12
  have hs17 := (ht14 2 (by decide) (by decide)).trans hs13
  refine lv_aload_n hx hb dX4_init_34 rfl (lv_at hl 0 rfl) ?_
  refine tf_iconst hx hb dX4_init_35 ?_
  refine tf_put hx hb hts inlX4 tyX4 tyX4_ok nmX4 hown hK (ci := 4) rfl hW ha0 rfl rfl 4 rfl (by decide) (by decide) (hts _ fl_X4_25) rfl trivial rfl rfl dX4_init_36 (fun H18 locs18 hW hs18 ht18 hq18 => ?_)
  have hs19 := (ht18 0 (by decide) (by decide)).trans hs15
  have hs20 := (ht18 1 (by decide) (by decide)).trans hs16
  have hs21 := (ht18 2 (by decide) (by decide)).trans hs17
  have hs22 := (ht18 3 (by decide) (by decide)).trans hs14
  refine W.widen (k := 3) (n := 802) (by omega) (by omega) ?_
  exact tf_retC (ci := 4) hx hb hr hlocks hQ hW ha0 rfl (by decide) rfl (fun j f hj => match j, hj with | 0, hj => by obtain rfl : _ = f := Option.some.inj hj; exact ⟨_, hs19, tf_u1 had1⟩ | 1, hj => by obtain rfl : _ = f := Option.some.inj hj; exact ⟨_, hs20, tf_u1 had3⟩ | 2, hj => by obtain rfl : _ = f := Option.some.inj hj; exact ⟨_, hs21, tf_u0 (by omega) (by omega)⟩ | 3, hj => by obtain rfl : _ = f := Option.some.inj hj; exact ⟨_, hs22, tf_u3 had10 (by omega)⟩ | 4, hj => by obtain rfl : _ = f := Option.some.inj hj; exact ⟨_, hs18, tf_u0 (by omega) (by omega)⟩ | (j + 5), hj => by cases hj) dX4_init_39

abbrev M_X2_init : List (Nat × Nat) := [(53, 0), (53, 1), (53, 2), (53, 3), (53, 4), (53, 5), (53, 6), (53, 7), (55, 0), (55, 1), (55, 2), (55, 3), (55, 4)]
set_option maxHeartbeats 4000000 in
set_option maxRecDepth 100000 in
theorem c_X2_init (l : Launch) (g : tf_G) (T : tf_T) (a0 : Nat) (ha0 : T a0 = some (53, 0)) : Met l yX2_init (cd_X2_init :: wsL_law) ({ frames := 2, cells := 6, slots := 1233, locals := 60 }) (tf_P g T [.ref a0] (fun H => True)) (tf_QC g M_X2_init T a0 19) 6 1233 (fun q => tf_B g ≤ q) := by
  refine Met.ofW (cc := cX2_init) (maxL := 1) (ret := none) (by decide) rfl ?_
  intro p e s m args below meth c s₁ B hml hv
  obtain ⟨hargs, hk, hW0, hB, hpre⟩ := hv
  have hx := B.exec
  have hb := B.bytes
  have hr := B.returns
  have hts : ∀ w ∈ wsL_law, w.before args s = true := fun w h => atoms_spec (ws := cd_X2_init :: wsL_law) B.pre w (List.mem_cons_of_mem _ h)
  have hown : s.vm.findClass RX2 = some m.cls := findClass_of_methodNamed B.named
  have hlocks := B.notSynchronized
  have hK := hk.1
  have hW := tf_n.start (M := M_X2_init) hW0 hB
  obtain ⟨Q, hQ⟩ : ∃ q, q = MQ below (tf_QC g M_X2_init T a0 19) args s 6 1233 (fun q => tf_B g ≤ q) := ⟨_, rfl⟩
  rw [← hQ]
  obtain ⟨R, hR⟩ : ∃ q, q = (headSpec (cd_X2_init :: wsL_law) ({ frames := 2, cells := 6, slots := 1233, locals := 60 })).room := ⟨_, rfl⟩
  rw [← hR]
  have hR1 : 2 ≤ R.frames := by rw [hR]; exact Nat.le_refl _
  have hR2 : 60 ≤ R.locals := by rw [hR]; exact Nat.le_refl _
  have hR3 : 6 ≤ R.cells := by rw [hR]; exact Nat.le_refl _
  have hR4 : 1233 ≤ R.slots := by rw [hR]; exact Nat.le_refl _
  have hin := (name_of_methodNamed B.named B.method).1
  clear hR B
  refine tf_enter (As := [.ref a0]) hargs (Nat.le_of_ble_eq_true rfl) (fun ls hl => ?_)
  have hl : lv_has ls 1 [(0, .ref a0)] := hl
  refine lv_aload_n hx hb dX2_init_0 rfl (lv_at hl 0 rfl) ?_
  refine W.objInit hx hb hown (hts _ (tw5 (i := 18) rfl)) (hts _ (tw1 (i := 10) rfl)) (hts _ (tw1 (i := 11) rfl)) rfl (by rw [hml]; exact hl.1) rfl dX2_init_1 (Nat.le_trans (by decide) hR1) (Nat.le_trans (by exact Nat.le_of_ble_eq_true rfl) hR2) ?_
  refine W.eq (g2 := F0 m 4 ls []) rfl ?_
  refine lv_aload_n hx hb dX2_init_4 rfl (lv_at hl 0 rfl) ?_
  refine tf_sipush hx hb dX2_init_5 (by decide) ?_
  refine tf_newarr (atype := .int) (ty := .int) (f := (0, 0, 0, -2147483648, 2147483647)) (t0 := 0) (k := 0) (N := 401) hx hb (hts _ (tw2 (i := 5) rfl)) hK rfl rfl rfl (fun h => h) (tf_d0 (by decide) (by decide)) hW (by omega) rfl (by decide) (by decide) (Nat.le_trans (by omega) hR3) (Nat.le_trans (by omega) hR4) dX2_init_8 (fun ad1 H1 T hq1 hT1 had1 hE1 hW ho1 => ?_)
  have ha0 := hE1 _ _ ha0
  refine tf_putF hx hb hts inlX2 tyX2 tyX2_ok nmX2 hown hK (ci := 2) rfl hW ha0 rfl rfl 0 rfl (by decide) (by decide) (hts _ fl_X2_9) rfl hin rfl trivial rfl rfl dX2_init_10 (fun H2 locs2 hW hs2 ht2 hq2 => ?_)
  refine lv_aload_n hx hb dX2_init_13 rfl (lv_at hl 0 rfl) ?_
  refine tf_iconst hx hb dX2_init_14 ?_
  refine tf_put hx hb hts inlX2 tyX2 tyX2_ok nmX2 hown hK (ci := 2) rfl hW ha0 rfl rfl 1 rfl (by decide) (by decide) (hts _ fl_X2_15) rfl trivial rfl rfl dX2_init_15 (fun H3 locs3 hW hs3 ht3 hq3 => ?_)
  have hs4 := (ht3 0 (by decide) (by decide)).trans hs2
  refine lv_aload_n hx hb dX2_init_18 rfl (lv_at hl 0 rfl) ?_
  refine tf_bipush hx hb dX2_init_19 (by decide) ?_
  refine tf_newarr (atype := .int) (ty := .int) (f := (0, 0, 0, -2147483648, 2147483647)) (t0 := 0) (k := 0) (N := 25) hx hb (hts _ (tw2 (i := 5) rfl)) hK rfl rfl rfl (fun h => h) (tf_d0 (by decide) (by decide)) hW (by omega) rfl (by decide) (by decide) (Nat.le_trans (by omega) hR3) (Nat.le_trans (by omega) hR4) dX2_init_21 (fun ad5 H5 T hq5 hT5 had5 hE5 hW ho5 => ?_)
  have hs6 := tf_keepQ hs4 (ho5 _ _ ha0)
  have hs7 := tf_keepQ hs3 (ho5 _ _ ha0)
  have ha0 := hE5 _ _ ha0
  have had1 := hE5 _ _ had1
  refine tf_putF hx hb hts inlX2 tyX2 tyX2_ok nmX2 hown hK (ci := 2) rfl hW ha0 rfl rfl 2 rfl (by decide) (by decide) (hts _ fl_X2_19) rfl hin rfl trivial rfl rfl dX2_init_23 (fun H8 locs8 hW hs8 ht8 hq8 => ?_)
  have hs9 := (ht8 0 (by decide) (by decide)).trans hs6
  have hs10 := (ht8 1 (by decide) (by decide)).trans hs7
  refine lv_aload_n hx hb dX2_init_26 rfl (lv_at hl 0 rfl) ?_
  have hsz11 := hW.2.2.1.1
  refine tf_new (kr := 55) hx hb hts inlX4 tyX4 tyX4_ok hown (hts _ (tw5 (i := 22) rfl)) (hts _ (tw5 (i := 23) rfl)) (hts _ (tw6 (i := 0) rfl)) hK (ci := 4) rfl hW rfl ⟨rfl, by decide⟩ (Nat.le_trans (by omega) hR3) (Nat.le_trans (by omega) hR4) dX2_init_27 (fun ad11 H11 T hq11 hT11 had11 hE11 hW ho11 => ?_)
  have hsz11 := Nat.le_trans hsz11 (Nat.le_of_eq hq11)
  have hs12 := tf_keepQ hs9 (ho11 _ _ ha0)
  have hs13 := tf_keepQ hs10 (ho11 _ _ ha0)
  have hs14 := tf_keepQ hs8 (ho11 _ _ ha0)
  have ha0 := hE11 _ _ ha0
  have had1 := hE11 _ _ had1
  have had5 := hE11 _ _ had5
  refine lv_dup hx hb dX2_init_30 rfl ?_
  refine tf_callC (va_runIN (As := []) (rest := [.ref ad11, .ref a0]) ⟨hx, hb, hml, hown, hts⟩ (c_X4_init l g T ad11 had11) ⟨va_cnB 0 hts (gw_ws cm_X4_init) rfl rfl rfl (hk.2.1 _ nw_8) (hts _ (tw6 (i := 0) rfl)) hd_X4_init.2 ⟨Nat.le_trans (by decide) hR1, Nat.le_trans (by decide) hR2⟩, rfl, hts _ (tw6 (i := 6) rfl)⟩ (tf_preS hk hW trivial) rfl rfl hl.1 rfl (lv_room (Nat.le_of_ble_eq_true rfl)) dX2_init_31 ⟨Nat.le_trans (by omega) hR3, Nat.le_trans (by omega) hR4⟩) hW (by decide) (tf_fresh hW0 hsz11) hsz11 had11 (fun H15 locs15 T hW hn15 hE15 hF15 => ?_)
  have hs16 := tf_keepF hF15 ha0 rfl rfl (by decide) hs12
  have hs17 := tf_keepF hF15 ha0 rfl rfl (by decide) hs13
  have hs18 := tf_keepF hF15 ha0 rfl rfl (by decide) hs14
  have ha0 := hE15 _ _ (tf_ne ha0 had11 (by decide)) ha0
  have had1 := hE15 _ _ (tf_ne had1 had11 (by decide)) had1
  have had5 := hE15 _ _ (tf_ne had5 had11 (by decide)) had5
  refine tf_putF hx hb hts inlX2 tyX2 tyX2_ok nmX2 hown hK (ci := 2) rfl hW ha0 rfl rfl 3 rfl (by decide) (by decide) (hts _ fl_X2_25) rfl hin rfl trivial rfl rfl dX2_init_34 (fun H19 locs19 hW hs19 ht19 hq19 => ?_)
  have hs20 := (ht19 0 (by decide) (by decide)).trans hs16
  have hs21 := (ht19 1 (by decide) (by decide)).trans hs17
  have hs22 := (ht19 2 (by decide) (by decide)).trans hs18
  refine lv_aload_n hx hb dX2_init_37 rfl (lv_at hl 0 rfl) ?_
  refine tf_iconst hx hb dX2_init_38 ?_
  refine tf_put hx hb hts inlX2 tyX2 tyX2_ok nmX2 hown hK (ci := 2) rfl hW ha0 rfl rfl 4 rfl (by decide) (by decide) (hts _ fl_X2_29) rfl trivial rfl rfl dX2_init_39 (fun H23 locs23 hW hs23 ht23 hq23 => ?_)
  have hs24 := (ht23 0 (by decide) (by decide)).trans hs20
  have hs25 := (ht23 1 (by decide) (by decide)).trans hs21
  have hs26 := (ht23 2 (by decide) (by decide)).trans hs22
  have hs27 := (ht23 3 (by decide) (by decide)).trans hs19
  refine lv_aload_n hx hb dX2_init_42 rfl (lv_at hl 0 rfl) ?_
  refine tf_iconst hx hb dX2_init_43 ?_
  refine tf_put hx hb hts inlX2 tyX2 tyX2_ok nmX2 hown hK (ci := 2) rfl hW ha0 rfl rfl 5 rfl (by decide) (by decide) (hts _ fl_X2_32) rfl trivial rfl rfl dX2_init_44 (fun H28 locs28 hW hs28 ht28 hq28 => ?_)
  have hs29 := (ht28 0 (by decide) (by decide)).trans hs24
  have hs30 := (ht28 1 (by decide) (by decide)).trans hs25
  have hs31 := (ht28 2 (by decide) (by decide)).trans hs26
  have hs32 := (ht28 3 (by decide) (by decide)).trans hs27
  have hs33 := (ht28 4 (by decide) (by decide)).trans hs23
  refine lv_aload_n hx hb dX2_init_47 rfl (lv_at hl 0 rfl) ?_
  refine tf_iconst hx hb dX2_init_48 ?_
  refine tf_put hx hb hts inlX2 tyX2 tyX2_ok nmX2 hown hK (ci := 2) rfl hW ha0 rfl rfl 6 rfl (by decide) (by decide) (hts _ fl_X2_35) rfl trivial rfl rfl dX2_init_49 (fun H34 locs34 hW hs34 ht34 hq34 => ?_)
  have hs35 := (ht34 0 (by decide) (by decide)).trans hs29
  have hs36 := (ht34 1 (by decide) (by decide)).trans hs30
  have hs37 := (ht34 2 (by decide) (by decide)).trans hs31
  have hs38 := (ht34 3 (by decide) (by decide)).trans hs32
  have hs39 := (ht34 4 (by decide) (by decide)).trans hs33
  have hs40 := (ht34 5 (by decide) (by decide)).trans hs28
  refine lv_aload_n hx hb dX2_init_52 rfl (lv_at hl 0 rfl) ?_
  refine tf_iconst hx hb dX2_init_53 ?_
  refine tf_put hx hb hts inlX2 tyX2 tyX2_ok nmX2 hown hK (ci := 2) rfl hW ha0 rfl rfl 7 rfl (by decide) (by decide) (hts _ fl_X2_38) rfl trivial rfl rfl dX2_init_54 (fun H41 locs41 hW hs41 ht41 hq41 => ?_)
  have hs42 := (ht41 0 (by decide) (by decide)).trans hs35
  have hs43 := (ht41 1 (by decide) (by decide)).trans hs36
  have hs44 := (ht41 2 (by decide) (by decide)).trans hs37
  have hs45 := (ht41 3 (by decide) (by decide)).trans hs38
  have hs46 := (ht41 4 (by decide) (by decide)).trans hs39
  have hs47 := (ht41 5 (by decide) (by decide)).trans hs40
  have hs48 := (ht41 6 (by decide) (by decide)).trans hs34
  refine W.widen (k := 6) (n := 1233) (by omega) (by omega) ?_
  exact tf_retC (ci := 2) hx hb hr hlocks hQ hW ha0 rfl (by decide) rfl (fun j f hj => match j, hj with | 0, hj => by obtain rfl : _ = f := Option.some.inj hj; exact ⟨_, hs42, tf_u1 had1⟩ | 1, hj => by obtain rfl : _ = f := Option.some.inj hj; exact ⟨_, hs43, tf_u0 (by omega) (by omega)⟩ | 2, hj => by obtain rfl : _ = f := Option.some.inj hj; exact ⟨_, hs44, tf_u1 had5⟩ | 3, hj => by obtain rfl : _ = f := Option.some.inj hj; exact ⟨_, hs45, tf_u1 hn15⟩ | 4, hj => by obtain rfl : _ = f := Option.some.inj hj; exact ⟨_, hs46, tf_u0 (by omega) (by omega)⟩ | 5, hj => by obtain rfl : _ = f := Option.some.inj hj; exact ⟨_, hs47, tf_u0 (by omega) (by omega)⟩ | 6, hj => by obtain rfl : _ = f := Option.some.inj hj; exact ⟨_, hs48, tf_u0 (by omega) (by omega)⟩ | 7, hj => by obtain rfl : _ = f := Option.some.inj hj; exact ⟨_, hs41, tf_u0 (by omega) (by omega)⟩ | (j + 8), hj => by cases hj) dX2_init_57

abbrev M_X1_init : List (Nat × Nat) := [(52, 0), (52, 1)]
set_option maxHeartbeats 4000000 in
set_option maxRecDepth 100000 in
theorem c_X1_init (l : Launch) (g : tf_G) (T : tf_T) (a0 : Nat) (ha0 : T a0 = some (52, 0)) (a1 i1 : Nat) (ha1 : T a1 = some (10, i1)) (hi1 : i1 ≤ 401) (a2 i2 : Nat) (ha2 : T a2 = some (10, i2)) (hi2 : i2 ≤ 401) : Met l yX1_init (cd_X1_init :: wsL_law) ({ frames := 1, cells := 0, slots := 0, locals := 40 }) (tf_P g T [.ref a0, .ref a1, .ref a2] (fun H => True)) (tf_QC g M_X1_init T a0 18) 0 0 (fun q => tf_B g ≤ q) := by
  refine Met.ofW (cc := cX1_init) (maxL := 3) (ret := none) (by decide) rfl ?_
  intro p e s m args below meth c s₁ B hml hv
  obtain ⟨hargs, hk, hW0, hB, hpre⟩ := hv
  have hx := B.exec
  have hb := B.bytes
  have hr := B.returns
  have hts : ∀ w ∈ wsL_law, w.before args s = true := fun w h => atoms_spec (ws := cd_X1_init :: wsL_law) B.pre w (List.mem_cons_of_mem _ h)
  have hown : s.vm.findClass RX1 = some m.cls := findClass_of_methodNamed B.named
  have hlocks := B.notSynchronized
  have hK := hk.1
  have hW := tf_n.start (M := M_X1_init) hW0 hB
  obtain ⟨Q, hQ⟩ : ∃ q, q = MQ below (tf_QC g M_X1_init T a0 18) args s 0 0 (fun q => tf_B g ≤ q) := ⟨_, rfl⟩
  rw [← hQ]
  obtain ⟨R, hR⟩ : ∃ q, q = (headSpec (cd_X1_init :: wsL_law) ({ frames := 1, cells := 0, slots := 0, locals := 40 })).room := ⟨_, rfl⟩
  rw [← hR]
  have hR1 : 1 ≤ R.frames := by rw [hR]; exact Nat.le_refl _
  have hR2 : 40 ≤ R.locals := by rw [hR]; exact Nat.le_refl _
  have hR3 : 0 ≤ R.cells := by rw [hR]; exact Nat.le_refl _
  have hR4 : 0 ≤ R.slots := by rw [hR]; exact Nat.le_refl _
  have hin := (name_of_methodNamed B.named B.method).1
  clear hR B
  refine tf_enter (As := [.ref a0, .ref a1, .ref a2]) hargs (Nat.le_of_ble_eq_true rfl) (fun ls hl => ?_)
  have hl : lv_has ls 3 [(0, .ref a0), (1, .ref a1), (2, .ref a2)] := hl
  refine lv_aload_n hx hb dX1_init_0 rfl (lv_at hl 0 rfl) ?_
  refine W.objInit hx hb hown (hts _ (tw27 (i := 0) rfl)) (hts _ (tw1 (i := 10) rfl)) (hts _ (tw1 (i := 11) rfl)) rfl (by rw [hml]; exact hl.1) rfl dX1_init_1 (Nat.le_trans (by decide) hR1) (Nat.le_trans (by exact Nat.le_of_ble_eq_true rfl) hR2) ?_
  refine W.eq (g2 := F0 m 4 ls []) rfl ?_
  refine lv_aload_n hx hb dX1_init_4 rfl (lv_at hl 0 rfl) ?_
  refine lv_aload_n hx hb dX1_init_5 rfl (lv_at hl 1 rfl) ?_
  refine tf_putF hx hb hts inlX1 tyX1 tyX1_ok nmX1 hown hK (ci := 1) rfl hW ha0 rfl rfl 0 rfl (by decide) (by decide) (hts _ fl_X1_9) rfl hin rfl trivial rfl rfl dX1_init_6 (fun H1 locs1 hW hs1 ht1 hq1 => ?_)
  refine lv_aload_n hx hb dX1_init_9 rfl (lv_at hl 0 rfl) ?_
  refine lv_aload_n hx hb dX1_init_10 rfl (lv_at hl 2 rfl) ?_
  refine tf_putF hx hb hts inlX1 tyX1 tyX1_ok nmX1 hown hK (ci := 1) rfl hW ha0 rfl rfl 1 rfl (by decide) (by decide) (hts _ fl_X1_15) rfl hin rfl trivial rfl rfl dX1_init_11 (fun H2 locs2 hW hs2 ht2 hq2 => ?_)
  have hs3 := (ht2 0 (by decide) (by decide)).trans hs1
  refine W.widen (k := 0) (n := 0) (by omega) (by omega) ?_
  exact tf_retC (ci := 1) hx hb hr hlocks hQ hW ha0 rfl (by decide) rfl (fun j f hj => match j, hj with | 0, hj => by obtain rfl : _ = f := Option.some.inj hj; exact ⟨_, hs3, tf_u3 ha1 (by omega)⟩ | 1, hj => by obtain rfl : _ = f := Option.some.inj hj; exact ⟨_, hs2, tf_u3 ha2 (by omega)⟩ | (j + 2), hj => by cases hj) dX1_init_14

abbrev M_X9_init : List (Nat × Nat) := [(5, 0), (51, 0), (51, 1), (51, 2), (51, 3), (53, 0), (53, 1), (53, 2), (53, 3), (53, 4), (53, 5), (53, 6), (53, 7), (54, 0), (54, 1), (54, 2), (54, 3), (54, 4), (54, 5), (54, 6), (54, 7), (54, 8), (54, 9), (54, 10), (54, 11), (55, 0), (55, 1), (55, 2), (55, 3), (55, 4), (56, 0), (56, 1), (56, 2), (56, 3), (56, 4), (57, 0), (57, 1), (57, 2), (57, 3), (57, 4), (57, 5), (57, 6), (57, 7), (57, 8), (57, 9), (57, 10), (58, 0), (58, 1), (58, 2), (58, 3), (58, 4), (58, 5), (59, 0), (59, 1), (59, 2), (59, 3), (59, 4), (60, 0), (60, 1), (60, 2), (60, 3), (60, 4), (60, 5), (60, 6), (60, 7), (60, 8), (60, 9), (60, 10), (60, 11), (60, 12), (60, 13)]
set_option maxHeartbeats 4000000 in
set_option maxRecDepth 100000 in
theorem c_X9_init (l : Launch) (g : tf_G) (T : tf_T) (a0 : Nat) (ha0 : T a0 = some (60, 0)) : Met l yX9_init (cd_X9_init :: wsL_law) ({ frames := 3, cells := 47, slots := 6280, locals := 80 }) (tf_P g T [.ref a0] (fun H => True)) (tf_QC g M_X9_init T a0 26) 47 6280 (fun q => tf_B g ≤ q) := by
  refine Met.ofW (cc := cX9_init) (maxL := 1) (ret := none) (by decide) rfl ?_
  intro p e s m args below meth c s₁ B hml hv
  obtain ⟨hargs, hk, hW0, hB, hpre⟩ := hv
  have hx := B.exec
  have hb := B.bytes
  have hr := B.returns
  have hts : ∀ w ∈ wsL_law, w.before args s = true := fun w h => atoms_spec (ws := cd_X9_init :: wsL_law) B.pre w (List.mem_cons_of_mem _ h)
  have hown : s.vm.findClass RX9 = some m.cls := findClass_of_methodNamed B.named
  have hlocks := B.notSynchronized
  have hK := hk.1
  have hW := tf_n.start (M := M_X9_init) hW0 hB
  obtain ⟨Q, hQ⟩ : ∃ q, q = MQ below (tf_QC g M_X9_init T a0 26) args s 47 6280 (fun q => tf_B g ≤ q) := ⟨_, rfl⟩
  rw [← hQ]
  obtain ⟨R, hR⟩ : ∃ q, q = (headSpec (cd_X9_init :: wsL_law) ({ frames := 3, cells := 47, slots := 6280, locals := 80 })).room := ⟨_, rfl⟩
  rw [← hR]
  have hR1 : 3 ≤ R.frames := by rw [hR]; exact Nat.le_refl _
  have hR2 : 80 ≤ R.locals := by rw [hR]; exact Nat.le_refl _
  have hR3 : 47 ≤ R.cells := by rw [hR]; exact Nat.le_refl _
  have hR4 : 6280 ≤ R.slots := by rw [hR]; exact Nat.le_refl _
  have hin := (name_of_methodNamed B.named B.method).1
  clear hR B
  refine tf_enter (As := [.ref a0]) hargs (Nat.le_of_ble_eq_true rfl) (fun ls hl => ?_)
  have hl : lv_has ls 1 [(0, .ref a0)] := hl
  refine lv_aload_n hx hb dX9_init_0 rfl (lv_at hl 0 rfl) ?_
  refine W.objInit hx hb hown (hts _ (tw1 (i := 9) rfl)) (hts _ (tw1 (i := 10) rfl)) (hts _ (tw1 (i := 11) rfl)) rfl (by rw [hml]; exact hl.1) rfl dX9_init_1 (Nat.le_trans (by decide) hR1) (Nat.le_trans (by exact Nat.le_of_ble_eq_true rfl) hR2) ?_
  refine W.eq (g2 := F0 m 4 ls []) rfl ?_
  refine lv_aload_n hx hb dX9_init_4 rfl (lv_at hl 0 rfl) ?_
  have hsz1 := hW.2.2.1.1
  refine tf_new (kr := 54) hx hb hts inlX3 tyX3 tyX3_ok hown (hts _ (tw1 (i := 12) rfl)) (hts _ (tw1 (i := 13) rfl)) (hts _ (tw1 (i := 14) rfl)) hK (ci := 3) rfl hW rfl ⟨rfl, by decide⟩ (Nat.le_trans (by omega) hR3) (Nat.le_trans (by omega) hR4) dX9_init_5 (fun ad1 H1 T hq1 hT1 had1 hE1 hW ho1 => ?_)
  have hsz1 := Nat.le_trans hsz1 (Nat.le_of_eq hq1)
  have ha0 := hE1 _ _ ha0
  refine lv_dup hx hb dX9_init_8 rfl ?_
  refine tf_callC (va_runIN (As := []) (rest := [.ref ad1, .ref a0]) ⟨hx, hb, hml, hown, hts⟩ (c_X3_init l g T ad1 had1) ⟨va_cnB 0 hts (gw_ws cm_X3_init) rfl rfl rfl (hk.2.1 _ nw_0) (hts _ (tw1 (i := 14) rfl)) hd_X3_init.2 ⟨Nat.le_trans (by decide) hR1, Nat.le_trans (by decide) hR2⟩, rfl, hts _ (tw2 (i := 15) rfl)⟩ (tf_preS hk hW trivial) rfl rfl hl.1 rfl (lv_room (Nat.le_of_ble_eq_true rfl)) dX9_init_9 ⟨Nat.le_trans (by omega) hR3, Nat.le_trans (by omega) hR4⟩) hW (by decide) (tf_fresh hW0 hsz1) hsz1 had1 (fun H2 locs2 T hW hn2 hE2 hF2 => ?_)
  have ha0 := hE2 _ _ (tf_ne ha0 had1 (by decide)) ha0
  refine tf_putF hx hb hts inlX9 tyX9 tyX9_ok nmX9 hown hK (ci := 9) rfl hW ha0 rfl rfl 0 rfl (by decide) (by decide) (hts _ fl_X9_10) rfl hin rfl trivial rfl rfl dX9_init_12 (fun H3 locs3 hW hs3 ht3 hq3 => ?_)
  refine lv_aload_n hx hb dX9_init_15 rfl (lv_at hl 0 rfl) ?_
  refine tf_iconst hx hb dX9_init_16 ?_
  refine tf_anewarr (t0 := 5) (k := 14) (N := 2) hx hb hown (hts _ (tw1 (i := 12) rfl)) hk.2.2.2.2.1 hK rfl rfl hW (by omega) rfl (by decide) (Nat.le_trans (by omega) hR3) (Nat.le_trans (by omega) hR4) dX9_init_17 (fun ad4 H4 T hq4 hT4 had4 hE4 hW ho4 => ?_)
  have hs5 := tf_keepQ hs3 (ho4 _ _ ha0)
  have ha0 := hE4 _ _ ha0
  have hn2 := hE4 _ _ hn2
  refine tf_putF hx hb hts inlX9 tyX9 tyX9_ok nmX9 hown hK (ci := 9) rfl hW ha0 rfl rfl 1 rfl (by decide) (by decide) (hts _ fl_X9_16) rfl hin rfl trivial rfl rfl dX9_init_20 (fun H6 locs6 hW hs6 ht6 hq6 => ?_)
  have hs7 := (ht6 0 (by decide) (by decide)).trans hs5
  refine lv_aload_n hx hb dX9_init_23 rfl (lv_at hl 0 rfl) ?_
  have hsz8 := hW.2.2.1.1
  refine tf_new (kr := 58) hx hb hts inlX7 tyX7 tyX7_ok hown (hts _ (tw1 (i := 17) rfl)) (hts _ (tw1 (i := 18) rfl)) (hts _ (tw1 (i := 19) rfl)) hK (ci := 7) rfl hW rfl ⟨rfl, by decide⟩ (Nat.le_trans (by omega) hR3) (Nat.le_trans (by omega) hR4) dX9_init_24 (fun ad8 H8 T hq8 hT8 had8 hE8 hW ho8 => ?_)
  have hsz8 := Nat.le_trans hsz8 (Nat.le_of_eq hq8)
  have hs9 := tf_keepQ hs7 (ho8 _ _ ha0)
  have hs10 := tf_keepQ hs6 (ho8 _ _ ha0)
  have ha0 := hE8 _ _ ha0
  have hn2 := hE8 _ _ hn2
  have had4 := hE8 _ _ had4
  refine lv_dup hx hb dX9_init_27 rfl ?_
  refine tf_callC (va_runIN (As := []) (rest := [.ref ad8, .ref a0]) ⟨hx, hb, hml, hown, hts⟩ (c_X7_init l g T ad8 had8) ⟨va_cnB 0 hts (gw_ws cm_X7_init) rfl rfl rfl (hk.2.1 _ nw_4) (hts _ (tw1 (i := 19) rfl)) hd_X7_init.2 ⟨Nat.le_trans (by decide) hR1, Nat.le_trans (by decide) hR2⟩, rfl, hts _ (tw4 (i := 15) rfl)⟩ (tf_preS hk hW trivial) rfl rfl hl.1 rfl (lv_room (Nat.le_of_ble_eq_true rfl)) dX9_init_28 ⟨Nat.le_trans (by omega) hR3, Nat.le_trans (by omega) hR4⟩) hW (by decide) (tf_fresh hW0 hsz8) hsz8 had8 (fun H11 locs11 T hW hn11 hE11 hF11 => ?_)
  have hs12 := tf_keepF hF11 ha0 rfl rfl (by decide) hs9
  have hs13 := tf_keepF hF11 ha0 rfl rfl (by decide) hs10
  have ha0 := hE11 _ _ (tf_ne ha0 had8 (by decide)) ha0
  have hn2 := hE11 _ _ (tf_ne hn2 had8 (by decide)) hn2
  have had4 := hE11 _ _ (tf_ne had4 had8 (by decide)) had4
  refine tf_putF hx hb hts inlX9 tyX9 tyX9_ok nmX9 hown hK (ci := 9) rfl hW ha0 rfl rfl 2 rfl (by decide) (by decide) (hts _ fl_X9_23) rfl hin rfl trivial rfl rfl dX9_init_31 (fun H14 locs14 hW hs14 ht14 hq14 => ?_)
  have hs15 := (ht14 0 (by decide) (by decide)).trans hs12
  have hs16 := (ht14 1 (by decide) (by decide)).trans hs13
  refine lv_aload_n hx hb dX9_init_34 rfl (lv_at hl 0 rfl) ?_
  have hsz17 := hW.2.2.1.1
  refine tf_new (kr := 57) hx hb hts inlX6 tyX6 tyX6_ok hown (hts _ (tw1 (i := 21) rfl)) (hts _ (tw1 (i := 22) rfl)) (hts _ (tw1 (i := 23) rfl)) hK (ci := 6) rfl hW rfl ⟨rfl, by decide⟩ (Nat.le_trans (by omega) hR3) (Nat.le_trans (by omega) hR4) dX9_init_35 (fun ad17 H17 T hq17 hT17 had17 hE17 hW ho17 => ?_)
  have hsz17 := Nat.le_trans hsz17 (Nat.le_of_eq hq17)
  have hs18 := tf_keepQ hs15 (ho17 _ _ ha0)
  have hs19 := tf_keepQ hs16 (ho17 _ _ ha0)
  have hs20 := tf_keepQ hs14 (ho17 _ _ ha0)
  have ha0 := hE17 _ _ ha0
  have hn2 := hE17 _ _ hn2
  have had4 := hE17 _ _ had4
  have hn11 := hE17 _ _ hn11
  refine lv_dup hx hb dX9_init_38 rfl ?_
  refine tf_callC (va_runIN (As := []) (rest := [.ref ad17, .ref a0]) ⟨hx, hb, hml, hown, hts⟩ (c_X6_init l g T ad17 had17) ⟨va_cnB 0 hts (gw_ws cm_X6_init) rfl rfl rfl (hk.2.1 _ nw_5) (hts _ (tw1 (i := 23) rfl)) hd_X6_init.2 ⟨Nat.le_trans (by decide) hR1, Nat.le_trans (by decide) hR2⟩, rfl, hts _ (tw5 (i := 1) rfl)⟩ (tf_preS hk hW trivial) rfl rfl hl.1 rfl (lv_room (Nat.le_of_ble_eq_true rfl)) dX9_init_39 ⟨Nat.le_trans (by omega) hR3, Nat.le_trans (by omega) hR4⟩) hW (by decide) (tf_fresh hW0 hsz17) hsz17 had17 (fun H21 locs21 T hW hn21 hE21 hF21 => ?_)
  have hs22 := tf_keepF hF21 ha0 rfl rfl (by decide) hs18
  have hs23 := tf_keepF hF21 ha0 rfl rfl (by decide) hs19
  have hs24 := tf_keepF hF21 ha0 rfl rfl (by decide) hs20
  have ha0 := hE21 _ _ (tf_ne ha0 had17 (by decide)) ha0
  have hn2 := hE21 _ _ (tf_ne hn2 had17 (by decide)) hn2
  have had4 := hE21 _ _ (tf_ne had4 had17 (by decide)) had4
  have hn11 := hE21 _ _ (tf_ne hn11 had17 (by decide)) hn11
  refine tf_putF hx hb hts inlX9 tyX9 tyX9_ok nmX9 hown hK (ci := 9) rfl hW ha0 rfl rfl 3 rfl (by decide) (by decide) (hts _ fl_X9_30) rfl hin rfl trivial rfl rfl dX9_init_42 (fun H25 locs25 hW hs25 ht25 hq25 => ?_)
  have hs26 := (ht25 0 (by decide) (by decide)).trans hs22
  have hs27 := (ht25 1 (by decide) (by decide)).trans hs23
  have hs28 := (ht25 2 (by decide) (by decide)).trans hs24
  refine lv_aload_n hx hb dX9_init_45 rfl (lv_at hl 0 rfl) ?_
  have hsz29 := hW.2.2.1.1
  refine tf_new (kr := 53) hx hb hts inlX2 tyX2 tyX2_ok hown (hts _ (tw2 (i := 1) rfl)) (hts _ (tw2 (i := 2) rfl)) (hts _ (tw2 (i := 3) rfl)) hK (ci := 2) rfl hW rfl ⟨rfl, by decide⟩ (Nat.le_trans (by omega) hR3) (Nat.le_trans (by omega) hR4) dX9_init_46 (fun ad29 H29 T hq29 hT29 had29 hE29 hW ho29 => ?_)
  have hsz29 := Nat.le_trans hsz29 (Nat.le_of_eq hq29)
  have hs30 := tf_keepQ hs26 (ho29 _ _ ha0)
  have hs31 := tf_keepQ hs27 (ho29 _ _ ha0)
  have hs32 := tf_keepQ hs28 (ho29 _ _ ha0)
  have hs33 := tf_keepQ hs25 (ho29 _ _ ha0)
  have ha0 := hE29 _ _ ha0
  have hn2 := hE29 _ _ hn2
  have had4 := hE29 _ _ had4
  have hn11 := hE29 _ _ hn11
  have hn21 := hE29 _ _ hn21
  refine lv_dup hx hb dX9_init_49 rfl ?_
  refine tf_callC (va_runIN (As := []) (rest := [.ref ad29, .ref a0]) ⟨hx, hb, hml, hown, hts⟩ (c_X2_init l g T ad29 had29) ⟨va_cnB 0 hts (gw_ws cm_X2_init) rfl rfl rfl (hk.2.1 _ nw_7) (hts _ (tw2 (i := 3) rfl)) hd_X2_init.2 ⟨Nat.le_trans (by decide) hR1, Nat.le_trans (by decide) hR2⟩, rfl, hts _ (tw5 (i := 16) rfl)⟩ (tf_preS hk hW trivial) rfl rfl hl.1 rfl (lv_room (Nat.le_of_ble_eq_true rfl)) dX9_init_50 ⟨Nat.le_trans (by omega) hR3, Nat.le_trans (by omega) hR4⟩) hW (by decide) (tf_fresh hW0 hsz29) hsz29 had29 (fun H34 locs34 T hW hn34 hE34 hF34 => ?_)
  have hs35 := tf_keepF hF34 ha0 rfl rfl (by decide) hs30
  have hs36 := tf_keepF hF34 ha0 rfl rfl (by decide) hs31
  have hs37 := tf_keepF hF34 ha0 rfl rfl (by decide) hs32
  have hs38 := tf_keepF hF34 ha0 rfl rfl (by decide) hs33
  have ha0 := hE34 _ _ (tf_ne ha0 had29 (by decide)) ha0
  have hn2 := hE34 _ _ (tf_ne hn2 had29 (by decide)) hn2
  have had4 := hE34 _ _ (tf_ne had4 had29 (by decide)) had4
  have hn11 := hE34 _ _ (tf_ne hn11 had29 (by decide)) hn11
  have hn21 := hE34 _ _ (tf_ne hn21 had29 (by decide)) hn21
  refine tf_putF hx hb hts inlX9 tyX9 tyX9_ok nmX9 hown hK (ci := 9) rfl hW ha0 rfl rfl 4 rfl (by decide) (by decide) (hts _ fl_X9_37) rfl hin rfl trivial rfl rfl dX9_init_53 (fun H39 locs39 hW hs39 ht39 hq39 => ?_)
  have hs40 := (ht39 0 (by decide) (by decide)).trans hs35
  have hs41 := (ht39 1 (by decide) (by decide)).trans hs36
  have hs42 := (ht39 2 (by decide) (by decide)).trans hs37
  have hs43 := (ht39 3 (by decide) (by decide)).trans hs38
  refine lv_aload_n hx hb dX9_init_56 rfl (lv_at hl 0 rfl) ?_
  refine tf_bipush hx hb dX9_init_57 (by decide) ?_
  refine tf_newarr (atype := .int) (ty := .int) (f := (0, 0, 0, -2147483648, 2147483647)) (t0 := 0) (k := 0) (N := 100) hx hb (hts _ (tw2 (i := 5) rfl)) hK rfl rfl rfl (fun h => h) (tf_d0 (by decide) (by decide)) hW (by omega) rfl (by decide) (by decide) (Nat.le_trans (by omega) hR3) (Nat.le_trans (by omega) hR4) dX9_init_59 (fun ad44 H44 T hq44 hT44 had44 hE44 hW ho44 => ?_)
  have hs45 := tf_keepQ hs40 (ho44 _ _ ha0)
  have hs46 := tf_keepQ hs41 (ho44 _ _ ha0)
  have hs47 := tf_keepQ hs42 (ho44 _ _ ha0)
  have hs48 := tf_keepQ hs43 (ho44 _ _ ha0)
  have hs49 := tf_keepQ hs39 (ho44 _ _ ha0)
  have ha0 := hE44 _ _ ha0
  have hn2 := hE44 _ _ hn2
  have had4 := hE44 _ _ had4
  have hn11 := hE44 _ _ hn11
  have hn21 := hE44 _ _ hn21
  have hn34 := hE44 _ _ hn34
  refine tf_putF hx hb hts inlX9 tyX9 tyX9_ok nmX9 hown hK (ci := 9) rfl hW ha0 rfl rfl 5 rfl (by decide) (by decide) (hts _ fl_X9_41) rfl hin rfl trivial rfl rfl dX9_init_61 (fun H50 locs50 hW hs50 ht50 hq50 => ?_)
  have hs51 := (ht50 0 (by decide) (by decide)).trans hs45
  have hs52 := (ht50 1 (by decide) (by decide)).trans hs46
  have hs53 := (ht50 2 (by decide) (by decide)).trans hs47
  have hs54 := (ht50 3 (by decide) (by decide)).trans hs48
  have hs55 := (ht50 4 (by decide) (by decide)).trans hs49
  refine lv_aload_n hx hb dX9_init_64 rfl (lv_at hl 0 rfl) ?_
  refine tf_sipush hx hb dX9_init_65 (by decide) ?_
  refine tf_newarr (atype := .int) (ty := .int) (f := (0, 0, 0, 0, 255)) (t0 := 0) (k := 3) (N := 400) hx hb (hts _ (tw2 (i := 5) rfl)) hK rfl rfl rfl (fun h => h) (tf_d0 (by decide) (by decide)) hW (by omega) rfl (by decide) (by decide) (Nat.le_trans (by omega) hR3) (Nat.le_trans (by omega) hR4) dX9_init_68 (fun ad56 H56 T hq56 hT56 had56 hE56 hW ho56 => ?_)
  have hs57 := tf_keepQ hs51 (ho56 _ _ ha0)
  have hs58 := tf_keepQ hs52 (ho56 _ _ ha0)
  have hs59 := tf_keepQ hs53 (ho56 _ _ ha0)
  have hs60 := tf_keepQ hs54 (ho56 _ _ ha0)
  have hs61 := tf_keepQ hs55 (ho56 _ _ ha0)
  have hs62 := tf_keepQ hs50 (ho56 _ _ ha0)
  have ha0 := hE56 _ _ ha0
  have hn2 := hE56 _ _ hn2
  have had4 := hE56 _ _ had4
  have hn11 := hE56 _ _ hn11
  have hn21 := hE56 _ _ hn21
  have hn34 := hE56 _ _ hn34
  have had44 := hE56 _ _ had44
  refine tf_putF hx hb hts inlX9 tyX9 tyX9_ok nmX9 hown hK (ci := 9) rfl hW ha0 rfl rfl 6 rfl (by decide) (by decide) (hts _ fl_X9_45) rfl hin rfl trivial rfl rfl dX9_init_70 (fun H63 locs63 hW hs63 ht63 hq63 => ?_)
  have hs64 := (ht63 0 (by decide) (by decide)).trans hs57
  have hs65 := (ht63 1 (by decide) (by decide)).trans hs58
  have hs66 := (ht63 2 (by decide) (by decide)).trans hs59
  have hs67 := (ht63 3 (by decide) (by decide)).trans hs60
  have hs68 := (ht63 4 (by decide) (by decide)).trans hs61
  have hs69 := (ht63 5 (by decide) (by decide)).trans hs62
  refine lv_aload_n hx hb dX9_init_73 rfl (lv_at hl 0 rfl) ?_
  refine tf_iconst hx hb dX9_init_74 ?_
  refine tf_put hx hb hts inlX9 tyX9 tyX9_ok nmX9 hown hK (ci := 9) rfl hW ha0 rfl rfl 7 rfl (by decide) (by decide) (hts _ fl_X9_48) rfl trivial rfl rfl dX9_init_75 (fun H70 locs70 hW hs70 ht70 hq70 => ?_)
  have hs71 := (ht70 0 (by decide) (by decide)).trans hs64
  have hs72 := (ht70 1 (by decide) (by decide)).trans hs65
  have hs73 := (ht70 2 (by decide) (by decide)).trans hs66
  have hs74 := (ht70 3 (by decide) (by decide)).trans hs67
  have hs75 := (ht70 4 (by decide) (by decide)).trans hs68
  have hs76 := (ht70 5 (by decide) (by decide)).trans hs69
  have hs77 := (ht70 6 (by decide) (by decide)).trans hs63
  refine lv_aload_n hx hb dX9_init_78 rfl (lv_at hl 0 rfl) ?_
  refine tf_iconst hx hb dX9_init_79 ?_
  refine tf_put hx hb hts inlX9 tyX9 tyX9_ok nmX9 hown hK (ci := 9) rfl hW ha0 rfl rfl 8 rfl (by decide) (by decide) (hts _ fl_X9_52) rfl trivial rfl rfl dX9_init_80 (fun H78 locs78 hW hs78 ht78 hq78 => ?_)
  have hs79 := (ht78 0 (by decide) (by decide)).trans hs71
  have hs80 := (ht78 1 (by decide) (by decide)).trans hs72
  have hs81 := (ht78 2 (by decide) (by decide)).trans hs73
  have hs82 := (ht78 3 (by decide) (by decide)).trans hs74
  have hs83 := (ht78 4 (by decide) (by decide)).trans hs75
  have hs84 := (ht78 5 (by decide) (by decide)).trans hs76
  have hs85 := (ht78 6 (by decide) (by decide)).trans hs77
  have hs86 := (ht78 7 (by decide) (by decide)).trans hs70
  refine lv_aload_n hx hb dX9_init_83 rfl (lv_at hl 0 rfl) ?_
  refine tf_iconst hx hb dX9_init_84 ?_
  refine tf_put hx hb hts inlX9 tyX9 tyX9_ok nmX9 hown hK (ci := 9) rfl hW ha0 rfl rfl 9 rfl (by decide) (by decide) (hts _ fl_X9_55) rfl trivial rfl rfl dX9_init_85 (fun H87 locs87 hW hs87 ht87 hq87 => ?_)
  have hs88 := (ht87 0 (by decide) (by decide)).trans hs79
  have hs89 := (ht87 1 (by decide) (by decide)).trans hs80
  have hs90 := (ht87 2 (by decide) (by decide)).trans hs81
  have hs91 := (ht87 3 (by decide) (by decide)).trans hs82
  have hs92 := (ht87 4 (by decide) (by decide)).trans hs83
  have hs93 := (ht87 5 (by decide) (by decide)).trans hs84
  have hs94 := (ht87 6 (by decide) (by decide)).trans hs85
  have hs95 := (ht87 7 (by decide) (by decide)).trans hs86
  have hs96 := (ht87 8 (by decide) (by decide)).trans hs78
  refine lv_aload_n hx hb dX9_init_88 rfl (lv_at hl 0 rfl) ?_
  refine tf_bipush hx hb dX9_init_89 (by decide) ?_
  refine tf_newarr (atype := .int) (ty := .int) (f := (0, 0, 0, -2147483648, 2147483647)) (t0 := 0) (k := 11) (N := 24) hx hb (hts _ (tw2 (i := 5) rfl)) hK rfl rfl rfl (fun h => h) (tf_d0 (by decide) (by decide)) hW (by omega) rfl (by decide) (by decide) (Nat.le_trans (by omega) hR3) (Nat.le_trans (by omega) hR4) dX9_init_91 (fun ad97 H97 T hq97 hT97 had97 hE97 hW ho97 => ?_)
  have hs98 := tf_keepQ hs88 (ho97 _ _ ha0)
  have hs99 := tf_keepQ hs89 (ho97 _ _ ha0)
  have hs100 := tf_keepQ hs90 (ho97 _ _ ha0)
  have hs101 := tf_keepQ hs91 (ho97 _ _ ha0)
  have hs102 := tf_keepQ hs92 (ho97 _ _ ha0)
  have hs103 := tf_keepQ hs93 (ho97 _ _ ha0)
  have hs104 := tf_keepQ hs94 (ho97 _ _ ha0)
  have hs105 := tf_keepQ hs95 (ho97 _ _ ha0)
  have hs106 := tf_keepQ hs96 (ho97 _ _ ha0)
  have hs107 := tf_keepQ hs87 (ho97 _ _ ha0)
  have ha0 := hE97 _ _ ha0
  have hn2 := hE97 _ _ hn2
  have had4 := hE97 _ _ had4
  have hn11 := hE97 _ _ hn11
  have hn21 := hE97 _ _ hn21
  have hn34 := hE97 _ _ hn34
  have had44 := hE97 _ _ had44
  have had56 := hE97 _ _ had56
  refine tf_putF hx hb hts inlX9 tyX9 tyX9_ok nmX9 hown hK (ci := 9) rfl hW ha0 rfl rfl 10 rfl (by decide) (by decide) (hts _ fl_X9_58) rfl hin rfl trivial rfl rfl dX9_init_93 (fun H108 locs108 hW hs108 ht108 hq108 => ?_)
  have hs109 := (ht108 0 (by decide) (by decide)).trans hs98
  have hs110 := (ht108 1 (by decide) (by decide)).trans hs99
  have hs111 := (ht108 2 (by decide) (by decide)).trans hs100
  have hs112 := (ht108 3 (by decide) (by decide)).trans hs101
  have hs113 := (ht108 4 (by decide) (by decide)).trans hs102
  have hs114 := (ht108 5 (by decide) (by decide)).trans hs103
  have hs115 := (ht108 6 (by decide) (by decide)).trans hs104
  have hs116 := (ht108 7 (by decide) (by decide)).trans hs105
  have hs117 := (ht108 8 (by decide) (by decide)).trans hs106
  have hs118 := (ht108 9 (by decide) (by decide)).trans hs107
  refine lv_aload_n hx hb dX9_init_96 rfl (lv_at hl 0 rfl) ?_
  refine tf_iconst hx hb dX9_init_97 ?_
  refine tf_put hx hb hts inlX9 tyX9 tyX9_ok nmX9 hown hK (ci := 9) rfl hW ha0 rfl rfl 11 rfl (by decide) (by decide) (hts _ fl_X9_61) rfl trivial (tf_narZ (by omega)) (tf_fitZ (by omega)) dX9_init_98 (fun H119 locs119 hW hs119 ht119 hq119 => ?_)
  have hs120 := (ht119 0 (by decide) (by decide)).trans hs109
  have hs121 := (ht119 1 (by decide) (by decide)).trans hs110
  have hs122 := (ht119 2 (by decide) (by decide)).trans hs111
  have hs123 := (ht119 3 (by decide) (by decide)).trans hs112
  have hs124 := (ht119 4 (by decide) (by decide)).trans hs113
  have hs125 := (ht119 5 (by decide) (by decide)).trans hs114
  have hs126 := (ht119 6 (by decide) (by decide)).trans hs115
  have hs127 := (ht119 7 (by decide) (by decide)).trans hs116
  have hs128 := (ht119 8 (by decide) (by decide)).trans hs117
  have hs129 := (ht119 9 (by decide) (by decide)).trans hs118
  have hs130 := (ht119 10 (by decide) (by decide)).trans hs108
  refine lv_aload_n hx hb dX9_init_101 rfl (lv_at hl 0 rfl) ?_
  refine tf_bipush hx hb dX9_init_102 (by decide) ?_
  refine tf_newarr (atype := .int) (ty := .int) (f := (0, 0, 0, -2147483648, 2147483647)) (t0 := 0) (k := 12) (N := 7) hx hb (hts _ (tw2 (i := 5) rfl)) hK rfl rfl rfl (fun h => h) (tf_d0 (by decide) (by decide)) hW (by omega) rfl (by decide) (by decide) (Nat.le_trans (by omega) hR3) (Nat.le_trans (by omega) hR4) dX9_init_104 (fun ad131 H131 T hq131 hT131 had131 hE131 hW ho131 => ?_)
  have hs132 := tf_keepQ hs120 (ho131 _ _ ha0)
  have hs133 := tf_keepQ hs121 (ho131 _ _ ha0)
  have hs134 := tf_keepQ hs122 (ho131 _ _ ha0)
  have hs135 := tf_keepQ hs123 (ho131 _ _ ha0)
  have hs136 := tf_keepQ hs124 (ho131 _ _ ha0)
  have hs137 := tf_keepQ hs125 (ho131 _ _ ha0)
  have hs138 := tf_keepQ hs126 (ho131 _ _ ha0)
  have hs139 := tf_keepQ hs127 (ho131 _ _ ha0)
  have hs140 := tf_keepQ hs128 (ho131 _ _ ha0)
  have hs141 := tf_keepQ hs129 (ho131 _ _ ha0)
  have hs142 := tf_keepQ hs130 (ho131 _ _ ha0)
  have hs143 := tf_keepQ hs119 (ho131 _ _ ha0)
  have ha0 := hE131 _ _ ha0
  have hn2 := hE131 _ _ hn2
  have had4 := hE131 _ _ had4
  have hn11 := hE131 _ _ hn11
  have hn21 := hE131 _ _ hn21
  have hn34 := hE131 _ _ hn34
  have had44 := hE131 _ _ had44
  have had56 := hE131 _ _ had56
  have had97 := hE131 _ _ had97
  refine tf_putF hx hb hts inlX9 tyX9 tyX9_ok nmX9 hown hK (ci := 9) rfl hW ha0 rfl rfl 12 rfl (by decide) (by decide) (hts _ fl_X9_65) rfl hin rfl trivial rfl rfl dX9_init_106 (fun H144 locs144 hW hs144 ht144 hq144 => ?_)
  have hs145 := (ht144 0 (by decide) (by decide)).trans hs132
  have hs146 := (ht144 1 (by decide) (by decide)).trans hs133
  have hs147 := (ht144 2 (by decide) (by decide)).trans hs134
  have hs148 := (ht144 3 (by decide) (by decide)).trans hs135
  have hs149 := (ht144 4 (by decide) (by decide)).trans hs136
  have hs150 := (ht144 5 (by decide) (by decide)).trans hs137
  have hs151 := (ht144 6 (by decide) (by decide)).trans hs138
  have hs152 := (ht144 7 (by decide) (by decide)).trans hs139
  have hs153 := (ht144 8 (by decide) (by decide)).trans hs140
  have hs154 := (ht144 9 (by decide) (by decide)).trans hs141
  have hs155 := (ht144 10 (by decide) (by decide)).trans hs142
  have hs156 := (ht144 11 (by decide) (by decide)).trans hs143
  refine lv_aload_n hx hb dX9_init_109 rfl (lv_at hl 0 rfl) ?_
  refine tf_iconst hx hb dX9_init_110 ?_
  refine tf_put hx hb hts inlX9 tyX9 tyX9_ok nmX9 hown hK (ci := 9) rfl hW ha0 rfl rfl 13 rfl (by decide) (by decide) (hts _ fl_X9_68) rfl trivial rfl rfl dX9_init_111 (fun H157 locs157 hW hs157 ht157 hq157 => ?_)
  have hs158 := (ht157 0 (by decide) (by decide)).trans hs145
  have hs159 := (ht157 1 (by decide) (by decide)).trans hs146
  have hs160 := (ht157 2 (by decide) (by decide)).trans hs147
  have hs161 := (ht157 3 (by decide) (by decide)).trans hs148
  have hs162 := (ht157 4 (by decide) (by decide)).trans hs149
  have hs163 := (ht157 5 (by decide) (by decide)).trans hs150
  have hs164 := (ht157 6 (by decide) (by decide)).trans hs151
  have hs165 := (ht157 7 (by decide) (by decide)).trans hs152
  have hs166 := (ht157 8 (by decide) (by decide)).trans hs153
  have hs167 := (ht157 9 (by decide) (by decide)).trans hs154
  have hs168 := (ht157 10 (by decide) (by decide)).trans hs155
  have hs169 := (ht157 11 (by decide) (by decide)).trans hs156
  have hs170 := (ht157 12 (by decide) (by decide)).trans hs144
  refine W.widen (k := 47) (n := 6280) (by omega) (by omega) ?_
  exact tf_retC (ci := 9) hx hb hr hlocks hQ hW ha0 rfl (by decide) rfl (fun j f hj => match j, hj with | 0, hj => by obtain rfl : _ = f := Option.some.inj hj; exact ⟨_, hs158, tf_u1 hn2⟩ | 1, hj => by obtain rfl : _ = f := Option.some.inj hj; exact ⟨_, hs159, tf_u1 had4⟩ | 2, hj => by obtain rfl : _ = f := Option.some.inj hj; exact ⟨_, hs160, tf_u1 hn11⟩ | 3, hj => by obtain rfl : _ = f := Option.some.inj hj; exact ⟨_, hs161, tf_u1 hn21⟩ | 4, hj => by obtain rfl : _ = f := Option.some.inj hj; exact ⟨_, hs162, tf_u1 hn34⟩ | 5, hj => by obtain rfl : _ = f := Option.some.inj hj; exact ⟨_, hs163, tf_u1 had44⟩ | 6, hj => by obtain rfl : _ = f := Option.some.inj hj; exact ⟨_, hs164, tf_u1 had56⟩ | 7, hj => by obtain rfl : _ = f := Option.some.inj hj; exact ⟨_, hs165, tf_u0 (by omega) (by omega)⟩ | 8, hj => by obtain rfl : _ = f := Option.some.inj hj; exact ⟨_, hs166, tf_u0 (by omega) (by omega)⟩ | 9, hj => by obtain rfl : _ = f := Option.some.inj hj; exact ⟨_, hs167, tf_u0 (by omega) (by omega)⟩ | 10, hj => by obtain rfl : _ = f := Option.some.inj hj; exact ⟨_, hs168, tf_u1 had97⟩ | 11, hj => by obtain rfl : _ = f := Option.some.inj hj; exact ⟨_, hs169, tf_u0 (by omega) (by omega)⟩ | 12, hj => by obtain rfl : _ = f := Option.some.inj hj; exact ⟨_, hs170, tf_u1 had131⟩ | 13, hj => by obtain rfl : _ = f := Option.some.inj hj; exact ⟨_, hs157, tf_u0 (by omega) (by omega)⟩ | (j + 14), hj => by cases hj) dX9_init_114

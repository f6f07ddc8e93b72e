
abbrev M_X0_init : List (Nat × Nat) := [(64, 0), (64, 1), (64, 2), (64, 3)]
set_option maxHeartbeats 4000000 in
set_option maxRecDepth 100000 in
theorem c_X0_init (l : Launch) (g : tf_G) (T : tf_T) (a0 : Nat) (ha0 : T a0 = some (64, 0)) : Met l yX0_init (cd_X0_init :: wsL_law) ({ frames := 1, cells := 4, slots := 1024, locals := 40 }) (tf_P g T [.ref a0] (fun H => True)) (tf_QC g M_X0_init T a0 28) 4 1024 (fun q => tf_B g ≤ q) := by
  refine Met.ofW (cc := cX0_init) (maxL := 1) (ret := none) (by decide) rfl ?_
  intro p e s m args below meth c s₁ B hml hv
  obtain ⟨hargs, hk, hW0, hB, hpre⟩ := hv
  have hx := B.exec
  have hb := B.bytes
  have hr := B.returns
  have hts : ∀ w ∈ wsL_law, w.before args s = true := fun w h => atoms_spec (ws := cd_X0_init :: wsL_law) B.pre w (List.mem_cons_of_mem _ h)
  have hown : s.vm.findClass RX0 = some m.cls := findClass_of_methodNamed B.named
  have hlocks := B.notSynchronized
  have hK := hk.1
  have hW := tf_n.start (M := M_X0_init) hW0 hB
  obtain ⟨Q, hQ⟩ : ∃ q, q = MQ below (tf_QC g M_X0_init T a0 28) args s 4 1024 (fun q => tf_B g ≤ q) := ⟨_, rfl⟩
  rw [← hQ]
  obtain ⟨R, hR⟩ : ∃ q, q = (headSpec (cd_X0_init :: wsL_law) ({ frames := 1, cells := 4, slots := 1024, locals := 40 })).room := ⟨_, rfl⟩
  rw [← hR]
  have hR1 : 1 ≤ R.frames := by rw [hR]; exact Nat.le_refl _
  have hR2 : 40 ≤ R.locals := by rw [hR]; exact Nat.le_refl _
  have hR3 : 4 ≤ R.cells := by rw [hR]; exact Nat.le_refl _
  have hR4 : 1024 ≤ R.slots := by rw [hR]; exact Nat.le_refl _
  have hin := (name_of_methodNamed B.named B.method).1
  clear hR B
  refine tf_enter (As := [.ref a0]) hargs (Nat.le_of_ble_eq_true rfl) (fun ls hl => ?_)
  have hl : lv_has ls 1 [(0, .ref a0)] := hl
  refine lv_aload_n hx hb dX0_init_0 rfl (lv_at hl 0 rfl) ?_
  refine W.objInit hx hb hown (hts _ (tw3 (i := 18) rfl)) (hts _ (tw1 (i := 10) rfl)) (hts _ (tw1 (i := 11) rfl)) rfl (by rw [hml]; exact hl.1) rfl dX0_init_1 (Nat.le_trans (by decide) hR1) (Nat.le_trans (by exact Nat.le_of_ble_eq_true rfl) hR2) ?_
  refine W.eq (g2 := F0 m 4 ls []) rfl ?_
  refine lv_aload_n hx hb dX0_init_4 rfl (lv_at hl 0 rfl) ?_
  refine tf_sipush hx hb dX0_init_5 (by decide) ?_
  refine tf_newarr (atype := .int) (ty := .int) (f := (0, 0, 0, -2147483648, 2147483647)) (t0 := 0) (k := 1) (N := 256) hx hb (hts _ (tw2 (i := 5) rfl)) hK rfl rfl rfl (fun h => h) (tf_d0 (by decide) (by decide)) hW (by omega) rfl (by decide) (by decide) (Nat.le_trans (by omega) hR3) (Nat.le_trans (by omega) hR4) dX0_init_8 (fun ad1 H1 T hq1 hT1 had1 hE1 hW ho1 => ?_)
  have ha0 := hE1 _ _ ha0
  refine tf_putF hx hb hts inlX0 tyX0 tyX0_ok nmX0 hown hK (ci := 0) rfl hW ha0 rfl rfl 0 rfl (by decide) (by decide) (hts _ fl_X0_9) rfl hin rfl trivial rfl rfl dX0_init_10 (fun H2 locs2 hW hs2 ht2 hq2 => ?_)
  refine lv_aload_n hx hb dX0_init_13 rfl (lv_at hl 0 rfl) ?_
  refine tf_sipush hx hb dX0_init_14 (by decide) ?_
  refine tf_newarr (atype := .int) (ty := .int) (f := (0, 0, 0, -2147483648, 2147483647)) (t0 := 0) (k := 1) (N := 256) hx hb (hts _ (tw2 (i := 5) rfl)) hK rfl rfl rfl (fun h => h) (tf_d0 (by decide) (by decide)) hW (by omega) rfl (by decide) (by decide) (Nat.le_trans (by omega) hR3) (Nat.le_trans (by omega) hR4) dX0_init_17 (fun ad3 H3 T hq3 hT3 had3 hE3 hW ho3 => ?_)
  have hs4 := tf_keepQ hs2 (ho3 _ _ ha0)
  have ha0 := hE3 _ _ ha0
  have had1 := hE3 _ _ had1
  refine tf_putF hx hb hts inlX0 tyX0 tyX0_ok nmX0 hown hK (ci := 0) rfl hW ha0 rfl rfl 1 rfl (by decide) (by decide) (hts _ fl_X0_15) rfl hin rfl trivial rfl rfl dX0_init_19 (fun H5 locs5 hW hs5 ht5 hq5 => ?_)
  have hs6 := (ht5 0 (by decide) (by decide)).trans hs4
  refine lv_aload_n hx hb dX0_init_22 rfl (lv_at hl 0 rfl) ?_
  refine tf_sipush hx hb dX0_init_23 (by decide) ?_
  refine tf_newarr (atype := .int) (ty := .int) (f := (0, 0, 0, -2147483648, 2147483647)) (t0 := 0) (k := 1) (N := 256) hx hb (hts _ (tw2 (i := 5) rfl)) hK rfl rfl rfl (fun h => h) (tf_d0 (by decide) (by decide)) hW (by omega) rfl (by decide) (by decide) (Nat.le_trans (by omega) hR3) (Nat.le_trans (by omega) hR4) dX0_init_26 (fun ad7 H7 T hq7 hT7 had7 hE7 hW ho7 => ?_)
  have hs8 := tf_keepQ hs6 (ho7 _ _ ha0)
  have hs9 := tf_keepQ hs5 (ho7 _ _ ha0)
  have ha0 := hE7 _ _ ha0
  have had1 := hE7 _ _ had1
  have had3 := hE7 _ _ had3
  refine tf_putF hx hb hts inlX0 tyX0 tyX0_ok nmX0 hown hK (ci := 0) rfl hW ha0 rfl rfl 2 rfl (by decide) (by decide) (hts _ fl_X0_18) rfl hin rfl trivial rfl rfl dX0_init_28 (fun H10 locs10 hW hs10 ht10 hq10 => ?_)
  have hs11 := (ht10 0 (by decide) (by decide)).trans hs8
  have hs12 := (ht10 1 (by decide) (by decide)).trans hs9
  refine lv_aload_n hx hb dX0_init_31 rfl (lv_at hl 0 rfl) ?_
  refine tf_sipush hx hb dX0_init_32 (by decide) ?_
  refine tf_newarr (atype := .int) (ty := .int) (f := (0, 0, 0, -2147483648, 2147483647)) (t0 := 0) (k := 1) (N := 256) hx hb (hts _ (tw2 (i := 5) rfl)) hK rfl rfl rfl (fun h => h) (tf_d0 (by decide) (by decide)) hW (by omega) rfl (by decide) (by decide) (Nat.le_trans (by omega) hR3) (Nat.le_trans (by omega) hR4) dX0_init_35 (fun ad13 H13 T hq13 hT13 had13 hE13 hW ho13 => ?_)
  have hs14 := tf_keepQ hs11 (ho13 _ _ ha0)
  have hs15 := tf_keepQ hs12 (ho13 _ _ ha0)
  have hs16 := tf_keepQ hs10 (ho13 _ _ ha0)
  have ha0 := hE13 _ _ ha0
  have had1 := hE13 _ _ had1
  have had3 := hE13 _ _ had3
  have had7 := hE13 _ _ had7
  refine tf_putF hx hb hts inlX0 tyX0 tyX0_ok nmX0 hown hK (ci := 0) rfl hW ha0 rfl rfl 3 rfl (by decide) (by decide) (hts _ fl_X0_21) rfl hin rfl trivial rfl rfl dX0_init_37 (fun H17 locs17 hW hs17 ht17 hq17 => ?_)
  have hs18 := (ht17 0 (by decide) (by decide)).trans hs14
  have hs19 := (ht17 1 (by decide) (by decide)).trans hs15
  have hs20 := (ht17 2 (by decide) (by decide)).trans hs16
  refine W.widen (k := 4) (n := 1024) (by omega) (by omega) ?_
  exact tf_retC (ci := 0) hx hb hr hlocks hQ hW ha0 rfl (by decide) rfl (fun j f hj => match j, hj with | 0, hj => by obtain rfl : _ = f := Option.some.inj hj; exact ⟨_, hs18, tf_u1 had1⟩ | 1, hj => by obtain rfl : _ = f := Option.some.inj hj; exact ⟨_, hs19, tf_u1 had3⟩ | 2, hj => by obtain rfl : _ = f := Option.some.inj hj; exact ⟨_, hs20, tf_u1 had7⟩ | 3, hj => by obtain rfl : _ = f := Option.some.inj hj; exact ⟨_, hs17, tf_u1 had13⟩ | (j + 4), hj => by cases hj) dX0_init_40

abbrev M_X5_init : List (Nat × Nat) := [(69, 0), (69, 1), (69, 2), (69, 3), (69, 4)]
set_option maxHeartbeats 4000000 in
set_option maxRecDepth 100000 in
theorem c_X5_init (l : Launch) (g : tf_G) (T : tf_T) (a0 : Nat) (ha0 : T a0 = some (69, 0)) : Met l yX5_init (cd_X5_init :: wsL_law) ({ frames := 1, cells := 4, slots := 24, locals := 40 }) (tf_P g T [.ref a0] (fun H => True)) (tf_QC g M_X5_init T a0 35) 4 24 (fun q => tf_B g ≤ q) := by
  refine Met.ofW (cc := cX5_init) (maxL := 1) (ret := none) (by decide) rfl ?_
  intro p e s m args below meth c s₁ B hml hv
  obtain ⟨hargs, hk, hW0, hB, hpre⟩ := hv
  have hx := B.exec
  have hb := B.bytes
  have hr := B.returns
  have hts : ∀ w ∈ wsL_law, w.before args s = true := fun w h => atoms_spec (ws := cd_X5_init :: wsL_law) B.pre w (List.mem_cons_of_mem _ h)
  have hown : s.vm.findClass RX5 = some m.cls := findClass_of_methodNamed B.named
  have hlocks := B.notSynchronized
  have hK := hk.1
  have hW := tf_n.start (M := M_X5_init) hW0 hB
  obtain ⟨Q, hQ⟩ : ∃ q, q = MQ below (tf_QC g M_X5_init T a0 35) args s 4 24 (fun q => tf_B g ≤ q) := ⟨_, rfl⟩
  rw [← hQ]
  obtain ⟨R, hR⟩ : ∃ q, q = (headSpec (cd_X5_init :: wsL_law) ({ frames := 1, cells := 4, slots := 24, locals := 40 })).room := ⟨_, rfl⟩
  rw [← hR]
  have hR1 : 1 ≤ R.frames := by rw [hR]; exact Nat.le_refl _
  have hR2 : 40 ≤ R.locals := by rw [hR]; exact Nat.le_refl _
  have hR3 : 4 ≤ R.cells := by rw [hR]; exact Nat.le_refl _
  have hR4 : 24 ≤ R.slots := by rw [hR]; exact Nat.le_refl _
  have hin := (name_of_methodNamed B.named B.method).1
  clear hR B
  refine tf_enter (As := [.ref a0]) hargs (Nat.le_of_ble_eq_true rfl) (fun ls hl => ?_)
  have hl : lv_has ls 1 [(0, .ref a0)] := hl
  refine lv_aload_n hx hb dX5_init_0 rfl (lv_at hl 0 rfl) ?_
  refine W.objInit hx hb hown (hts _ (tw4 (i := 1) rfl)) (hts _ (tw1 (i := 10) rfl)) (hts _ (tw1 (i := 11) rfl)) rfl (by rw [hml]; exact hl.1) rfl dX5_init_1 (Nat.le_trans (by decide) hR1) (Nat.le_trans (by exact Nat.le_of_ble_eq_true rfl) hR2) ?_
  refine W.eq (g2 := F0 m 4 ls []) rfl ?_
  refine lv_aload_n hx hb dX5_init_4 rfl (lv_at hl 0 rfl) ?_
  refine tf_bipush hx hb dX5_init_5 (by decide) ?_
  refine tf_newarr (atype := .int) (ty := .int) (f := (0, 0, 0, 0, 9)) (t0 := 0) (k := 2) (N := 6) hx hb (hts _ (tw2 (i := 5) rfl)) hK rfl rfl rfl (fun h => h) (tf_d0 (by decide) (by decide)) hW (by omega) rfl (by decide) (by decide) (Nat.le_trans (by omega) hR3) (Nat.le_trans (by omega) hR4) dX5_init_7 (fun ad1 H1 T hq1 hT1 had1 hE1 hW ho1 => ?_)
  have ha0 := hE1 _ _ ha0
  refine tf_putF hx hb hts inlX5 tyX5 tyX5_ok nmX5 hown hK (ci := 5) rfl hW ha0 rfl rfl 0 rfl (by decide) (by decide) (hts _ fl_X5_9) rfl hin rfl trivial rfl rfl dX5_init_9 (fun H2 locs2 hW hs2 ht2 hq2 => ?_)
  refine lv_aload_n hx hb dX5_init_12 rfl (lv_at hl 0 rfl) ?_
  refine tf_bipush hx hb dX5_init_13 (by decide) ?_
  refine tf_newarr (atype := .int) (ty := .int) (f := (0, 0, 0, 0, 9)) (t0 := 0) (k := 2) (N := 6) hx hb (hts _ (tw2 (i := 5) rfl)) hK rfl rfl rfl (fun h => h) (tf_d0 (by decide) (by decide)) hW (by omega) rfl (by decide) (by decide) (Nat.le_trans (by omega) hR3) (Nat.le_trans (by omega) hR4) dX5_init_15 (fun ad3 H3 T hq3 hT3 had3 hE3 hW ho3 => ?_)
  have hs4 := tf_keepQ hs2 (ho3 _ _ ha0)
  have ha0 := hE3 _ _ ha0
  have had1 := hE3 _ _ had1
  refine tf_putF hx hb hts inlX5 tyX5 tyX5_ok nmX5 hown hK (ci := 5) rfl hW ha0 rfl rfl 1 rfl (by decide) (by decide) (hts _ fl_X5_15) rfl hin rfl trivial rfl rfl dX5_init_17 (fun H5 locs5 hW hs5 ht5 hq5 => ?_)
  have hs6 := (ht5 0 (by decide) (by decide)).trans hs4
  refine lv_aload_n hx hb dX5_init_20 rfl (lv_at hl 0 rfl) ?_
  refine tf_bipush hx hb dX5_init_21 (by decide) ?_
  refine tf_newarr (atype := .int) (ty := .int) (f := (0, 0, 0, 0, 9)) (t0 := 0) (k := 2) (N := 6) hx hb (hts _ (tw2 (i := 5) rfl)) hK rfl rfl rfl (fun h => h) (tf_d0 (by decide) (by decide)) hW (by omega) rfl (by decide) (by decide) (Nat.le_trans (by omega) hR3) (Nat.le_trans (by omega) hR4) dX5_init_23 (fun ad7 H7 T hq7 hT7 had7 hE7 hW ho7 => ?_)
  have hs8 := tf_keepQ hs6 (ho7 _ _ ha0)
  have hs9 := tf_keepQ hs5 (ho7 _ _ ha0)
  have ha0 := hE7 _ _ ha0
  have had1 := hE7 _ _ had1
  have had3 := hE7 _ _ had3
  refine tf_putF hx hb hts inlX5 tyX5 tyX5_ok nmX5 hown hK (ci := 5) rfl hW ha0 rfl rfl 2 rfl (by decide) (by decide) (hts _ fl_X5_18) rfl hin rfl trivial rfl rfl dX5_init_25 (fun H10 locs10 hW hs10 ht10 hq10 => ?_)
  have hs11 := (ht10 0 (by decide) (by decide)).trans hs8
  have hs12 := (ht10 1 (by decide) (by decide)).trans hs9
  refine lv_aload_n hx hb dX5_init_28 rfl (lv_at hl 0 rfl) ?_
  refine tf_bipush hx hb dX5_init_29 (by decide) ?_
  refine tf_newarr (atype := .int) (ty := .int) (f := (0, 0, 0, 0, 9)) (t0 := 0) (k := 2) (N := 6) hx hb (hts _ (tw2 (i := 5) rfl)) hK rfl rfl rfl (fun h => h) (tf_d0 (by decide) (by decide)) hW (by omega) rfl (by decide) (by decide) (Nat.le_trans (by omega) hR3) (Nat.le_trans (by omega) hR4) dX5_init_31 (fun ad13 H13 T hq13 hT13 had13 hE13 hW ho13 => ?_)
  have hs14 := tf_keepQ hs11 (ho13 _ _ ha0)
  have hs15 := tf_keepQ hs12 (ho13 _ _ ha0)
  have hs16 := tf_keepQ hs10 (ho13 _ _ ha0)
  have ha0 := hE13 _ _ ha0
  have had1 := hE13 _ _ had1
  have had3 := hE13 _ _ had3
  have had7 := hE13 _ _ had7
  refine tf_putF hx hb hts inlX5 tyX5 tyX5_ok nmX5 hown hK (ci := 5) rfl hW ha0 rfl rfl 3 rfl (by decide) (by decide) (hts _ fl_X5_21) rfl hin rfl trivial rfl rfl dX5_init_33 (fun H17 locs17 hW hs17 ht17 hq17 => ?_)
  have hs18 := (ht17 0 (by decide) (by decide)).trans hs14
  have hs19 := (ht17 1 (by decide) (by decide)).trans hs15
  have hs20 := (ht17 2 (by decide) (by decide)).trans hs16
  refine lv_aload_n hx hb dX5_init_36 rfl (lv_at hl 0 rfl) ?_
  refine tf_iconst hx hb dX5_init_37 ?_
  refine tf_put hx hb hts inlX5 tyX5 tyX5_ok nmX5 hown hK (ci := 5) rfl hW ha0 rfl rfl 4 rfl (by decide) (by decide) (hts _ fl_X5_24) rfl trivial rfl rfl dX5_init_38 (fun H21 locs21 hW hs21 ht21 hq21 => ?_)
  have hs22 := (ht21 0 (by decide) (by decide)).trans hs18
  have hs23 := (ht21 1 (by decide) (by decide)).trans hs19
  have hs24 := (ht21 2 (by decide) (by decide)).trans hs20
  have hs25 := (ht21 3 (by decide) (by decide)).trans hs17
  refine W.widen (k := 4) (n := 24) (by omega) (by omega) ?_
  exact tf_retC (ci := 5) hx hb hr hlocks hQ hW ha0 rfl (by decide) rfl (fun j f hj => match j, hj with | 0, hj => by obtain rfl : _ = f := Option.some.inj hj; exact ⟨_, hs22, tf_u1 had1⟩ | 1, hj => by obtain rfl : _ = f := Option.some.inj hj; exact ⟨_, hs23, tf_u1 had3⟩ | 2, hj => by obtain rfl : _ = f := Option.some.inj hj; exact ⟨_, hs24, tf_u1 had7⟩ | 3, hj => by obtain rfl : _ = f := Option.some.inj hj; exact ⟨_, hs25, tf_u1 had13⟩ | 4, hj => by obtain rfl : _ = f := Option.some.inj hj; exact ⟨_, hs21, tf_u0 (by omega) (by omega)⟩ | (j + 5), hj => by cases hj) dX5_init_41

abbrev M_X8_init : List (Nat × Nat) := [(72, 0), (72, 1), (72, 2), (72, 3), (72, 4)]
set_option maxHeartbeats 4000000 in
set_option maxRecDepth 100000 in
theorem c_X8_init (l : Launch) (g : tf_G) (T : tf_T) (a0 : Nat) (ha0 : T a0 = some (72, 0)) : Met l yX8_init (cd_X8_init :: wsL_law) ({ frames := 1, cells := 4, slots := 32, locals := 40 }) (tf_P g T [.ref a0] (fun H => True)) (tf_QC g M_X8_init T a0 38) 4 32 (fun q => tf_B g ≤ q) := by
  refine Met.ofW (cc := cX8_init) (maxL := 1) (ret := none) (by decide) rfl ?_
  intro p e s m args below meth c s₁ B hml hv
  obtain ⟨hargs, hk, hW0, hB, hpre⟩ := hv
  have hx := B.exec
  have hb := B.bytes
  have hr := B.returns
  have hts : ∀ w ∈ wsL_law, w.before args s = true := fun w h => atoms_spec (ws := cd_X8_init :: wsL_law) B.pre w (List.mem_cons_of_mem _ h)
  have hown : s.vm.findClass RX8 = some m.cls := findClass_of_methodNamed B.named
  have hlocks := B.notSynchronized
  have hK := hk.1
  have hW := tf_n.start (M := M_X8_init) hW0 hB
  obtain ⟨Q, hQ⟩ : ∃ q, q = MQ below (tf_QC g M_X8_init T a0 38) args s 4 32 (fun q => tf_B g ≤ q) := ⟨_, rfl⟩
  rw [← hQ]
  obtain ⟨R, hR⟩ : ∃ q, q = (headSpec (cd_X8_init :: wsL_law) ({ frames := 1, cells := 4, slots := 32, locals := 40 })).room := ⟨_, rfl⟩
  rw [← hR]
  have hR1 : 1 ≤ R.frames := by rw [hR]; exact Nat.le_refl _
  have hR2 : 40 ≤ R.locals := by rw [hR]; exact Nat.le_refl _
  have hR3 : 4 ≤ R.cells := by rw [hR]; exact Nat.le_refl _
  have hR4 : 32 ≤ R.slots := by rw [hR]; exact Nat.le_refl _
  have hin := (name_of_methodNamed B.named B.method).1
  clear hR B
  refine tf_enter (As := [.ref a0]) hargs (Nat.le_of_ble_eq_true rfl) (fun ls hl => ?_)
  have hl : lv_has ls 1 [(0, .ref a0)] := hl
  refine lv_aload_n hx hb dX8_init_0 rfl (lv_at hl 0 rfl) ?_
  refine W.objInit hx hb hown (hts _ (tw4 (i := 9) rfl)) (hts _ (tw1 (i := 10) rfl)) (hts _ (tw1 (i := 11) rfl)) rfl (by rw [hml]; exact hl.1) rfl dX8_init_1 (Nat.le_trans (by decide) hR1) (Nat.le_trans (by exact Nat.le_of_ble_eq_true rfl) hR2) ?_
  refine W.eq (g2 := F0 m 4 ls []) rfl ?_
  refine lv_aload_n hx hb dX8_init_4 rfl (lv_at hl 0 rfl) ?_
  refine tf_bipush hx hb dX8_init_5 (by decide) ?_
  refine tf_newarr (atype := .int) (ty := .int) (f := (0, 0, 0, -2147483648, 2147483647)) (t0 := 0) (k := 10) (N := 8) hx hb (hts _ (tw2 (i := 5) rfl)) hK rfl rfl rfl (fun h => h) (tf_d0 (by decide) (by decide)) hW (by omega) rfl (by decide) (by decide) (Nat.le_trans (by omega) hR3) (Nat.le_trans (by omega) hR4) dX8_init_7 (fun ad1 H1 T hq1 hT1 had1 hE1 hW ho1 => ?_)
  have ha0 := hE1 _ _ ha0
  refine tf_putF hx hb hts inlX8 tyX8 tyX8_ok nmX8 hown hK (ci := 8) rfl hW ha0 rfl rfl 0 rfl (by decide) (by decide) (hts _ fl_X8_9) rfl hin rfl trivial rfl rfl dX8_init_9 (fun H2 locs2 hW hs2 ht2 hq2 => ?_)
  refine lv_aload_n hx hb dX8_init_12 rfl (lv_at hl 0 rfl) ?_
  refine tf_bipush hx hb dX8_init_13 (by decide) ?_
  refine tf_newarr (atype := .int) (ty := .int) (f := (0, 0, 0, -2147483648, 2147483647)) (t0 := 0) (k := 10) (N := 8) hx hb (hts _ (tw2 (i := 5) rfl)) hK rfl rfl rfl (fun h => h) (tf_d0 (by decide) (by decide)) hW (by omega) rfl (by decide) (by decide) (Nat.le_trans (by omega) hR3) (Nat.le_trans (by omega) hR4) dX8_init_15 (fun ad3 H3 T hq3 hT3 had3 hE3 hW ho3 => ?_)
  have hs4 := tf_keepQ hs2 (ho3 _ _ ha0)
  have ha0 := hE3 _ _ ha0
  have had1 := hE3 _ _ had1
  refine tf_putF hx hb hts inlX8 tyX8 tyX8_ok nmX8 hown hK (ci := 8) rfl hW ha0 rfl rfl 1 rfl (by decide) (by decide) (hts _ fl_X8_15) rfl hin rfl trivial rfl rfl dX8_init_17 (fun H5 locs5 hW hs5 ht5 hq5 => ?_)
  have hs6 := (ht5 0 (by decide) (by decide)).trans hs4
  refine lv_aload_n hx hb dX8_init_20 rfl (lv_at hl 0 rfl) ?_
  refine tf_bipush hx hb dX8_init_21 (by decide) ?_
  refine tf_newarr (atype := .int) (ty := .int) (f := (0, 0, 0, -2147483648, 2147483647)) (t0 := 0) (k := 10) (N := 8) hx hb (hts _ (tw2 (i := 5) rfl)) hK rfl rfl rfl (fun h => h) (tf_d0 (by decide) (by decide)) hW (by omega) rfl (by decide) (by decide) (Nat.le_trans (by omega) hR3) (Nat.le_trans (by omega) hR4) dX8_init_23 (fun ad7 H7 T hq7 hT7 had7 hE7 hW ho7 => ?_)
  have hs8 := tf_keepQ hs6 (ho7 _ _ ha0)
  have hs9 := tf_keepQ hs5 (ho7 _ _ ha0)
  have ha0 := hE7 _ _ ha0
  have had1 := hE7 _ _ had1
  have had3 := hE7 _ _ had3
  refine tf_putF hx hb hts inlX8 tyX8 tyX8_ok nmX8 hown hK (ci := 8) rfl hW ha0 rfl rfl 2 rfl (by decide) (by decide) (hts _ fl_X8_18) rfl hin rfl trivial rfl rfl dX8_init_25 (fun H10 locs10 hW hs10 ht10 hq10 => ?_)
  have hs11 := (ht10 0 (by decide) (by decide)).trans hs8
  have hs12 := (ht10 1 (by decide) (by decide)).trans hs9
  refine lv_aload_n hx hb dX8_init_28 rfl (lv_at hl 0 rfl) ?_
  refine tf_bipush hx hb dX8_init_29 (by decide) ?_
  refine tf_newarr (atype := .int) (ty := .int) (f := (0, 0, 0, -2147483648, 2147483647)) (t0 := 0) (k := 10) (N := 8) hx hb (hts _ (tw2 (i := 5) rfl)) hK rfl rfl rfl (fun h => h) (tf_d0 (by decide) (by decide)) hW (by omega) rfl (by decide) (by decide) (Nat.le_trans (by omega) hR3) (Nat.le_trans (by omega) hR4) dX8_init_31 (fun ad13 H13 T hq13 hT13 had13 hE13 hW ho13 => ?_)
  have hs14 := tf_keepQ hs11 (ho13 _ _ ha0)
  have hs15 := tf_keepQ hs12 (ho13 _ _ ha0)
  have hs16 := tf_keepQ hs10 (ho13 _ _ ha0)
  have ha0 := hE13 _ _ ha0
  have had1 := hE13 _ _ had1
  have had3 := hE13 _ _ had3
  have had7 := hE13 _ _ had7
  refine tf_putF hx hb hts inlX8 tyX8 tyX8_ok nmX8 hown hK (ci := 8) rfl hW ha0 rfl rfl 3 rfl (by decide) (by decide) (hts _ fl_X8_21) rfl hin rfl trivial rfl rfl dX8_init_33 (fun H17 locs17 hW hs17 ht17 hq17 => ?_)
  have hs18 := (ht17 0 (by decide) (by decide)).trans hs14
  have hs19 := (ht17 1 (by decide) (by decide)).trans hs15
  have hs20 := (ht17 2 (by decide) (by decide)).trans hs16
  refine lv_aload_n hx hb dX8_init_36 rfl (lv_at hl 0 rfl) ?_
  refine tf_iconst hx hb dX8_init_37 ?_
  refine tf_put hx hb hts inlX8 tyX8 tyX8_ok nmX8 hown hK (ci := 8) rfl hW ha0 rfl rfl 4 rfl (by decide) (by decide) (hts _ fl_X8_24) rfl trivial rfl rfl dX8_init_38 (fun H21 locs21 hW hs21 ht21 hq21 => ?_)
  have hs22 := (ht21 0 (by decide) (by decide)).trans hs18
  have hs23 := (ht21 1 (by decide) (by decide)).trans hs19
  have hs24 := (ht21 2 (by decide) (by decide)).trans hs20
  have hs25 := (ht21 3 (by decide) (by decide)).trans hs17
  refine W.widen (k := 4) (n := 32) (by omega) (by omega) ?_
  exact tf_retC (ci := 8) hx hb hr hlocks hQ hW ha0 rfl (by decide) rfl (fun j f hj => match j, hj with | 0, hj => by obtain rfl : _ = f := Option.some.inj hj; exact ⟨_, hs22, tf_u1 had1⟩ | 1, hj => by obtain rfl : _ = f := Option.some.inj hj; exact ⟨_, hs23, tf_u1 had3⟩ | 2, hj => by obtain rfl : _ = f := Option.some.inj hj; exact ⟨_, hs24, tf_u1 had7⟩ | 3, hj => by obtain rfl : _ = f := Option.some.inj hj; exact ⟨_, hs25, tf_u1 had13⟩ | 4, hj => by obtain rfl : _ = f := Option.some.inj hj; exact ⟨_, hs21, tf_u0 (by omega) (by omega)⟩ | (j + 5), hj => by cases hj) dX8_init_41

abbrev M_X3_init : List (Nat × Nat) := [(5, 0), (64, 0), (64, 1), (64, 2), (64, 3), (67, 0), (67, 1), (67, 2), (67, 3), (67, 4), (67, 5), (67, 6), (67, 7), (67, 8), (67, 9), (67, 10), (67, 11), (69, 0), (69, 1), (69, 2), (69, 3), (69, 4), (72, 0), (72, 1), (72, 2), (72, 3), (72, 4)]
set_option maxHeartbeats 4000000 in
set_option maxRecDepth 100000 in
theorem c_X3_init (l : Launch) (g : tf_G) (T : tf_T) (a0 : Nat) (ha0 : T a0 = some (67, 0)) : Met l yX3_init (cd_X3_init :: wsL_law) ({ frames := 2, cells := 21, slots := 1164, locals := 60 }) (tf_P g T [.ref a0] (fun H => True)) (tf_QCp g M_X3_init T a0 31 (fun H => ((tf_rw H (tf_fr H a0 (g.1.2 3 3))) 1 = 99 ∧ (tf_rw H (tf_fr H a0 (g.1.2 3 3))) 2 = 99 ∧ (tf_rw H (tf_fr H a0 (g.1.2 3 3))) 3 = 99) ∧ ((tf_rw H (tf_fr H a0 (g.1.2 3 4))) = fun _ => 0) ∧ ((tf_rw H (tf_fr H a0 (g.1.2 3 5))) = fun _ => 0) ∧ ((tf_rw H (tf_fr H a0 (g.1.2 3 6))) = fun _ => 0))) 21 1164 (fun q => tf_B g ≤ q) := by
  refine Met.ofW (cc := cX3_init) (maxL := 1) (ret := none) (by decide) rfl ?_
  intro p e s m args below meth c s₁ B hml hv
  obtain ⟨hargs, hk, hW0, hB, hpre⟩ := hv
  have hx := B.exec
  have hb := B.bytes
  have hr := B.returns
  have hts : ∀ w ∈ wsL_law, w.before args s = true := fun w h => atoms_spec (ws := cd_X3_init :: wsL_law) B.pre w (List.mem_cons_of_mem _ h)
  have hown : s.vm.findClass RX3 = some m.cls := findClass_of_methodNamed B.named
  have hlocks := B.notSynchronized
  have hK := hk.1
  have hW := tf_n.start (M := M_X3_init) hW0 hB
  obtain ⟨Q, hQ⟩ : ∃ q, q = MQ below (tf_QCp g M_X3_init T a0 31 (fun H => ((tf_rw H (tf_fr H a0 (g.1.2 3 3))) 1 = 99 ∧ (tf_rw H (tf_fr H a0 (g.1.2 3 3))) 2 = 99 ∧ (tf_rw H (tf_fr H a0 (g.1.2 3 3))) 3 = 99) ∧ ((tf_rw H (tf_fr H a0 (g.1.2 3 4))) = fun _ => 0) ∧ ((tf_rw H (tf_fr H a0 (g.1.2 3 5))) = fun _ => 0) ∧ ((tf_rw H (tf_fr H a0 (g.1.2 3 6))) = fun _ => 0))) args s 21 1164 (fun q => tf_B g ≤ q) := ⟨_, rfl⟩
  rw [← hQ]
  obtain ⟨R, hR⟩ : ∃ q, q = (headSpec (cd_X3_init :: wsL_law) ({ frames := 2, cells := 21, slots := 1164, locals := 60 })).room := ⟨_, rfl⟩
  rw [← hR]
  have hR1 : 2 ≤ R.frames := by rw [hR]; exact Nat.le_refl _
  have hR2 : 60 ≤ R.locals := by rw [hR]; exact Nat.le_refl _
  have hR3 : 21 ≤ R.cells := by rw [hR]; exact Nat.le_refl _
  have hR4 : 1164 ≤ R.slots := by rw [hR]; exact Nat.le_refl _
  have hin := (name_of_methodNamed B.named B.method).1
  clear hR B
  refine tf_enter (As := [.ref a0]) hargs (Nat.le_of_ble_eq_true rfl) (fun ls hl => ?_)
  have hl : lv_has ls 1 [(0, .ref a0)] := hl
  refine lv_aload_n hx hb dX3_init_0 rfl (lv_at hl 0 rfl) ?_
  refine W.objInit hx hb hown (hts _ (tw2 (i := 17) rfl)) (hts _ (tw1 (i := 10) rfl)) (hts _ (tw1 (i := 11) rfl)) rfl (by rw [hml]; exact hl.1) rfl dX3_init_1 (Nat.le_trans (by decide) hR1) (Nat.le_trans (by exact Nat.le_of_ble_eq_true rfl) hR2) ?_
  refine W.eq (g2 := F0 m 4 ls []) rfl ?_
  refine lv_aload_n hx hb dX3_init_4 rfl (lv_at hl 0 rfl) ?_
  have hsz1 := hW.2.2.1.1
  refine tf_new (kr := 64) hx hb hts inlX0 tyX0 tyX0_ok hown (hts _ (tw2 (i := 18) rfl)) (hts _ (tw2 (i := 19) rfl)) (hts _ (tw2 (i := 20) rfl)) hK (ci := 0) rfl hW rfl ⟨rfl, by decide⟩ (Nat.le_trans (by omega) hR3) (Nat.le_trans (by omega) hR4) dX3_init_5 (fun ad1 H1 T hq1 hT1 had1 hE1 hW ho1 => ?_)
  have hsz1 := Nat.le_trans hsz1 (Nat.le_of_eq hq1)
  have ha0 := hE1 _ _ ha0
  refine lv_dup hx hb dX3_init_8 rfl ?_
  refine tf_callC (va_runIN (As := []) (rest := [.ref ad1, .ref a0]) ⟨hx, hb, hml, hown, hts⟩ (c_X0_init l g T ad1 had1) ⟨va_cnB 0 hts (gw_ws cm_X0_init) rfl rfl rfl (hk.2.1 _ nw_1) (hts _ (tw2 (i := 20) rfl)) hd_X0_init.2 ⟨Nat.le_trans (by decide) hR1, Nat.le_trans (by decide) hR2⟩, rfl, hts _ (tw3 (i := 16) rfl)⟩ (tf_preS hk hW trivial) rfl rfl hl.1 rfl (lv_room (Nat.le_of_ble_eq_true rfl)) dX3_init_9 ⟨Nat.le_trans (by omega) hR3, Nat.le_trans (by omega) hR4⟩) hW (by decide) (tf_fresh hW0 hsz1) hsz1 had1 (fun H2 locs2 T hW hn2 hE2 hF2 => ?_)
  have ha0 := hE2 _ _ (tf_ne ha0 had1 (by decide)) ha0
  refine tf_putF hx hb hts inlX3 tyX3 tyX3_ok nmX3 hown hK (ci := 3) rfl hW ha0 rfl rfl 0 rfl (by decide) (by decide) (hts _ fl_X3_12) rfl hin rfl trivial rfl rfl dX3_init_12 (fun H3 locs3 hW hs3 ht3 hq3 => ?_)
  refine lv_aload_n hx hb dX3_init_15 rfl (lv_at hl 0 rfl) ?_
  have hsz4 := hW.2.2.1.1
  refine tf_new (kr := 69) hx hb hts inlX5 tyX5 tyX5_ok hown (hts _ (tw2 (i := 22) rfl)) (hts _ (tw2 (i := 23) rfl)) (hts _ (tw3 (i := 0) rfl)) hK (ci := 5) rfl hW rfl ⟨rfl, by decide⟩ (Nat.le_trans (by omega) hR3) (Nat.le_trans (by omega) hR4) dX3_init_16 (fun ad4 H4 T hq4 hT4 had4 hE4 hW ho4 => ?_)
  have hsz4 := Nat.le_trans hsz4 (Nat.le_of_eq hq4)
  have hs5 := tf_keepQ hs3 (ho4 _ _ ha0)
  have ha0 := hE4 _ _ ha0
  have hn2 := hE4 _ _ hn2
  refine lv_dup hx hb dX3_init_19 rfl ?_
  refine tf_callC (va_runIN (As := []) (rest := [.ref ad4, .ref a0]) ⟨hx, hb, hml, hown, hts⟩ (c_X5_init l g T ad4 had4) ⟨va_cnB 0 hts (gw_ws cm_X5_init) rfl rfl rfl (hk.2.1 _ nw_2) (hts _ (tw3 (i := 0) rfl)) hd_X5_init.2 ⟨Nat.le_trans (by decide) hR1, Nat.le_trans (by decide) hR2⟩, rfl, hts _ (tw3 (i := 23) rfl)⟩ (tf_preS hk hW trivial) rfl rfl hl.1 rfl (lv_room (Nat.le_of_ble_eq_true rfl)) dX3_init_20 ⟨Nat.le_trans (by omega) hR3, Nat.le_trans (by omega) hR4⟩) hW (by decide) (tf_fresh hW0 hsz4) hsz4 had4 (fun H6 locs6 T hW hn6 hE6 hF6 => ?_)
  have hs7 := tf_keepF hF6 ha0 rfl rfl (by decide) hs5
  have ha0 := hE6 _ _ (tf_ne ha0 had4 (by decide)) ha0
  have hn2 := hE6 _ _ (tf_ne hn2 had4 (by decide)) hn2
  refine tf_putF hx hb hts inlX3 tyX3 tyX3_ok nmX3 hown hK (ci := 3) rfl hW ha0 rfl rfl 1 rfl (by decide) (by decide) (hts _ fl_X3_21) rfl hin rfl trivial rfl rfl dX3_init_23 (fun H8 locs8 hW hs8 ht8 hq8 => ?_)
  have hs9 := (ht8 0 (by decide) (by decide)).trans hs7
  refine lv_aload_n hx hb dX3_init_26 rfl (lv_at hl 0 rfl) ?_
  have hsz10 := hW.2.2.1.1
  refine tf_new (kr := 72) hx hb hts inlX8 tyX8 tyX8_ok hown (hts _ (tw3 (i := 2) rfl)) (hts _ (tw3 (i := 3) rfl)) (hts _ (tw3 (i := 4) rfl)) hK (ci := 8) rfl hW rfl ⟨rfl, by decide⟩ (Nat.le_trans (by omega) hR3) (Nat.le_trans (by omega) hR4) dX3_init_27 (fun ad10 H10 T hq10 hT10 had10 hE10 hW ho10 => ?_)
  have hsz10 := Nat.le_trans hsz10 (Nat.le_of_eq hq10)
  have hs11 := tf_keepQ hs9 (ho10 _ _ ha0)
  have hs12 := tf_keepQ hs8 (ho10 _ _ ha0)
  have ha0 := hE10 _ _ ha0
  have hn2 := hE10 _ _ hn2
  have hn6 := hE10 _ _ hn6
  refine lv_dup hx hb dX3_init_30 rfl ?_
  refine tf_callC (va_runIN (As := []) (rest := [.ref ad10, .ref a0]) ⟨hx, hb, hml, hown, hts⟩ (c_X8_init l g T ad10 had10) ⟨va_cnB 0 hts (gw_ws cm_X8_init) rfl rfl rfl (hk.2.1 _ nw_3) (hts _ (tw3 (i := 4) rfl)) hd_X8_init.2 ⟨Nat.le_trans (by decide) hR1, Nat.le_trans (by decide) hR2⟩, rfl, hts _ (tw4 (i := 7) rfl)⟩ (tf_preS hk hW trivial) rfl rfl hl.1 rfl (lv_room (Nat.le_of_ble_eq_true rfl)) dX3_init_31 ⟨Nat.le_trans (by omega) hR3, Nat.le_trans (by omega) hR4⟩) hW (by decide) (tf_fresh hW0 hsz10) hsz10 had10 (fun H13 locs13 T hW hn13 hE13 hF13 => ?_)
  have hs14 := tf_keepF hF13 ha0 rfl rfl (by decide) hs11
  have hs15 := tf_keepF hF13 ha0 rfl rfl (by decide) hs12
  have ha0 := hE13 _ _ (tf_ne ha0 had10 (by decide)) ha0
  have hn2 := hE13 _ _ (tf_ne hn2 had10 (by decide)) hn2
  have hn6 := hE13 _ _ (tf_ne hn6 had10 (by decide)) hn6
  refine tf_putF hx hb hts inlX3 tyX3 tyX3_ok nmX3 hown hK (ci := 3) rfl hW ha0 rfl rfl 2 rfl (by decide) (by decide) (hts _ fl_X3_28) rfl hin rfl trivial rfl rfl dX3_init_34 (fun H16 locs16 hW hs16 ht16 hq16 => ?_)
  have hs17 := (ht16 0 (by decide) (by decide)).trans hs14
  have hs18 := (ht16 1 (by decide) (by decide)).trans hs15
  refine lv_aload_n hx hb dX3_init_37 rfl (lv_at hl 0 rfl) ?_
  refine tf_iconst hx hb dX3_init_38 ?_
  refine tf_newarrN (atype := .int) (ty := .int) (f := (0, 0, 0, 0, 9999)) (t0 := 0) (k := 5) (N := 4) hx hb (hts _ (tw2 (i := 5) rfl)) hK rfl rfl rfl (fun h => h) (tf_d0 (by decide) (by decide)) hW (by omega) rfl (by decide) (by decide) (Nat.le_trans (by omega) hR3) (Nat.le_trans (by omega) hR4) dX3_init_39 (fun ad19 H19 T hq19 hT19 had19 hE19 hW ho19 hN19 => ?_)
  have hs20 := tf_keepQ hs17 (ho19 _ _ ha0)
  have hs21 := tf_keepQ hs18 (ho19 _ _ ha0)
  have hs22 := tf_keepQ hs16 (ho19 _ _ ha0)
  have ha0 := hE19 _ _ ha0
  have hn2 := hE19 _ _ hn2
  have hn6 := hE19 _ _ hn6
  have hn13 := hE19 _ _ hn13
  refine lv_dup hx hb dX3_init_41 rfl ?_
  refine tf_iconst hx hb dX3_init_42 ?_
  refine tf_iconst hx hb dX3_init_43 ?_
  refine tf_rwst (t0 := 0) hx hb hK hW had19 rfl rfl (by omega) (by omega) (by decide) (tf_u0 (by omega) (by omega)) ⟨by omega, by omega⟩ trivial dX3_init_44 (fun H23 locs23 hW hu23 hq23 => ?_)
  have hs24 := tf_keepQ hs20 (hq23 _ (tf_ne ha0 had19 (by decide)))
  have hs25 := tf_keepQ hs21 (hq23 _ (tf_ne ha0 had19 (by decide)))
  have hs26 := tf_keepQ hs22 (hq23 _ (tf_ne ha0 had19 (by decide)))
  have hu23 := hu23.trans (congrArg (fun w => tf_up w (0) (0)) hN19)
  refine lv_dup hx hb dX3_init_45 rfl ?_
  refine tf_iconst hx hb dX3_init_46 ?_
  refine tf_bipush hx hb dX3_init_47 (by decide) ?_
  refine tf_rwst (t0 := 0) hx hb hK hW had19 rfl rfl (by omega) (by omega) (by decide) (tf_u0 (by omega) (by omega)) ⟨by omega, by omega⟩ trivial dX3_init_49 (fun H27 locs27 hW hu27 hq27 => ?_)
  have hs28 := tf_keepQ hs24 (hq27 _ (tf_ne ha0 had19 (by decide)))
  have hs29 := tf_keepQ hs25 (hq27 _ (tf_ne ha0 had19 (by decide)))
  have hs30 := tf_keepQ hs26 (hq27 _ (tf_ne ha0 had19 (by decide)))
  have hu27 := hu27.trans (congrArg (fun w => tf_up w (1) (99)) hu23)
  refine lv_dup hx hb dX3_init_50 rfl ?_
  refine tf_iconst hx hb dX3_init_51 ?_
  refine tf_bipush hx hb dX3_init_52 (by decide) ?_
  refine tf_rwst (t0 := 0) hx hb hK hW had19 rfl rfl (by omega) (by omega) (by decide) (tf_u0 (by omega) (by omega)) ⟨by omega, by omega⟩ trivial dX3_init_54 (fun H31 locs31 hW hu31 hq31 => ?_)
  have hs32 := tf_keepQ hs28 (hq31 _ (tf_ne ha0 had19 (by decide)))
  have hs33 := tf_keepQ hs29 (hq31 _ (tf_ne ha0 had19 (by decide)))
  have hs34 := tf_keepQ hs30 (hq31 _ (tf_ne ha0 had19 (by decide)))
  have hu31 := hu31.trans (congrArg (fun w => tf_up w (2) (99)) hu27)
  refine lv_dup hx hb dX3_init_55 rfl ?_
  refine tf_iconst hx hb dX3_init_56 ?_
  refine tf_bipush hx hb dX3_init_57 (by decide) ?_
  refine tf_rwst (t0 := 0) hx hb hK hW had19 rfl rfl (by omega) (by omega) (by decide) (tf_u0 (by omega) (by omega)) ⟨by omega, by omega⟩ trivial dX3_init_59 (fun H35 locs35 hW hu35 hq35 => ?_)
  have hs36 := tf_keepQ hs32 (hq35 _ (tf_ne ha0 had19 (by decide)))
  have hs37 := tf_keepQ hs33 (hq35 _ (tf_ne ha0 had19 (by decide)))
  have hs38 := tf_keepQ hs34 (hq35 _ (tf_ne ha0 had19 (by decide)))
  have hu35 := hu35.trans (congrArg (fun w => tf_up w (3) (99)) hu31)
  refine tf_putF hx hb hts inlX3 tyX3 tyX3_ok nmX3 hown hK (ci := 3) rfl hW ha0 rfl rfl 3 rfl (by decide) (by decide) (hts _ fl_X3_32) rfl hin rfl trivial rfl rfl dX3_init_60 (fun H39 locs39 hW hs39 ht39 hq39 => ?_)
  have hs40 := (ht39 0 (by decide) (by decide)).trans hs36
  have hs41 := (ht39 1 (by decide) (by decide)).trans hs37
  have hs42 := (ht39 2 (by decide) (by decide)).trans hs38
  have hs43 := tf_keepCQ hu35 (hq39 _ (tf_ne had19 ha0 (by decide)))
  refine lv_aload_n hx hb dX3_init_63 rfl (lv_at hl 0 rfl) ?_
  refine tf_iconst hx hb dX3_init_64 ?_
  refine tf_newarrN (atype := .int) (ty := .int) (f := (0, 0, 0, 0, 9999)) (t0 := 0) (k := 6) (N := 4) hx hb (hts _ (tw2 (i := 5) rfl)) hK rfl rfl rfl (fun h => h) (tf_d0 (by decide) (by decide)) hW (by omega) rfl (by decide) (by decide) (Nat.le_trans (by omega) hR3) (Nat.le_trans (by omega) hR4) dX3_init_65 (fun ad44 H44 T hq44 hT44 had44 hE44 hW ho44 hN44 => ?_)
  have hs45 := tf_keepQ hs40 (ho44 _ _ ha0)
  have hs46 := tf_keepQ hs41 (ho44 _ _ ha0)
  have hs47 := tf_keepQ hs42 (ho44 _ _ ha0)
  have hs48 := tf_keepCQ hs43 (ho44 _ _ had19)
  have hs49 := tf_keepQ hs39 (ho44 _ _ ha0)
  have ha0 := hE44 _ _ ha0
  have hn2 := hE44 _ _ hn2
  have hn6 := hE44 _ _ hn6
  have hn13 := hE44 _ _ hn13
  have had19 := hE44 _ _ had19
  refine tf_putF hx hb hts inlX3 tyX3 tyX3_ok nmX3 hown hK (ci := 3) rfl hW ha0 rfl rfl 4 rfl (by decide) (by decide) (hts _ fl_X3_36) rfl hin rfl trivial rfl rfl dX3_init_67 (fun H50 locs50 hW hs50 ht50 hq50 => ?_)
  have hs51 := (ht50 0 (by decide) (by decide)).trans hs45
  have hs52 := (ht50 1 (by decide) (by decide)).trans hs46
  have hs53 := (ht50 2 (by decide) (by decide)).trans hs47
  have hs54 := tf_keepCQ hs48 (hq50 _ (tf_ne had19 ha0 (by decide)))
  have hs55 := (ht50 3 (by decide) (by decide)).trans hs49
  have hs56 := tf_keepCQ hN44 (hq50 _ (tf_ne had44 ha0 (by decide)))
  refine lv_aload_n hx hb dX3_init_70 rfl (lv_at hl 0 rfl) ?_
  refine tf_bipush hx hb dX3_init_71 (by decide) ?_
  refine tf_newarrN (atype := .int) (ty := .int) (f := (0, 0, 0, 0, 999)) (t0 := 0) (k := 7) (N := 40) hx hb (hts _ (tw2 (i := 5) rfl)) hK rfl rfl rfl (fun h => h) (tf_d0 (by decide) (by decide)) hW (by omega) rfl (by decide) (by decide) (Nat.le_trans (by omega) hR3) (Nat.le_trans (by omega) hR4) dX3_init_73 (fun ad57 H57 T hq57 hT57 had57 hE57 hW ho57 hN57 => ?_)
  have hs58 := tf_keepQ hs51 (ho57 _ _ ha0)
  have hs59 := tf_keepQ hs52 (ho57 _ _ ha0)
  have hs60 := tf_keepQ hs53 (ho57 _ _ ha0)
  have hs61 := tf_keepCQ hs54 (ho57 _ _ had19)
  have hs62 := tf_keepQ hs55 (ho57 _ _ ha0)
  have hs63 := tf_keepCQ hs56 (ho57 _ _ had44)
  have hs64 := tf_keepQ hs50 (ho57 _ _ ha0)
  have ha0 := hE57 _ _ ha0
  have hn2 := hE57 _ _ hn2
  have hn6 := hE57 _ _ hn6
  have hn13 := hE57 _ _ hn13
  have had19 := hE57 _ _ had19
  have had44 := hE57 _ _ had44
  refine tf_putF hx hb hts inlX3 tyX3 tyX3_ok nmX3 hown hK (ci := 3) rfl hW ha0 rfl rfl 5 rfl (by decide) (by decide) (hts _ fl_X3_39) rfl hin rfl trivial rfl rfl dX3_init_75 (fun H65 locs65 hW hs65 ht65 hq65 => ?_)
  have hs66 := (ht65 0 (by decide) (by decide)).trans hs58
  have hs67 := (ht65 1 (by decide) (by decide)).trans hs59
  have hs68 := (ht65 2 (by decide) (by decide)).trans hs60
  have hs69 := tf_keepCQ hs61 (hq65 _ (tf_ne had19 ha0 (by decide)))
  have hs70 := (ht65 3 (by decide) (by decide)).trans hs62
  have hs71 := tf_keepCQ hs63 (hq65 _ (tf_ne had44 ha0 (by decide)))
  have hs72 := (ht65 4 (by decide) (by decide)).trans hs64
  have hs73 := tf_keepCQ hN57 (hq65 _ (tf_ne had57 ha0 (by decide)))
  refine lv_aload_n hx hb dX3_init_78 rfl (lv_at hl 0 rfl) ?_
  refine tf_iconst hx hb dX3_init_79 ?_
  refine tf_newarrN (atype := .int) (ty := .int) (f := (0, 0, 0, -2147483648, 2147483647)) (t0 := 0) (k := 8) (N := 4) hx hb (hts _ (tw2 (i := 5) rfl)) hK rfl rfl rfl (fun h => h) (tf_d0 (by decide) (by decide)) hW (by omega) rfl (by decide) (by decide) (Nat.le_trans (by omega) hR3) (Nat.le_trans (by omega) hR4) dX3_init_80 (fun ad74 H74 T hq74 hT74 had74 hE74 hW ho74 hN74 => ?_)
  have hs75 := tf_keepQ hs66 (ho74 _ _ ha0)
  have hs76 := tf_keepQ hs67 (ho74 _ _ ha0)
  have hs77 := tf_keepQ hs68 (ho74 _ _ ha0)
  have hs78 := tf_keepCQ hs69 (ho74 _ _ had19)
  have hs79 := tf_keepQ hs70 (ho74 _ _ ha0)
  have hs80 := tf_keepCQ hs71 (ho74 _ _ had44)
  have hs81 := tf_keepQ hs72 (ho74 _ _ ha0)
  have hs82 := tf_keepCQ hs73 (ho74 _ _ had57)
  have hs83 := tf_keepQ hs65 (ho74 _ _ ha0)
  have ha0 := hE74 _ _ ha0
  have hn2 := hE74 _ _ hn2
  have hn6 := hE74 _ _ hn6
  have hn13 := hE74 _ _ hn13
  have had19 := hE74 _ _ had19
  have had44 := hE74 _ _ had44
  have had57 := hE74 _ _ had57
  refine tf_putF hx hb hts inlX3 tyX3 tyX3_ok nmX3 hown hK (ci := 3) rfl hW ha0 rfl rfl 6 rfl (by decide) (by decide) (hts _ fl_X3_42) rfl hin rfl trivial rfl rfl dX3_init_82 (fun H84 locs84 hW hs84 ht84 hq84 => ?_)
  have hs85 := (ht84 0 (by decide) (by decide)).trans hs75
  have hs86 := (ht84 1 (by decide) (by decide)).trans hs76
  have hs87 := (ht84 2 (by decide) (by decide)).trans hs77
  have hs88 := tf_keepCQ hs78 (hq84 _ (tf_ne had19 ha0 (by decide)))
  have hs89 := (ht84 3 (by decide) (by decide)).trans hs79
  have hs90 := tf_keepCQ hs80 (hq84 _ (tf_ne had44 ha0 (by decide)))
  have hs91 := (ht84 4 (by decide) (by decide)).trans hs81
  have hs92 := tf_keepCQ hs82 (hq84 _ (tf_ne had57 ha0 (by decide)))
  have hs93 := (ht84 5 (by decide) (by decide)).trans hs83
  have hs94 := tf_keepCQ hN74 (hq84 _ (tf_ne had74 ha0 (by decide)))
  refine lv_aload_n hx hb dX3_init_85 rfl (lv_at hl 0 rfl) ?_
  refine tf_bipush hx hb dX3_init_86 (by decide) ?_
  refine tf_anewarr (t0 := 4) (k := 14) (N := 6) hx hb hown (hts _ (tw3 (i := 10) rfl)) hk.2.2.2.1 hK rfl rfl hW (by omega) rfl (by decide) (Nat.le_trans (by omega) hR3) (Nat.le_trans (by omega) hR4) dX3_init_88 (fun ad95 H95 T hq95 hT95 had95 hE95 hW ho95 => ?_)
  have hs96 := tf_keepQ hs85 (ho95 _ _ ha0)
  have hs97 := tf_keepQ hs86 (ho95 _ _ ha0)
  have hs98 := tf_keepQ hs87 (ho95 _ _ ha0)
  have hs99 := tf_keepCQ hs88 (ho95 _ _ had19)
  have hs100 := tf_keepQ hs89 (ho95 _ _ ha0)
  have hs101 := tf_keepCQ hs90 (ho95 _ _ had44)
  have hs102 := tf_keepQ hs91 (ho95 _ _ ha0)
  have hs103 := tf_keepCQ hs92 (ho95 _ _ had57)
  have hs104 := tf_keepQ hs93 (ho95 _ _ ha0)
  have hs105 := tf_keepCQ hs94 (ho95 _ _ had74)
  have hs106 := tf_keepQ hs84 (ho95 _ _ ha0)
  have ha0 := hE95 _ _ ha0
  have hn2 := hE95 _ _ hn2
  have hn6 := hE95 _ _ hn6
  have hn13 := hE95 _ _ hn13
  have had19 := hE95 _ _ had19
  have had44 := hE95 _ _ had44
  have had57 := hE95 _ _ had57
  have had74 := hE95 _ _ had74
  refine tf_putF hx hb hts inlX3 tyX3 tyX3_ok nmX3 hown hK (ci := 3) rfl hW ha0 rfl rfl 7 rfl (by decide) (by decide) (hts _ fl_X3_47) rfl hin rfl trivial rfl rfl dX3_init_91 (fun H107 locs107 hW hs107 ht107 hq107 => ?_)
  have hs108 := (ht107 0 (by decide) (by decide)).trans hs96
  have hs109 := (ht107 1 (by decide) (by decide)).trans hs97
  have hs110 := (ht107 2 (by decide) (by decide)).trans hs98
  have hs111 := tf_keepCQ hs99 (hq107 _ (tf_ne had19 ha0 (by decide)))
  have hs112 := (ht107 3 (by decide) (by decide)).trans hs100
  have hs113 := tf_keepCQ hs101 (hq107 _ (tf_ne had44 ha0 (by decide)))
  have hs114 := (ht107 4 (by decide) (by decide)).trans hs102
  have hs115 := tf_keepCQ hs103 (hq107 _ (tf_ne had57 ha0 (by decide)))
  have hs116 := (ht107 5 (by decide) (by decide)).trans hs104
  have hs117 := tf_keepCQ hs105 (hq107 _ (tf_ne had74 ha0 (by decide)))
  have hs118 := (ht107 6 (by decide) (by decide)).trans hs106
  refine lv_aload_n hx hb dX3_init_94 rfl (lv_at hl 0 rfl) ?_
  refine tf_iconst hx hb dX3_init_95 ?_
  refine tf_put hx hb hts inlX3 tyX3 tyX3_ok nmX3 hown hK (ci := 3) rfl hW ha0 rfl rfl 8 rfl (by decide) (by decide) (hts _ fl_X3_51) rfl trivial rfl rfl dX3_init_96 (fun H119 locs119 hW hs119 ht119 hq119 => ?_)
  have hs120 := (ht119 0 (by decide) (by decide)).trans hs108
  have hs121 := (ht119 1 (by decide) (by decide)).trans hs109
  have hs122 := (ht119 2 (by decide) (by decide)).trans hs110
  have hs123 := tf_keepCQ hs111 (hq119 _ (tf_ne had19 ha0 (by decide)))
  have hs124 := (ht119 3 (by decide) (by decide)).trans hs112
  have hs125 := tf_keepCQ hs113 (hq119 _ (tf_ne had44 ha0 (by decide)))
  have hs126 := (ht119 4 (by decide) (by decide)).trans hs114
  have hs127 := tf_keepCQ hs115 (hq119 _ (tf_ne had57 ha0 (by decide)))
  have hs128 := (ht119 5 (by decide) (by decide)).trans hs116
  have hs129 := tf_keepCQ hs117 (hq119 _ (tf_ne had74 ha0 (by decide)))
  have hs130 := (ht119 6 (by decide) (by decide)).trans hs118
  have hs131 := (ht119 7 (by decide) (by decide)).trans hs107
  refine lv_aload_n hx hb dX3_init_99 rfl (lv_at hl 0 rfl) ?_
  refine tf_iconst hx hb dX3_init_100 ?_
  refine tf_put hx hb hts inlX3 tyX3 tyX3_ok nmX3 hown hK (ci := 3) rfl hW ha0 rfl rfl 9 rfl (by decide) (by decide) (hts _ fl_X3_55) rfl trivial rfl rfl dX3_init_101 (fun H132 locs132 hW hs132 ht132 hq132 => ?_)
  have hs133 := (ht132 0 (by decide) (by decide)).trans hs120
  have hs134 := (ht132 1 (by decide) (by decide)).trans hs121
  have hs135 := (ht132 2 (by decide) (by decide)).trans hs122
  have hs136 := tf_keepCQ hs123 (hq132 _ (tf_ne had19 ha0 (by decide)))
  have hs137 := (ht132 3 (by decide) (by decide)).trans hs124
  have hs138 := tf_keepCQ hs125 (hq132 _ (tf_ne had44 ha0 (by decide)))
  have hs139 := (ht132 4 (by decide) (by decide)).trans hs126
  have hs140 := tf_keepCQ hs127 (hq132 _ (tf_ne had57 ha0 (by decide)))
  have hs141 := (ht132 5 (by decide) (by decide)).trans hs128
  have hs142 := tf_keepCQ hs129 (hq132 _ (tf_ne had74 ha0 (by decide)))
  have hs143 := (ht132 6 (by decide) (by decide)).trans hs130
  have hs144 := (ht132 7 (by decide) (by decide)).trans hs131
  have hs145 := (ht132 8 (by decide) (by decide)).trans hs119
  refine lv_aload_n hx hb dX3_init_104 rfl (lv_at hl 0 rfl) ?_
  refine tf_bipush hx hb dX3_init_105 (by decide) ?_
  refine tf_newarr (atype := .int) (ty := .int) (f := (0, 0, 0, -2147483648, 2147483647)) (t0 := 0) (k := 9) (N := 12) hx hb (hts _ (tw2 (i := 5) rfl)) hK rfl rfl rfl (fun h => h) (tf_d0 (by decide) (by decide)) hW (by omega) rfl (by decide) (by decide) (Nat.le_trans (by omega) hR3) (Nat.le_trans (by omega) hR4) dX3_init_107 (fun ad146 H146 T hq146 hT146 had146 hE146 hW ho146 => ?_)
  have hs147 := tf_keepQ hs133 (ho146 _ _ ha0)
  have hs148 := tf_keepQ hs134 (ho146 _ _ ha0)
  have hs149 := tf_keepQ hs135 (ho146 _ _ ha0)
  have hs150 := tf_keepCQ hs136 (ho146 _ _ had19)
  have hs151 := tf_keepQ hs137 (ho146 _ _ ha0)
  have hs152 := tf_keepCQ hs138 (ho146 _ _ had44)
  have hs153 := tf_keepQ hs139 (ho146 _ _ ha0)
  have hs154 := tf_keepCQ hs140 (ho146 _ _ had57)
  have hs155 := tf_keepQ hs141 (ho146 _ _ ha0)
  have hs156 := tf_keepCQ hs142 (ho146 _ _ had74)
  have hs157 := tf_keepQ hs143 (ho146 _ _ ha0)
  have hs158 := tf_keepQ hs144 (ho146 _ _ ha0)
  have hs159 := tf_keepQ hs145 (ho146 _ _ ha0)
  have hs160 := tf_keepQ hs132 (ho146 _ _ ha0)
  have ha0 := hE146 _ _ ha0
  have hn2 := hE146 _ _ hn2
  have hn6 := hE146 _ _ hn6
  have hn13 := hE146 _ _ hn13
  have had19 := hE146 _ _ had19
  have had44 := hE146 _ _ had44
  have had57 := hE146 _ _ had57
  have had74 := hE146 _ _ had74
  have had95 := hE146 _ _ had95
  refine tf_putF hx hb hts inlX3 tyX3 tyX3_ok nmX3 hown hK (ci := 3) rfl hW ha0 rfl rfl 10 rfl (by decide) (by decide) (hts _ fl_X3_58) rfl hin rfl trivial rfl rfl dX3_init_109 (fun H161 locs161 hW hs161 ht161 hq161 => ?_)
  have hs162 := (ht161 0 (by decide) (by decide)).trans hs147
  have hs163 := (ht161 1 (by decide) (by decide)).trans hs148
  have hs164 := (ht161 2 (by decide) (by decide)).trans hs149
  have hs165 := tf_keepCQ hs150 (hq161 _ (tf_ne had19 ha0 (by decide)))
  have hs166 := (ht161 3 (by decide) (by decide)).trans hs151
  have hs167 := tf_keepCQ hs152 (hq161 _ (tf_ne had44 ha0 (by decide)))
  have hs168 := (ht161 4 (by decide) (by decide)).trans hs153
  have hs169 := tf_keepCQ hs154 (hq161 _ (tf_ne had57 ha0 (by decide)))
  have hs170 := (ht161 5 (by decide) (by decide)).trans hs155
  have hs171 := tf_keepCQ hs156 (hq161 _ (tf_ne had74 ha0 (by decide)))
  have hs172 := (ht161 6 (by decide) (by decide)).trans hs157
  have hs173 := (ht161 7 (by decide) (by decide)).trans hs158
  have hs174 := (ht161 8 (by decide) (by decide)).trans hs159
  have hs175 := (ht161 9 (by decide) (by decide)).trans hs160
  refine lv_aload_n hx hb dX3_init_112 rfl (lv_at hl 0 rfl) ?_
  refine tf_iconst hx hb dX3_init_113 ?_
  refine tf_put hx hb hts inlX3 tyX3 tyX3_ok nmX3 hown hK (ci := 3) rfl hW ha0 rfl rfl 11 rfl (by decide) (by decide) (hts _ fl_X3_61) rfl trivial rfl rfl dX3_init_114 (fun H176 locs176 hW hs176 ht176 hq176 => ?_)
  have hs177 := (ht176 0 (by decide) (by decide)).trans hs162
  have hs178 := (ht176 1 (by decide) (by decide)).trans hs163
  have hs179 := (ht176 2 (by decide) (by decide)).trans hs164
  have hs180 := tf_keepCQ hs165 (hq176 _ (tf_ne had19 ha0 (by decide)))
  have hs181 := (ht176 3 (by decide) (by decide)).trans hs166
  have hs182 := tf_keepCQ hs167 (hq176 _ (tf_ne had44 ha0 (by decide)))
  have hs183 := (ht176 4 (by decide) (by decide)).trans hs168
  have hs184 := tf_keepCQ hs169 (hq176 _ (tf_ne had57 ha0 (by decide)))
  have hs185 := (ht176 5 (by decide) (by decide)).trans hs170
  have hs186 := tf_keepCQ hs171 (hq176 _ (tf_ne had74 ha0 (by decide)))
  have hs187 := (ht176 6 (by decide) (by decide)).trans hs172
  have hs188 := (ht176 7 (by decide) (by decide)).trans hs173
  have hs189 := (ht176 8 (by decide) (by decide)).trans hs174
  have hs190 := (ht176 9 (by decide) (by decide)).trans hs175
  have hs191 := (ht176 10 (by decide) (by decide)).trans hs161
  refine W.widen (k := 21) (n := 1164) (by omega) (by omega) ?_
  exact tf_retCp (ci := 3) hx hb hr hlocks hQ hW ha0 rfl (by decide) rfl (fun j f hj => match j, hj with | 0, hj => by obtain rfl : _ = f := Option.some.inj hj; exact ⟨_, hs177, tf_u1 hn2⟩ | 1, hj => by obtain rfl : _ = f := Option.some.inj hj; exact ⟨_, hs178, tf_u1 hn6⟩ | 2, hj => by obtain rfl : _ = f := Option.some.inj hj; exact ⟨_, hs179, tf_u1 hn13⟩ | 3, hj => by obtain rfl : _ = f := Option.some.inj hj; exact ⟨_, hs181, tf_u1 had19⟩ | 4, hj => by obtain rfl : _ = f := Option.some.inj hj; exact ⟨_, hs183, tf_u1 had44⟩ | 5, hj => by obtain rfl : _ = f := Option.some.inj hj; exact ⟨_, hs185, tf_u1 had57⟩ | 6, hj => by obtain rfl : _ = f := Option.some.inj hj; exact ⟨_, hs187, tf_u1 had74⟩ | 7, hj => by obtain rfl : _ = f := Option.some.inj hj; exact ⟨_, hs188, tf_u1 had95⟩ | 8, hj => by obtain rfl : _ = f := Option.some.inj hj; exact ⟨_, hs189, tf_u0 (by omega) (by omega)⟩ | 9, hj => by obtain rfl : _ = f := Option.some.inj hj; exact ⟨_, hs190, tf_u0 (by omega) (by omega)⟩ | 10, hj => by obtain rfl : _ = f := Option.some.inj hj; exact ⟨_, hs191, tf_u1 had146⟩ | 11, hj => by obtain rfl : _ = f := Option.some.inj hj; exact ⟨_, hs176, tf_u0 (by omega) (by omega)⟩ | (j + 12), hj => by cases hj) ⟨(by rw [tf_fr_eq hs181]; rw [hs180]; exact ⟨by rw [tf_up_ne (by omega), tf_up_ne (by omega), tf_up_at], by rw [tf_up_ne (by omega), tf_up_at], tf_up_at⟩), (by rw [tf_fr_eq hs183]; exact hs182), (by rw [tf_fr_eq hs185]; exact hs184), (by rw [tf_fr_eq hs187]; exact hs186)⟩ dX3_init_117

abbrev M_i1_X3_init : List (Nat × Nat) := [(16, 0), (64, 0), (64, 1), (64, 2), (64, 3), (67, 0), (67, 1), (67, 2), (67, 3), (67, 4), (67, 5), (67, 6), (67, 7), (67, 8), (67, 9), (67, 10), (67, 11), (69, 0), (69, 1), (69, 2), (69, 3), (69, 4), (72, 0), (72, 1), (72, 2), (72, 3), (72, 4)]
set_option maxHeartbeats 4000000 in
set_option maxRecDepth 100000 in
theorem c_i1_X3_init (l : Launch) (g : tf_G) (T : tf_T) (a0 : Nat) (ha0 : T a0 = some (67, 0)) : Met l yX3_init (cd_X3_init :: wsL_law) ({ frames := 2, cells := 21, slots := 1164, locals := 60 }) (tf_P g T [.ref a0] (fun H => True)) (tf_QC g M_i1_X3_init T a0 32) 21 1164 (fun q => tf_B g ≤ q) := by
  refine Met.ofW (cc := cX3_init) (maxL := 1) (ret := none) (by decide) rfl ?_
  intro p e s m args below meth c s₁ B hml hv
  obtain ⟨hargs, hk, hW0, hB, hpre⟩ := hv
  have hx := B.exec
  have hb := B.bytes
  have hr := B.returns
  have hts : ∀ w ∈ wsL_law, w.before args s = true := fun w h => atoms_spec (ws := cd_X3_init :: wsL_law) B.pre w (List.mem_cons_of_mem _ h)
  have hown : s.vm.findClass RX3 = some m.cls := findClass_of_methodNamed B.named
  have hlocks := B.notSynchronized
  have hK := hk.1
  have hW := tf_n.start (M := M_i1_X3_init) hW0 hB
  obtain ⟨Q, hQ⟩ : ∃ q, q = MQ below (tf_QC g M_i1_X3_init T a0 32) args s 21 1164 (fun q => tf_B g ≤ q) := ⟨_, rfl⟩
  rw [← hQ]
  obtain ⟨R, hR⟩ : ∃ q, q = (headSpec (cd_X3_init :: wsL_law) ({ frames := 2, cells := 21, slots := 1164, locals := 60 })).room := ⟨_, rfl⟩
  rw [← hR]
  have hR1 : 2 ≤ R.frames := by rw [hR]; exact Nat.le_refl _
  have hR2 : 60 ≤ R.locals := by rw [hR]; exact Nat.le_refl _
  have hR3 : 21 ≤ R.cells := by rw [hR]; exact Nat.le_refl _
  have hR4 : 1164 ≤ R.slots := by rw [hR]; exact Nat.le_refl _
  have hin := (name_of_methodNamed B.named B.method).1
  clear hR B
  refine tf_enter (As := [.ref a0]) hargs (Nat.le_of_ble_eq_true rfl) (fun ls hl => ?_)
  have hl : lv_has ls 1 [(0, .ref a0)] := hl
  refine lv_aload_n hx hb dX3_init_0 rfl (lv_at hl 0 rfl) ?_
  refine W.objInit hx hb hown (hts _ (tw2 (i := 17) rfl)) (hts _ (tw1 (i := 10) rfl)) (hts _ (tw1 (i := 11) rfl)) rfl (by rw [hml]; exact hl.1) rfl dX3_init_1 (Nat.le_trans (by decide) hR1) (Nat.le_trans (by exact Nat.le_of_ble_eq_true rfl) hR2) ?_
  refine W.eq (g2 := F0 m 4 ls []) rfl ?_
  refine lv_aload_n hx hb dX3_init_4 rfl (lv_at hl 0 rfl) ?_
  have hsz1 := hW.2.2.1.1
  refine tf_new (kr := 64) hx hb hts inlX0 tyX0 tyX0_ok hown (hts _ (tw2 (i := 18) rfl)) (hts _ (tw2 (i := 19) rfl)) (hts _ (tw2 (i := 20) rfl)) hK (ci := 0) rfl hW rfl ⟨rfl, by decide⟩ (Nat.le_trans (by omega) hR3) (Nat.le_trans (by omega) hR4) dX3_init_5 (fun ad1 H1 T hq1 hT1 had1 hE1 hW ho1 => ?_)
  have hsz1 := Nat.le_trans hsz1 (Nat.le_of_eq hq1)
  have ha0 := hE1 _ _ ha0
  refine lv_dup hx hb dX3_init_8 rfl ?_
  refine tf_callC (va_runIN (As := []) (rest := [.ref ad1, .ref a0]) ⟨hx, hb, hml, hown, hts⟩ (c_X0_init l g T ad1 had1) ⟨va_cnB 0 hts (gw_ws cm_X0_init) rfl rfl rfl (hk.2.1 _ nw_1) (hts _ (tw2 (i := 20) rfl)) hd_X0_init.2 ⟨Nat.le_trans (by decide) hR1, Nat.le_trans (by decide) hR2⟩, rfl, hts _ (tw3 (i := 16) rfl)⟩ (tf_preS hk hW trivial) rfl rfl hl.1 rfl (lv_room (Nat.le_of_ble_eq_true rfl)) dX3_init_9 ⟨Nat.le_trans (by omega) hR3, Nat.le_trans (by omega) hR4⟩) hW (by decide) (tf_fresh hW0 hsz1) hsz1 had1 (fun H2 locs2 T hW hn2 hE2 hF2 => ?_)
  have ha0 := hE2 _ _ (tf_ne ha0 had1 (by decide)) ha0
  refine tf_putF hx hb hts inlX3 tyX3 tyX3_ok nmX3 hown hK (ci := 3) rfl hW ha0 rfl rfl 0 rfl (by decide) (by decide) (hts _ fl_X3_12) rfl hin rfl trivial rfl rfl dX3_init_12 (fun H3 locs3 hW hs3 ht3 hq3 => ?_)
  refine lv_aload_n hx hb dX3_init_15 rfl (lv_at hl 0 rfl) ?_
  have hsz4 := hW.2.2.1.1
  refine tf_new (kr := 69) hx hb hts inlX5 tyX5 tyX5_ok hown (hts _ (tw2 (i := 22) rfl)) (hts _ (tw2 (i := 23) rfl)) (hts _ (tw3 (i := 0) rfl)) hK (ci := 5) rfl hW rfl ⟨rfl, by decide⟩ (Nat.le_trans (by omega) hR3) (Nat.le_trans (by omega) hR4) dX3_init_16 (fun ad4 H4 T hq4 hT4 had4 hE4 hW ho4 => ?_)
  have hsz4 := Nat.le_trans hsz4 (Nat.le_of_eq hq4)
  have hs5 := tf_keepQ hs3 (ho4 _ _ ha0)
  have ha0 := hE4 _ _ ha0
  have hn2 := hE4 _ _ hn2
  refine lv_dup hx hb dX3_init_19 rfl ?_
  refine tf_callC (va_runIN (As := []) (rest := [.ref ad4, .ref a0]) ⟨hx, hb, hml, hown, hts⟩ (c_X5_init l g T ad4 had4) ⟨va_cnB 0 hts (gw_ws cm_X5_init) rfl rfl rfl (hk.2.1 _ nw_2) (hts _ (tw3 (i := 0) rfl)) hd_X5_init.2 ⟨Nat.le_trans (by decide) hR1, Nat.le_trans (by decide) hR2⟩, rfl, hts _ (tw3 (i := 23) rfl)⟩ (tf_preS hk hW trivial) rfl rfl hl.1 rfl (lv_room (Nat.le_of_ble_eq_true rfl)) dX3_init_20 ⟨Nat.le_trans (by omega) hR3, Nat.le_trans (by omega) hR4⟩) hW (by decide) (tf_fresh hW0 hsz4) hsz4 had4 (fun H6 locs6 T hW hn6 hE6 hF6 => ?_)
  have hs7 := tf_keepF hF6 ha0 rfl rfl (by decide) hs5
  have ha0 := hE6 _ _ (tf_ne ha0 had4 (by decide)) ha0
  have hn2 := hE6 _ _ (tf_ne hn2 had4 (by decide)) hn2
  refine tf_putF hx hb hts inlX3 tyX3 tyX3_ok nmX3 hown hK (ci := 3) rfl hW ha0 rfl rfl 1 rfl (by decide) (by decide) (hts _ fl_X3_21) rfl hin rfl trivial rfl rfl dX3_init_23 (fun H8 locs8 hW hs8 ht8 hq8 => ?_)
  have hs9 := (ht8 0 (by decide) (by decide)).trans hs7
  refine lv_aload_n hx hb dX3_init_26 rfl (lv_at hl 0 rfl) ?_
  have hsz10 := hW.2.2.1.1
  refine tf_new (kr := 72) hx hb hts inlX8 tyX8 tyX8_ok hown (hts _ (tw3 (i := 2) rfl)) (hts _ (tw3 (i := 3) rfl)) (hts _ (tw3 (i := 4) rfl)) hK (ci := 8) rfl hW rfl ⟨rfl, by decide⟩ (Nat.le_trans (by omega) hR3) (Nat.le_trans (by omega) hR4) dX3_init_27 (fun ad10 H10 T hq10 hT10 had10 hE10 hW ho10 => ?_)
  have hsz10 := Nat.le_trans hsz10 (Nat.le_of_eq hq10)
  have hs11 := tf_keepQ hs9 (ho10 _ _ ha0)
  have hs12 := tf_keepQ hs8 (ho10 _ _ ha0)
  have ha0 := hE10 _ _ ha0
  have hn2 := hE10 _ _ hn2
  have hn6 := hE10 _ _ hn6
  refine lv_dup hx hb dX3_init_30 rfl ?_
  refine tf_callC (va_runIN (As := []) (rest := [.ref ad10, .ref a0]) ⟨hx, hb, hml, hown, hts⟩ (c_X8_init l g T ad10 had10) ⟨va_cnB 0 hts (gw_ws cm_X8_init) rfl rfl rfl (hk.2.1 _ nw_3) (hts _ (tw3 (i := 4) rfl)) hd_X8_init.2 ⟨Nat.le_trans (by decide) hR1, Nat.le_trans (by decide) hR2⟩, rfl, hts _ (tw4 (i := 7) rfl)⟩ (tf_preS hk hW trivial) rfl rfl hl.1 rfl (lv_room (Nat.le_of_ble_eq_true rfl)) dX3_init_31 ⟨Nat.le_trans (by omega) hR3, Nat.le_trans (by omega) hR4⟩) hW (by decide) (tf_fresh hW0 hsz10) hsz10 had10 (fun H13 locs13 T hW hn13 hE13 hF13 => ?_)
  have hs14 := tf_keepF hF13 ha0 rfl rfl (by decide) hs11
  have hs15 := tf_keepF hF13 ha0 rfl rfl (by decide) hs12
  have ha0 := hE13 _ _ (tf_ne ha0 had10 (by decide)) ha0
  have hn2 := hE13 _ _ (tf_ne hn2 had10 (by decide)) hn2
  have hn6 := hE13 _ _ (tf_ne hn6 had10 (by decide)) hn6
  refine tf_putF hx hb hts inlX3 tyX3 tyX3_ok nmX3 hown hK (ci := 3) rfl hW ha0 rfl rfl 2 rfl (by decide) (by decide) (hts _ fl_X3_28) rfl hin rfl trivial rfl rfl dX3_init_34 (fun H16 locs16 hW hs16 ht16 hq16 => ?_)
  have hs17 := (ht16 0 (by decide) (by decide)).trans hs14
  have hs18 := (ht16 1 (by decide) (by decide)).trans hs15
  refine lv_aload_n hx hb dX3_init_37 rfl (lv_at hl 0 rfl) ?_
  refine tf_iconst hx hb dX3_init_38 ?_
  refine tf_newarr (atype := .int) (ty := .int) (f := (0, 0, 0, 0, 9999)) (t0 := 0) (k := 16) (N := 4) hx hb (hts _ (tw2 (i := 5) rfl)) hK rfl rfl rfl (fun h => h) (tf_d0 (by decide) (by decide)) hW (by omega) rfl (by decide) (by decide) (Nat.le_trans (by omega) hR3) (Nat.le_trans (by omega) hR4) dX3_init_39 (fun ad19 H19 T hq19 hT19 had19 hE19 hW ho19 => ?_)
  have hs20 := tf_keepQ hs17 (ho19 _ _ ha0)
  have hs21 := tf_keepQ hs18 (ho19 _ _ ha0)
  have hs22 := tf_keepQ hs16 (ho19 _ _ ha0)
  have ha0 := hE19 _ _ ha0
  have hn2 := hE19 _ _ hn2
  have hn6 := hE19 _ _ hn6
  have hn13 := hE19 _ _ hn13
  refine lv_dup hx hb dX3_init_41 rfl ?_
  refine tf_iconst hx hb dX3_init_42 ?_
  refine tf_iconst hx hb dX3_init_43 ?_
  refine tf_iast (t0 := 0) hx hb hK hW had19 rfl rfl (by omega) (by omega) (by decide) (tf_u0 (by omega) (by omega)) dX3_init_44 (fun H23 locs23 hW hs23 ht23 hq23 => ?_)
  have hs24 := tf_keepQ hs20 (hq23 _ (tf_ne ha0 had19 (by decide)))
  have hs25 := tf_keepQ hs21 (hq23 _ (tf_ne ha0 had19 (by decide)))
  have hs26 := tf_keepQ hs22 (hq23 _ (tf_ne ha0 had19 (by decide)))
  refine lv_dup hx hb dX3_init_45 rfl ?_
  refine tf_iconst hx hb dX3_init_46 ?_
  refine tf_bipush hx hb dX3_init_47 (by decide) ?_
  refine tf_iast (t0 := 0) hx hb hK hW had19 rfl rfl (by omega) (by omega) (by decide) (tf_u0 (by omega) (by omega)) dX3_init_49 (fun H27 locs27 hW hs27 ht27 hq27 => ?_)
  have hs28 := tf_keepQ hs24 (hq27 _ (tf_ne ha0 had19 (by decide)))
  have hs29 := tf_keepQ hs25 (hq27 _ (tf_ne ha0 had19 (by decide)))
  have hs30 := tf_keepQ hs26 (hq27 _ (tf_ne ha0 had19 (by decide)))
  refine lv_dup hx hb dX3_init_50 rfl ?_
  refine tf_iconst hx hb dX3_init_51 ?_
  refine tf_bipush hx hb dX3_init_52 (by decide) ?_
  refine tf_iast (t0 := 0) hx hb hK hW had19 rfl rfl (by omega) (by omega) (by decide) (tf_u0 (by omega) (by omega)) dX3_init_54 (fun H31 locs31 hW hs31 ht31 hq31 => ?_)
  have hs32 := tf_keepQ hs28 (hq31 _ (tf_ne ha0 had19 (by decide)))
  have hs33 := tf_keepQ hs29 (hq31 _ (tf_ne ha0 had19 (by decide)))
  have hs34 := tf_keepQ hs30 (hq31 _ (tf_ne ha0 had19 (by decide)))
  refine lv_dup hx hb dX3_init_55 rfl ?_
  refine tf_iconst hx hb dX3_init_56 ?_
  refine tf_bipush hx hb dX3_init_57 (by decide) ?_
  refine tf_iast (t0 := 0) hx hb hK hW had19 rfl rfl (by omega) (by omega) (by decide) (tf_u0 (by omega) (by omega)) dX3_init_59 (fun H35 locs35 hW hs35 ht35 hq35 => ?_)
  have hs36 := tf_keepQ hs32 (hq35 _ (tf_ne ha0 had19 (by decide)))
  have hs37 := tf_keepQ hs33 (hq35 _ (tf_ne ha0 had19 (by decide)))
  have hs38 := tf_keepQ hs34 (hq35 _ (tf_ne ha0 had19 (by decide)))
  refine tf_putF hx hb hts inlX3 tyX3 tyX3_ok nmX3 hown hK (ci := 3) rfl hW ha0 rfl rfl 3 rfl (by decide) (by decide) (hts _ fl_X3_32) rfl hin rfl trivial rfl rfl dX3_init_60 (fun H39 locs39 hW hs39 ht39 hq39 => ?_)
  have hs40 := (ht39 0 (by decide) (by decide)).trans hs36
  have hs41 := (ht39 1 (by decide) (by decide)).trans hs37
  have hs42 := (ht39 2 (by decide) (by decide)).trans hs38
  refine lv_aload_n hx hb dX3_init_63 rfl (lv_at hl 0 rfl) ?_
  refine tf_iconst hx hb dX3_init_64 ?_
  refine tf_newarr (atype := .int) (ty := .int) (f := (0, 0, 0, 0, 9999)) (t0 := 0) (k := 17) (N := 4) hx hb (hts _ (tw2 (i := 5) rfl)) hK rfl rfl rfl (fun h => h) (tf_d0 (by decide) (by decide)) hW (by omega) rfl (by decide) (by decide) (Nat.le_trans (by omega) hR3) (Nat.le_trans (by omega) hR4) dX3_init_65 (fun ad43 H43 T hq43 hT43 had43 hE43 hW ho43 => ?_)
  have hs44 := tf_keepQ hs40 (ho43 _ _ ha0)
  have hs45 := tf_keepQ hs41 (ho43 _ _ ha0)
  have hs46 := tf_keepQ hs42 (ho43 _ _ ha0)
  have hs47 := tf_keepQ hs39 (ho43 _ _ ha0)
  have ha0 := hE43 _ _ ha0
  have hn2 := hE43 _ _ hn2
  have hn6 := hE43 _ _ hn6
  have hn13 := hE43 _ _ hn13
  have had19 := hE43 _ _ had19
  refine tf_putF hx hb hts inlX3 tyX3 tyX3_ok nmX3 hown hK (ci := 3) rfl hW ha0 rfl rfl 4 rfl (by decide) (by decide) (hts _ fl_X3_36) rfl hin rfl trivial rfl rfl dX3_init_67 (fun H48 locs48 hW hs48 ht48 hq48 => ?_)
  have hs49 := (ht48 0 (by decide) (by decide)).trans hs44
  have hs50 := (ht48 1 (by decide) (by decide)).trans hs45
  have hs51 := (ht48 2 (by decide) (by decide)).trans hs46
  have hs52 := (ht48 3 (by decide) (by decide)).trans hs47
  refine lv_aload_n hx hb dX3_init_70 rfl (lv_at hl 0 rfl) ?_
  refine tf_bipush hx hb dX3_init_71 (by decide) ?_
  refine tf_newarr (atype := .int) (ty := .int) (f := (0, 0, 0, 0, 999)) (t0 := 0) (k := 18) (N := 40) hx hb (hts _ (tw2 (i := 5) rfl)) hK rfl rfl rfl (fun h => h) (tf_d0 (by decide) (by decide)) hW (by omega) rfl (by decide) (by decide) (Nat.le_trans (by omega) hR3) (Nat.le_trans (by omega) hR4) dX3_init_73 (fun ad53 H53 T hq53 hT53 had53 hE53 hW ho53 => ?_)
  have hs54 := tf_keepQ hs49 (ho53 _ _ ha0)
  have hs55 := tf_keepQ hs50 (ho53 _ _ ha0)
  have hs56 := tf_keepQ hs51 (ho53 _ _ ha0)
  have hs57 := tf_keepQ hs52 (ho53 _ _ ha0)
  have hs58 := tf_keepQ hs48 (ho53 _ _ ha0)
  have ha0 := hE53 _ _ ha0
  have hn2 := hE53 _ _ hn2
  have hn6 := hE53 _ _ hn6
  have hn13 := hE53 _ _ hn13
  have had19 := hE53 _ _ had19
  have had43 := hE53 _ _ had43
  refine tf_putF hx hb hts inlX3 tyX3 tyX3_ok nmX3 hown hK (ci := 3) rfl hW ha0 rfl rfl 5 rfl (by decide) (by decide) (hts _ fl_X3_39) rfl hin rfl trivial rfl rfl dX3_init_75 (fun H59 locs59 hW hs59 ht59 hq59 => ?_)
  have hs60 := (ht59 0 (by decide) (by decide)).trans hs54
  have hs61 := (ht59 1 (by decide) (by decide)).trans hs55
  have hs62 := (ht59 2 (by decide) (by decide)).trans hs56
  have hs63 := (ht59 3 (by decide) (by decide)).trans hs57
  have hs64 := (ht59 4 (by decide) (by decide)).trans hs58
  refine lv_aload_n hx hb dX3_init_78 rfl (lv_at hl 0 rfl) ?_
  refine tf_iconst hx hb dX3_init_79 ?_
  refine tf_newarr (atype := .int) (ty := .int) (f := (0, 0, 0, -2147483648, 2147483647)) (t0 := 0) (k := 19) (N := 4) hx hb (hts _ (tw2 (i := 5) rfl)) hK rfl rfl rfl (fun h => h) (tf_d0 (by decide) (by decide)) hW (by omega) rfl (by decide) (by decide) (Nat.le_trans (by omega) hR3) (Nat.le_trans (by omega) hR4) dX3_init_80 (fun ad65 H65 T hq65 hT65 had65 hE65 hW ho65 => ?_)
  have hs66 := tf_keepQ hs60 (ho65 _ _ ha0)
  have hs67 := tf_keepQ hs61 (ho65 _ _ ha0)
  have hs68 := tf_keepQ hs62 (ho65 _ _ ha0)
  have hs69 := tf_keepQ hs63 (ho65 _ _ ha0)
  have hs70 := tf_keepQ hs64 (ho65 _ _ ha0)
  have hs71 := tf_keepQ hs59 (ho65 _ _ ha0)
  have ha0 := hE65 _ _ ha0
  have hn2 := hE65 _ _ hn2
  have hn6 := hE65 _ _ hn6
  have hn13 := hE65 _ _ hn13
  have had19 := hE65 _ _ had19
  have had43 := hE65 _ _ had43
  have had53 := hE65 _ _ had53
  refine tf_putF hx hb hts inlX3 tyX3 tyX3_ok nmX3 hown hK (ci := 3) rfl hW ha0 rfl rfl 6 rfl (by decide) (by decide) (hts _ fl_X3_42) rfl hin rfl trivial rfl rfl dX3_init_82 (fun H72 locs72 hW hs72 ht72 hq72 => ?_)
  have hs73 := (ht72 0 (by decide) (by decide)).trans hs66
  have hs74 := (ht72 1 (by decide) (by decide)).trans hs67
  have hs75 := (ht72 2 (by decide) (by decide)).trans hs68
  have hs76 := (ht72 3 (by decide) (by decide)).trans hs69
  have hs77 := (ht72 4 (by decide) (by decide)).trans hs70
  have hs78 := (ht72 5 (by decide) (by decide)).trans hs71
  refine lv_aload_n hx hb dX3_init_85 rfl (lv_at hl 0 rfl) ?_
  refine tf_bipush hx hb dX3_init_86 (by decide) ?_
  refine tf_anewarr (t0 := 4) (k := 14) (N := 6) hx hb hown (hts _ (tw3 (i := 10) rfl)) hk.2.2.2.1 hK rfl rfl hW (by omega) rfl (by decide) (Nat.le_trans (by omega) hR3) (Nat.le_trans (by omega) hR4) dX3_init_88 (fun ad79 H79 T hq79 hT79 had79 hE79 hW ho79 => ?_)
  have hs80 := tf_keepQ hs73 (ho79 _ _ ha0)
  have hs81 := tf_keepQ hs74 (ho79 _ _ ha0)
  have hs82 := tf_keepQ hs75 (ho79 _ _ ha0)
  have hs83 := tf_keepQ hs76 (ho79 _ _ ha0)
  have hs84 := tf_keepQ hs77 (ho79 _ _ ha0)
  have hs85 := tf_keepQ hs78 (ho79 _ _ ha0)
  have hs86 := tf_keepQ hs72 (ho79 _ _ ha0)
  have ha0 := hE79 _ _ ha0
  have hn2 := hE79 _ _ hn2
  have hn6 := hE79 _ _ hn6
  have hn13 := hE79 _ _ hn13
  have had19 := hE79 _ _ had19
  have had43 := hE79 _ _ had43
  have had53 := hE79 _ _ had53
  have had65 := hE79 _ _ had65
  refine tf_putF hx hb hts inlX3 tyX3 tyX3_ok nmX3 hown hK (ci := 3) rfl hW ha0 rfl rfl 7 rfl (by decide) (by decide) (hts _ fl_X3_47) rfl hin rfl trivial rfl rfl dX3_init_91 (fun H87 locs87 hW hs87 ht87 hq87 => ?_)
  have hs88 := (ht87 0 (by decide) (by decide)).trans hs80
  have hs89 := (ht87 1 (by decide) (by decide)).trans hs81
  have hs90 := (ht87 2 (by decide) (by decide)).trans hs82
  have hs91 := (ht87 3 (by decide) (by decide)).trans hs83
  have hs92 := (ht87 4 (by decide) (by decide)).trans hs84
  have hs93 := (ht87 5 (by decide) (by decide)).trans hs85
  have hs94 := (ht87 6 (by decide) (by decide)).trans hs86
  refine lv_aload_n hx hb dX3_init_94 rfl (lv_at hl 0 rfl) ?_
  refine tf_iconst hx hb dX3_init_95 ?_
  refine tf_put hx hb hts inlX3 tyX3 tyX3_ok nmX3 hown hK (ci := 3) rfl hW ha0 rfl rfl 8 rfl (by decide) (by decide) (hts _ fl_X3_51) rfl trivial rfl rfl dX3_init_96 (fun H95 locs95 hW hs95 ht95 hq95 => ?_)
  have hs96 := (ht95 0 (by decide) (by decide)).trans hs88
  have hs97 := (ht95 1 (by decide) (by decide)).trans hs89
  have hs98 := (ht95 2 (by decide) (by decide)).trans hs90
  have hs99 := (ht95 3 (by decide) (by decide)).trans hs91
  have hs100 := (ht95 4 (by decide) (by decide)).trans hs92
  have hs101 := (ht95 5 (by decide) (by decide)).trans hs93
  have hs102 := (ht95 6 (by decide) (by decide)).trans hs94
  have hs103 := (ht95 7 (by decide) (by decide)).trans hs87
  refine lv_aload_n hx hb dX3_init_99 rfl (lv_at hl 0 rfl) ?_
  refine tf_iconst hx hb dX3_init_100 ?_
  refine tf_put hx hb hts inlX3 tyX3 tyX3_ok nmX3 hown hK (ci := 3) rfl hW ha0 rfl rfl 9 rfl (by decide) (by decide) (hts _ fl_X3_55) rfl trivial rfl rfl dX3_init_101 (fun H104 locs104 hW hs104 ht104 hq104 => ?_)
  have hs105 := (ht104 0 (by decide) (by decide)).trans hs96
  have hs106 := (ht104 1 (by decide) (by decide)).trans hs97
  have hs107 := (ht104 2 (by decide) (by decide)).trans hs98
  have hs108 := (ht104 3 (by decide) (by decide)).trans hs99
  have hs109 := (ht104 4 (by decide) (by decide)).trans hs100
  have hs110 := (ht104 5 (by decide) (by decide)).trans hs101
  have hs111 := (ht104 6 (by decide) (by decide)).trans hs102
  have hs112 := (ht104 7 (by decide) (by decide)).trans hs103
  have hs113 := (ht104 8 (by decide) (by decide)).trans hs95
  refine lv_aload_n hx hb dX3_init_104 rfl (lv_at hl 0 rfl) ?_
  refine tf_bipush hx hb dX3_init_105 (by decide) ?_
  refine tf_newarr (atype := .int) (ty := .int) (f := (0, 0, 0, -2147483648, 2147483647)) (t0 := 0) (k := 9) (N := 12) hx hb (hts _ (tw2 (i := 5) rfl)) hK rfl rfl rfl (fun h => h) (tf_d0 (by decide) (by decide)) hW (by omega) rfl (by decide) (by decide) (Nat.le_trans (by omega) hR3) (Nat.le_trans (by omega) hR4) dX3_init_107 (fun ad114 H114 T hq114 hT114 had114 hE114 hW ho114 => ?_)
  have hs115 := tf_keepQ hs105 (ho114 _ _ ha0)
  have hs116 := tf_keepQ hs106 (ho114 _ _ ha0)
  have hs117 := tf_keepQ hs107 (ho114 _ _ ha0)
  have hs118 := tf_keepQ hs108 (ho114 _ _ ha0)
  have hs119 := tf_keepQ hs109 (ho114 _ _ ha0)
  have hs120 := tf_keepQ hs110 (ho114 _ _ ha0)
  have hs121 := tf_keepQ hs111 (ho114 _ _ ha0)
  have hs122 := tf_keepQ hs112 (ho114 _ _ ha0)
  have hs123 := tf_keepQ hs113 (ho114 _ _ ha0)
  have hs124 := tf_keepQ hs104 (ho114 _ _ ha0)
  have ha0 := hE114 _ _ ha0
  have hn2 := hE114 _ _ hn2
  have hn6 := hE114 _ _ hn6
  have hn13 := hE114 _ _ hn13
  have had19 := hE114 _ _ had19
  have had43 := hE114 _ _ had43
  have had53 := hE114 _ _ had53
  have had65 := hE114 _ _ had65
  have had79 := hE114 _ _ had79
  refine tf_putF hx hb hts inlX3 tyX3 tyX3_ok nmX3 hown hK (ci := 3) rfl hW ha0 rfl rfl 10 rfl (by decide) (by decide) (hts _ fl_X3_58) rfl hin rfl trivial rfl rfl dX3_init_109 (fun H125 locs125 hW hs125 ht125 hq125 => ?_)
  have hs126 := (ht125 0 (by decide) (by decide)).trans hs115
  have hs127 := (ht125 1 (by decide) (by decide)).trans hs116
  have hs128 := (ht125 2 (by decide) (by decide)).trans hs117
  have hs129 := (ht125 3 (by decide) (by decide)).trans hs118
  have hs130 := (ht125 4 (by decide) (by decide)).trans hs119
  have hs131 := (ht125 5 (by decide) (by decide)).trans hs120
  have hs132 := (ht125 6 (by decide) (by decide)).trans hs121
  have hs133 := (ht125 7 (by decide) (by decide)).trans hs122
  have hs134 := (ht125 8 (by decide) (by decide)).trans hs123
  have hs135 := (ht125 9 (by decide) (by decide)).trans hs124
  refine lv_aload_n hx hb dX3_init_112 rfl (lv_at hl 0 rfl) ?_
  refine tf_iconst hx hb dX3_init_113 ?_
  refine tf_put hx hb hts inlX3 tyX3 tyX3_ok nmX3 hown hK (ci := 3) rfl hW ha0 rfl rfl 11 rfl (by decide) (by decide) (hts _ fl_X3_61) rfl trivial rfl rfl dX3_init_114 (fun H136 locs136 hW hs136 ht136 hq136 => ?_)
  have hs137 := (ht136 0 (by decide) (by decide)).trans hs126
  have hs138 := (ht136 1 (by decide) (by decide)).trans hs127
  have hs139 := (ht136 2 (by decide) (by decide)).trans hs128
  have hs140 := (ht136 3 (by decide) (by decide)).trans hs129
  have hs141 := (ht136 4 (by decide) (by decide)).trans hs130
  have hs142 := (ht136 5 (by decide) (by decide)).trans hs131
  have hs143 := (ht136 6 (by decide) (by decide)).trans hs132
  have hs144 := (ht136 7 (by decide) (by decide)).trans hs133
  have hs145 := (ht136 8 (by decide) (by decide)).trans hs134
  have hs146 := (ht136 9 (by decide) (by decide)).trans hs135
  have hs147 := (ht136 10 (by decide) (by decide)).trans hs125
  refine W.widen (k := 21) (n := 1164) (by omega) (by omega) ?_
  exact tf_retC (ci := 3) hx hb hr hlocks hQ hW ha0 rfl (by decide) rfl (fun j f hj => match j, hj with | 0, hj => by obtain rfl : _ = f := Option.some.inj hj; exact ⟨_, hs137, tf_u1 hn2⟩ | 1, hj => by obtain rfl : _ = f := Option.some.inj hj; exact ⟨_, hs138, tf_u1 hn6⟩ | 2, hj => by obtain rfl : _ = f := Option.some.inj hj; exact ⟨_, hs139, tf_u1 hn13⟩ | 3, hj => by obtain rfl : _ = f := Option.some.inj hj; exact ⟨_, hs140, tf_u1 had19⟩ | 4, hj => by obtain rfl : _ = f := Option.some.inj hj; exact ⟨_, hs141, tf_u1 had43⟩ | 5, hj => by obtain rfl : _ = f := Option.some.inj hj; exact ⟨_, hs142, tf_u1 had53⟩ | 6, hj => by obtain rfl : _ = f := Option.some.inj hj; exact ⟨_, hs143, tf_u1 had65⟩ | 7, hj => by obtain rfl : _ = f := Option.some.inj hj; exact ⟨_, hs144, tf_u1 had79⟩ | 8, hj => by obtain rfl : _ = f := Option.some.inj hj; exact ⟨_, hs145, tf_u0 (by omega) (by omega)⟩ | 9, hj => by obtain rfl : _ = f := Option.some.inj hj; exact ⟨_, hs146, tf_u0 (by omega) (by omega)⟩ | 10, hj => by obtain rfl : _ = f := Option.some.inj hj; exact ⟨_, hs147, tf_u1 had114⟩ | 11, hj => by obtain rfl : _ = f := Option.some.inj hj; exact ⟨_, hs136, tf_u0 (by omega) (by omega)⟩ | (j + 12), hj => by cases hj) dX3_init_117

abbrev M_i2_X3_init : List (Nat × Nat) := [(20, 0), (64, 0), (64, 1), (64, 2), (64, 3), (67, 0), (67, 1), (67, 2), (67, 3), (67, 4), (67, 5), (67, 6), (67, 7), (67, 8), (67, 9), (67, 10), (67, 11), (69, 0), (69, 1), (69, 2), (69, 3), (69, 4), (72, 0), (72, 1), (72, 2), (72, 3), (72, 4)]
set_option maxHeartbeats 4000000 in
set_option maxRecDepth 100000 in
theorem c_i2_X3_init (l : Launch) (g : tf_G) (T : tf_T) (a0 : Nat) (ha0 : T a0 = some (67, 0)) : Met l yX3_init (cd_X3_init :: wsL_law) ({ frames := 2, cells := 21, slots := 1164, locals := 60 }) (tf_P g T [.ref a0] (fun H => True)) (tf_QC g M_i2_X3_init T a0 33) 21 1164 (fun q => tf_B g ≤ q) := by
  refine Met.ofW (cc := cX3_init) (maxL := 1) (ret := none) (by decide) rfl ?_
  intro p e s m args below meth c s₁ B hml hv
  obtain ⟨hargs, hk, hW0, hB, hpre⟩ := hv
  have hx := B.exec
  have hb := B.bytes
  have hr := B.returns
  have hts : ∀ w ∈ wsL_law, w.before args s = true := fun w h => atoms_spec (ws := cd_X3_init :: wsL_law) B.pre w (List.mem_cons_of_mem _ h)
  have hown : s.vm.findClass RX3 = some m.cls := findClass_of_methodNamed B.named
  have hlocks := B.notSynchronized
  have hK := hk.1
  have hW := tf_n.start (M := M_i2_X3_init) hW0 hB
  obtain ⟨Q, hQ⟩ : ∃ q, q = MQ below (tf_QC g M_i2_X3_init T a0 33) args s 21 1164 (fun q => tf_B g ≤ q) := ⟨_, rfl⟩
  rw [← hQ]
  obtain ⟨R, hR⟩ : ∃ q, q = (headSpec (cd_X3_init :: wsL_law) ({ frames := 2, cells := 21, slots := 1164, locals := 60 })).room := ⟨_, rfl⟩
  rw [← hR]
  have hR1 : 2 ≤ R.frames := by rw [hR]; exact Nat.le_refl _
  have hR2 : 60 ≤ R.locals := by rw [hR]; exact Nat.le_refl _
  have hR3 : 21 ≤ R.cells := by rw [hR]; exact Nat.le_refl _
  have hR4 : 1164 ≤ R.slots := by rw [hR]; exact Nat.le_refl _
  have hin := (name_of_methodNamed B.named B.method).1
  clear hR B
  refine tf_enter (As := [.ref a0]) hargs (Nat.le_of_ble_eq_true rfl) (fun ls hl => ?_)
  have hl : lv_has ls 1 [(0, .ref a0)] := hl
  refine lv_aload_n hx hb dX3_init_0 rfl (lv_at hl 0 rfl) ?_
  refine W.objInit hx hb hown (hts _ (tw2 (i := 17) rfl)) (hts _ (tw1 (i := 10) rfl)) (hts _ (tw1 (i := 11) rfl)) rfl (by rw [hml]; exact hl.1) rfl dX3_init_1 (Nat.le_trans (by decide) hR1) (Nat.le_trans (by exact Nat.le_of_ble_eq_true rfl) hR2) ?_
  refine W.eq (g2 := F0 m 4 ls []) rfl ?_
  refine lv_aload_n hx hb dX3_init_4 rfl (lv_at hl 0 rfl) ?_
  have hsz1 := hW.2.2.1.1
  refine tf_new (kr := 64) hx hb hts inlX0 tyX0 tyX0_ok hown (hts _ (tw2 (i := 18) rfl)) (hts _ (tw2 (i := 19) rfl)) (hts _ (tw2 (i := 20) rfl)) hK (ci := 0) rfl hW rfl ⟨rfl, by decide⟩ (Nat.le_trans (by omega) hR3) (Nat.le_trans (by omega) hR4) dX3_init_5 (fun ad1 H1 T hq1 hT1 had1 hE1 hW ho1 => ?_)
  have hsz1 := Nat.le_trans hsz1 (Nat.le_of_eq hq1)
  have ha0 := hE1 _ _ ha0
  refine lv_dup hx hb dX3_init_8 rfl ?_
  refine tf_callC (va_runIN (As := []) (rest := [.ref ad1, .ref a0]) ⟨hx, hb, hml, hown, hts⟩ (c_X0_init l g T ad1 had1) ⟨va_cnB 0 hts (gw_ws cm_X0_init) rfl rfl rfl (hk.2.1 _ nw_1) (hts _ (tw2 (i := 20) rfl)) hd_X0_init.2 ⟨Nat.le_trans (by decide) hR1, Nat.le_trans (by decide) hR2⟩, rfl, hts _ (tw3 (i := 16) rfl)⟩ (tf_preS hk hW trivial) rfl rfl hl.1 rfl (lv_room (Nat.le_of_ble_eq_true rfl)) dX3_init_9 ⟨Nat.le_trans (by omega) hR3, Nat.le_trans (by omega) hR4⟩) hW (by decide) (tf_fresh hW0 hsz1) hsz1 had1 (fun H2 locs2 T hW hn2 hE2 hF2 => ?_)
  have ha0 := hE2 _ _ (tf_ne ha0 had1 (by decide)) ha0
  refine tf_putF hx hb hts inlX3 tyX3 tyX3_ok nmX3 hown hK (ci := 3) rfl hW ha0 rfl rfl 0 rfl (by decide) (by decide) (hts _ fl_X3_12) rfl hin rfl trivial rfl rfl dX3_init_12 (fun H3 locs3 hW hs3 ht3 hq3 => ?_)
  refine lv_aload_n hx hb dX3_init_15 rfl (lv_at hl 0 rfl) ?_
  have hsz4 := hW.2.2.1.1
  refine tf_new (kr := 69) hx hb hts inlX5 tyX5 tyX5_ok hown (hts _ (tw2 (i := 22) rfl)) (hts _ (tw2 (i := 23) rfl)) (hts _ (tw3 (i := 0) rfl)) hK (ci := 5) rfl hW rfl ⟨rfl, by decide⟩ (Nat.le_trans (by omega) hR3) (Nat.le_trans (by omega) hR4) dX3_init_16 (fun ad4 H4 T hq4 hT4 had4 hE4 hW ho4 => ?_)
  have hsz4 := Nat.le_trans hsz4 (Nat.le_of_eq hq4)
  have hs5 := tf_keepQ hs3 (ho4 _ _ ha0)
  have ha0 := hE4 _ _ ha0
  have hn2 := hE4 _ _ hn2
  refine lv_dup hx hb dX3_init_19 rfl ?_
  refine tf_callC (va_runIN (As := []) (rest := [.ref ad4, .ref a0]) ⟨hx, hb, hml, hown, hts⟩ (c_X5_init l g T ad4 had4) ⟨va_cnB 0 hts (gw_ws cm_X5_init) rfl rfl rfl (hk.2.1 _ nw_2) (hts _ (tw3 (i := 0) rfl)) hd_X5_init.2 ⟨Nat.le_trans (by decide) hR1, Nat.le_trans (by decide) hR2⟩, rfl, hts _ (tw3 (i := 23) rfl)⟩ (tf_preS hk hW trivial) rfl rfl hl.1 rfl (lv_room (Nat.le_of_ble_eq_true rfl)) dX3_init_20 ⟨Nat.le_trans (by omega) hR3, Nat.le_trans (by omega) hR4⟩) hW (by decide) (tf_fresh hW0 hsz4) hsz4 had4 (fun H6 locs6 T hW hn6 hE6 hF6 => ?_)
  have hs7 := tf_keepF hF6 ha0 rfl rfl (by decide) hs5
  have ha0 := hE6 _ _ (tf_ne ha0 had4 (by decide)) ha0
  have hn2 := hE6 _ _ (tf_ne hn2 had4 (by decide)) hn2
  refine tf_putF hx hb hts inlX3 tyX3 tyX3_ok nmX3 hown hK (ci := 3) rfl hW ha0 rfl rfl 1 rfl (by decide) (by decide) (hts _ fl_X3_21) rfl hin rfl trivial rfl rfl dX3_init_23 (fun H8 locs8 hW hs8 ht8 hq8 => ?_)
  have hs9 := (ht8 0 (by decide) (by decide)).trans hs7
  refine lv_aload_n hx hb dX3_init_26 rfl (lv_at hl 0 rfl) ?_
  have hsz10 := hW.2.2.1.1
  refine tf_new (kr := 72) hx hb hts inlX8 tyX8 tyX8_ok hown (hts _ (tw3 (i := 2) rfl)) (hts _ (tw3 (i := 3) rfl)) (hts _ (tw3 (i := 4) rfl)) hK (ci := 8) rfl hW rfl ⟨rfl, by decide⟩ (Nat.le_trans (by omega) hR3) (Nat.le_trans (by omega) hR4) dX3_init_27 (fun ad10 H10 T hq10 hT10 had10 hE10 hW ho10 => ?_)
  have hsz10 := Nat.le_trans hsz10 (Nat.le_of_eq hq10)
  have hs11 := tf_keepQ hs9 (ho10 _ _ ha0)
  have hs12 := tf_keepQ hs8 (ho10 _ _ ha0)
  have ha0 := hE10 _ _ ha0
  have hn2 := hE10 _ _ hn2
  have hn6 := hE10 _ _ hn6
  refine lv_dup hx hb dX3_init_30 rfl ?_
  refine tf_callC (va_runIN (As := []) (rest := [.ref ad10, .ref a0]) ⟨hx, hb, hml, hown, hts⟩ (c_X8_init l g T ad10 had10) ⟨va_cnB 0 hts (gw_ws cm_X8_init) rfl rfl rfl (hk.2.1 _ nw_3) (hts _ (tw3 (i := 4) rfl)) hd_X8_init.2 ⟨Nat.le_trans (by decide) hR1, Nat.le_trans (by decide) hR2⟩, rfl, hts _ (tw4 (i := 7) rfl)⟩ (tf_preS hk hW trivial) rfl rfl hl.1 rfl (lv_room (Nat.le_of_ble_eq_true rfl)) dX3_init_31 ⟨Nat.le_trans (by omega) hR3, Nat.le_trans (by omega) hR4⟩) hW (by decide) (tf_fresh hW0 hsz10) hsz10 had10 (fun H13 locs13 T hW hn13 hE13 hF13 => ?_)
  have hs14 := tf_keepF hF13 ha0 rfl rfl (by decide) hs11
  have hs15 := tf_keepF hF13 ha0 rfl rfl (by decide) hs12
  have ha0 := hE13 _ _ (tf_ne ha0 had10 (by decide)) ha0
  have hn2 := hE13 _ _ (tf_ne hn2 had10 (by decide)) hn2
  have hn6 := hE13 _ _ (tf_ne hn6 had10 (by decide)) hn6
  refine tf_putF hx hb hts inlX3 tyX3 tyX3_ok nmX3 hown hK (ci := 3) rfl hW ha0 rfl rfl 2 rfl (by decide) (by decide) (hts _ fl_X3_28) rfl hin rfl trivial rfl rfl dX3_init_34 (fun H16 locs16 hW hs16 ht16 hq16 => ?_)
  have hs17 := (ht16 0 (by decide) (by decide)).trans hs14
  have hs18 := (ht16 1 (by decide) (by decide)).trans hs15
  refine lv_aload_n hx hb dX3_init_37 rfl (lv_at hl 0 rfl) ?_
  refine tf_iconst hx hb dX3_init_38 ?_
  refine tf_newarr (atype := .int) (ty := .int) (f := (0, 0, 0, 0, 9999)) (t0 := 0) (k := 20) (N := 4) hx hb (hts _ (tw2 (i := 5) rfl)) hK rfl rfl rfl (fun h => h) (tf_d0 (by decide) (by decide)) hW (by omega) rfl (by decide) (by decide) (Nat.le_trans (by omega) hR3) (Nat.le_trans (by omega) hR4) dX3_init_39 (fun ad19 H19 T hq19 hT19 had19 hE19 hW ho19 => ?_)
  have hs20 := tf_keepQ hs17 (ho19 _ _ ha0)
  have hs21 := tf_keepQ hs18 (ho19 _ _ ha0)
  have hs22 := tf_keepQ hs16 (ho19 _ _ ha0)
  have ha0 := hE19 _ _ ha0
  have hn2 := hE19 _ _ hn2
  have hn6 := hE19 _ _ hn6
  have hn13 := hE19 _ _ hn13
  refine lv_dup hx hb dX3_init_41 rfl ?_
  refine tf_iconst hx hb dX3_init_42 ?_
  refine tf_iconst hx hb dX3_init_43 ?_
  refine tf_iast (t0 := 0) hx hb hK hW had19 rfl rfl (by omega) (by omega) (by decide) (tf_u0 (by omega) (by omega)) dX3_init_44 (fun H23 locs23 hW hs23 ht23 hq23 => ?_)
  have hs24 := tf_keepQ hs20 (hq23 _ (tf_ne ha0 had19 (by decide)))
  have hs25 := tf_keepQ hs21 (hq23 _ (tf_ne ha0 had19 (by decide)))
  have hs26 := tf_keepQ hs22 (hq23 _ (tf_ne ha0 had19 (by decide)))
  refine lv_dup hx hb dX3_init_45 rfl ?_
  refine tf_iconst hx hb dX3_init_46 ?_
  refine tf_bipush hx hb dX3_init_47 (by decide) ?_
  refine tf_iast (t0 := 0) hx hb hK hW had19 rfl rfl (by omega) (by omega) (by decide) (tf_u0 (by omega) (by omega)) dX3_init_49 (fun H27 locs27 hW hs27 ht27 hq27 => ?_)
  have hs28 := tf_keepQ hs24 (hq27 _ (tf_ne ha0 had19 (by decide)))
  have hs29 := tf_keepQ hs25 (hq27 _ (tf_ne ha0 had19 (by decide)))
  have hs30 := tf_keepQ hs26 (hq27 _ (tf_ne ha0 had19 (by decide)))
  refine lv_dup hx hb dX3_init_50 rfl ?_
  refine tf_iconst hx hb dX3_init_51 ?_
  refine tf_bipush hx hb dX3_init_52 (by decide) ?_
  refine tf_iast (t0 := 0) hx hb hK hW had19 rfl rfl (by omega) (by omega) (by decide) (tf_u0 (by omega) (by omega)) dX3_init_54 (fun H31 locs31 hW hs31 ht31 hq31 => ?_)
  have hs32 := tf_keepQ hs28 (hq31 _ (tf_ne ha0 had19 (by decide)))
  have hs33 := tf_keepQ hs29 (hq31 _ (tf_ne ha0 had19 (by decide)))
  have hs34 := tf_keepQ hs30 (hq31 _ (tf_ne ha0 had19 (by decide)))
  refine lv_dup hx hb dX3_init_55 rfl ?_
  refine tf_iconst hx hb dX3_init_56 ?_
  refine tf_bipush hx hb dX3_init_57 (by decide) ?_
  refine tf_iast (t0 := 0) hx hb hK hW had19 rfl rfl (by omega) (by omega) (by decide) (tf_u0 (by omega) (by omega)) dX3_init_59 (fun H35 locs35 hW hs35 ht35 hq35 => ?_)
  have hs36 := tf_keepQ hs32 (hq35 _ (tf_ne ha0 had19 (by decide)))
  have hs37 := tf_keepQ hs33 (hq35 _ (tf_ne ha0 had19 (by decide)))
  have hs38 := tf_keepQ hs34 (hq35 _ (tf_ne ha0 had19 (by decide)))
  refine tf_putF hx hb hts inlX3 tyX3 tyX3_ok nmX3 hown hK (ci := 3) rfl hW ha0 rfl rfl 3 rfl (by decide) (by decide) (hts _ fl_X3_32) rfl hin rfl trivial rfl rfl dX3_init_60 (fun H39 locs39 hW hs39 ht39 hq39 => ?_)
  have hs40 := (ht39 0 (by decide) (by decide)).trans hs36
  have hs41 := (ht39 1 (by decide) (by decide)).trans hs37
  have hs42 := (ht39 2 (by decide) (by decide)).trans hs38
  refine lv_aload_n hx hb dX3_init_63 rfl (lv_at hl 0 rfl) ?_
  refine tf_iconst hx hb dX3_init_64 ?_
  refine tf_newarr (atype := .int) (ty := .int) (f := (0, 0, 0, 0, 9999)) (t0 := 0) (k := 21) (N := 4) hx hb (hts _ (tw2 (i := 5) rfl)) hK rfl rfl rfl (fun h => h) (tf_d0 (by decide) (by decide)) hW (by omega) rfl (by decide) (by decide) (Nat.le_trans (by omega) hR3) (Nat.le_trans (by omega) hR4) dX3_init_65 (fun ad43 H43 T hq43 hT43 had43 hE43 hW ho43 => ?_)
  have hs44 := tf_keepQ hs40 (ho43 _ _ ha0)
  have hs45 := tf_keepQ hs41 (ho43 _ _ ha0)
  have hs46 := tf_keepQ hs42 (ho43 _ _ ha0)
  have hs47 := tf_keepQ hs39 (ho43 _ _ ha0)
  have ha0 := hE43 _ _ ha0
  have hn2 := hE43 _ _ hn2
  have hn6 := hE43 _ _ hn6
  have hn13 := hE43 _ _ hn13
  have had19 := hE43 _ _ had19
  refine tf_putF hx hb hts inlX3 tyX3 tyX3_ok nmX3 hown hK (ci := 3) rfl hW ha0 rfl rfl 4 rfl (by decide) (by decide) (hts _ fl_X3_36) rfl hin rfl trivial rfl rfl dX3_init_67 (fun H48 locs48 hW hs48 ht48 hq48 => ?_)
  have hs49 := (ht48 0 (by decide) (by decide)).trans hs44
  have hs50 := (ht48 1 (by decide) (by decide)).trans hs45
  have hs51 := (ht48 2 (by decide) (by decide)).trans hs46
  have hs52 := (ht48 3 (by decide) (by decide)).trans hs47
  refine lv_aload_n hx hb dX3_init_70 rfl (lv_at hl 0 rfl) ?_
  refine tf_bipush hx hb dX3_init_71 (by decide) ?_
  refine tf_newarr (atype := .int) (ty := .int) (f := (0, 0, 0, 0, 999)) (t0 := 0) (k := 22) (N := 40) hx hb (hts _ (tw2 (i := 5) rfl)) hK rfl rfl rfl (fun h => h) (tf_d0 (by decide) (by decide)) hW (by omega) rfl (by decide) (by decide) (Nat.le_trans (by omega) hR3) (Nat.le_trans (by omega) hR4) dX3_init_73 (fun ad53 H53 T hq53 hT53 had53 hE53 hW ho53 => ?_)
  have hs54 := tf_keepQ hs49 (ho53 _ _ ha0)
  have hs55 := tf_keepQ hs50 (ho53 _ _ ha0)
  have hs56 := tf_keepQ hs51 (ho53 _ _ ha0)
  have hs57 := tf_keepQ hs52 (ho53 _ _ ha0)
  have hs58 := tf_keepQ hs48 (ho53 _ _ ha0)
  have ha0 := hE53 _ _ ha0
  have hn2 := hE53 _ _ hn2
  have hn6 := hE53 _ _ hn6
  have hn13 := hE53 _ _ hn13
  have had19 := hE53 _ _ had19
  have had43 := hE53 _ _ had43
  refine tf_putF hx hb hts inlX3 tyX3 tyX3_ok nmX3 hown hK (ci := 3) rfl hW ha0 rfl rfl 5 rfl (by decide) (by decide) (hts _ fl_X3_39) rfl hin rfl trivial rfl rfl dX3_init_75 (fun H59 locs59 hW hs59 ht59 hq59 => ?_)
  have hs60 := (ht59 0 (by decide) (by decide)).trans hs54
  have hs61 := (ht59 1 (by decide) (by decide)).trans hs55
  have hs62 := (ht59 2 (by decide) (by decide)).trans hs56
  have hs63 := (ht59 3 (by decide) (by decide)).trans hs57
  have hs64 := (ht59 4 (by decide) (by decide)).trans hs58
  refine lv_aload_n hx hb dX3_init_78 rfl (lv_at hl 0 rfl) ?_
  refine tf_iconst hx hb dX3_init_79 ?_
  refine tf_newarr (atype := .int) (ty := .int) (f := (0, 0, 0, -2147483648, 2147483647)) (t0 := 0) (k := 23) (N := 4) hx hb (hts _ (tw2 (i := 5) rfl)) hK rfl rfl rfl (fun h => h) (tf_d0 (by decide) (by decide)) hW (by omega) rfl (by decide) (by decide) (Nat.le_trans (by omega) hR3) (Nat.le_trans (by omega) hR4) dX3_init_80 (fun ad65 H65 T hq65 hT65 had65 hE65 hW ho65 => ?_)
  have hs66 := tf_keepQ hs60 (ho65 _ _ ha0)
  have hs67 := tf_keepQ hs61 (ho65 _ _ ha0)
  have hs68 := tf_keepQ hs62 (ho65 _ _ ha0)
  have hs69 := tf_keepQ hs63 (ho65 _ _ ha0)
  have hs70 := tf_keepQ hs64 (ho65 _ _ ha0)
  have hs71 := tf_keepQ hs59 (ho65 _ _ ha0)
  have ha0 := hE65 _ _ ha0
  have hn2 := hE65 _ _ hn2
  have hn6 := hE65 _ _ hn6
  have hn13 := hE65 _ _ hn13
  have had19 := hE65 _ _ had19
  have had43 := hE65 _ _ had43
  have had53 := hE65 _ _ had53
  refine tf_putF hx hb hts inlX3 tyX3 tyX3_ok nmX3 hown hK (ci := 3) rfl hW ha0 rfl rfl 6 rfl (by decide) (by decide) (hts _ fl_X3_42) rfl hin rfl trivial rfl rfl dX3_init_82 (fun H72 locs72 hW hs72 ht72 hq72 => ?_)
  have hs73 := (ht72 0 (by decide) (by decide)).trans hs66
  have hs74 := (ht72 1 (by decide) (by decide)).trans hs67
  have hs75 := (ht72 2 (by decide) (by decide)).trans hs68
  have hs76 := (ht72 3 (by decide) (by decide)).trans hs69
  have hs77 := (ht72 4 (by decide) (by decide)).trans hs70
  have hs78 := (ht72 5 (by decide) (by decide)).trans hs71
  refine lv_aload_n hx hb dX3_init_85 rfl (lv_at hl 0 rfl) ?_
  refine tf_bipush hx hb dX3_init_86 (by decide) ?_
  refine tf_anewarr (t0 := 4) (k := 14) (N := 6) hx hb hown (hts _ (tw3 (i := 10) rfl)) hk.2.2.2.1 hK rfl rfl hW (by omega) rfl (by decide) (Nat.le_trans (by omega) hR3) (Nat.le_trans (by omega) hR4) dX3_init_88 (fun ad79 H79 T hq79 hT79 had79 hE79 hW ho79 => ?_)
  have hs80 := tf_keepQ hs73 (ho79 _ _ ha0)
  have hs81 := tf_keepQ hs74 (ho79 _ _ ha0)
  have hs82 := tf_keepQ hs75 (ho79 _ _ ha0)
  have hs83 := tf_keepQ hs76 (ho79 _ _ ha0)
  have hs84 := tf_keepQ hs77 (ho79 _ _ ha0)
  have hs85 := tf_keepQ hs78 (ho79 _ _ ha0)
  have hs86 := tf_keepQ hs72 (ho79 _ _ ha0)
  have ha0 := hE79 _ _ ha0
  have hn2 := hE79 _ _ hn2
  have hn6 := hE79 _ _ hn6
  have hn13 := hE79 _ _ hn13
  have had19 := hE79 _ _ had19
  have had43 := hE79 _ _ had43
  have had53 := hE79 _ _ had53
  have had65 := hE79 _ _ had65
  refine tf_putF hx hb hts inlX3 tyX3 tyX3_ok nmX3 hown hK (ci := 3) rfl hW ha0 rfl rfl 7 rfl (by decide) (by decide) (hts _ fl_X3_47) rfl hin rfl trivial rfl rfl dX3_init_91 (fun H87 locs87 hW hs87 ht87 hq87 => ?_)
  have hs88 := (ht87 0 (by decide) (by decide)).trans hs80
  have hs89 := (ht87 1 (by decide) (by decide)).trans hs81
  have hs90 := (ht87 2 (by decide) (by decide)).trans hs82
  have hs91 := (ht87 3 (by decide) (by decide)).trans hs83
  have hs92 := (ht87 4 (by decide) (by decide)).trans hs84
  have hs93 := (ht87 5 (by decide) (by decide)).trans hs85
  have hs94 := (ht87 6 (by decide) (by decide)).trans hs86
  refine lv_aload_n hx hb dX3_init_94 rfl (lv_at hl 0 rfl) ?_
  refine tf_iconst hx hb dX3_init_95 ?_
  refine tf_put hx hb hts inlX3 tyX3 tyX3_ok nmX3 hown hK (ci := 3) rfl hW ha0 rfl rfl 8 rfl (by decide) (by decide) (hts _ fl_X3_51) rfl trivial rfl rfl dX3_init_96 (fun H95 locs95 hW hs95 ht95 hq95 => ?_)
  have hs96 := (ht95 0 (by decide) (by decide)).trans hs88
  have hs97 := (ht95 1 (by decide) (by decide)).trans hs89
  have hs98 := (ht95 2 (by decide) (by decide)).trans hs90
  have hs99 := (ht95 3 (by decide) (by decide)).trans hs91
  have hs100 := (ht95 4 (by decide) (by decide)).trans hs92
  have hs101 := (ht95 5 (by decide) (by decide)).trans hs93
  have hs102 := (ht95 6 (by decide) (by decide)).trans hs94
  have hs103 := (ht95 7 (by decide) (by decide)).trans hs87
  refine lv_aload_n hx hb dX3_init_99 rfl (lv_at hl 0 rfl) ?_
  refine tf_iconst hx hb dX3_init_100 ?_
  refine tf_put hx hb hts inlX3 tyX3 tyX3_ok nmX3 hown hK (ci := 3) rfl hW ha0 rfl rfl 9 rfl (by decide) (by decide) (hts _ fl_X3_55) rfl trivial rfl rfl dX3_init_101 (fun H104 locs104 hW hs104 ht104 hq104 => ?_)
  have hs105 := (ht104 0 (by decide) (by decide)).trans hs96
  have hs106 := (ht104 1 (by decide) (by decide)).trans hs97
  have hs107 := (ht104 2 (by decide) (by decide)).trans hs98
  have hs108 := (ht104 3 (by decide) (by decide)).trans hs99
  have hs109 := (ht104 4 (by decide) (by decide)).trans hs100
  have hs110 := (ht104 5 (by decide) (by decide)).trans hs101
  have hs111 := (ht104 6 (by decide) (by decide)).trans hs102
  have hs112 := (ht104 7 (by decide) (by decide)).trans hs103
  have hs113 := (ht104 8 (by decide) (by decide)).trans hs95
  refine lv_aload_n hx hb dX3_init_104 rfl (lv_at hl 0 rfl) ?_
  refine tf_bipush hx hb dX3_init_105 (by decide) ?_
  refine tf_newarr (atype := .int) (ty := .int) (f := (0, 0, 0, -2147483648, 2147483647)) (t0 := 0) (k := 9) (N := 12) hx hb (hts _ (tw2 (i := 5) rfl)) hK rfl rfl rfl (fun h => h) (tf_d0 (by decide) (by decide)) hW (by omega) rfl (by decide) (by decide) (Nat.le_trans (by omega) hR3) (Nat.le_trans (by omega) hR4) dX3_init_107 (fun ad114 H114 T hq114 hT114 had114 hE114 hW ho114 => ?_)
  have hs115 := tf_keepQ hs105 (ho114 _ _ ha0)
  have hs116 := tf_keepQ hs106 (ho114 _ _ ha0)
  have hs117 := tf_keepQ hs107 (ho114 _ _ ha0)
  have hs118 := tf_keepQ hs108 (ho114 _ _ ha0)
  have hs119 := tf_keepQ hs109 (ho114 _ _ ha0)
  have hs120 := tf_keepQ hs110 (ho114 _ _ ha0)
  have hs121 := tf_keepQ hs111 (ho114 _ _ ha0)
  have hs122 := tf_keepQ hs112 (ho114 _ _ ha0)
  have hs123 := tf_keepQ hs113 (ho114 _ _ ha0)
  have hs124 := tf_keepQ hs104 (ho114 _ _ ha0)
  have ha0 := hE114 _ _ ha0
  have hn2 := hE114 _ _ hn2
  have hn6 := hE114 _ _ hn6
  have hn13 := hE114 _ _ hn13
  have had19 := hE114 _ _ had19
  have had43 := hE114 _ _ had43
  have had53 := hE114 _ _ had53
  have had65 := hE114 _ _ had65
  have had79 := hE114 _ _ had79
  refine tf_putF hx hb hts inlX3 tyX3 tyX3_ok nmX3 hown hK (ci := 3) rfl hW ha0 rfl rfl 10 rfl (by decide) (by decide) (hts _ fl_X3_58) rfl hin rfl trivial rfl rfl dX3_init_109 (fun H125 locs125 hW hs125 ht125 hq125 => ?_)
  have hs126 := (ht125 0 (by decide) (by decide)).trans hs115
  have hs127 := (ht125 1 (by decide) (by decide)).trans hs116
  have hs128 := (ht125 2 (by decide) (by decide)).trans hs117
  have hs129 := (ht125 3 (by decide) (by decide)).trans hs118
  have hs130 := (ht125 4 (by decide) (by decide)).trans hs119
  have hs131 := (ht125 5 (by decide) (by decide)).trans hs120
  have hs132 := (ht125 6 (by decide) (by decide)).trans hs121
  have hs133 := (ht125 7 (by decide) (by decide)).trans hs122
  have hs134 := (ht125 8 (by decide) (by decide)).trans hs123
  have hs135 := (ht125 9 (by decide) (by decide)).trans hs124
  refine lv_aload_n hx hb dX3_init_112 rfl (lv_at hl 0 rfl) ?_
  refine tf_iconst hx hb dX3_init_113 ?_
  refine tf_put hx hb hts inlX3 tyX3 tyX3_ok nmX3 hown hK (ci := 3) rfl hW ha0 rfl rfl 11 rfl (by decide) (by decide) (hts _ fl_X3_61) rfl trivial rfl rfl dX3_init_114 (fun H136 locs136 hW hs136 ht136 hq136 => ?_)
  have hs137 := (ht136 0 (by decide) (by decide)).trans hs126
  have hs138 := (ht136 1 (by decide) (by decide)).trans hs127
  have hs139 := (ht136 2 (by decide) (by decide)).trans hs128
  have hs140 := (ht136 3 (by decide) (by decide)).trans hs129
  have hs141 := (ht136 4 (by decide) (by decide)).trans hs130
  have hs142 := (ht136 5 (by decide) (by decide)).trans hs131
  have hs143 := (ht136 6 (by decide) (by decide)).trans hs132
  have hs144 := (ht136 7 (by decide) (by decide)).trans hs133
  have hs145 := (ht136 8 (by decide) (by decide)).trans hs134
  have hs146 := (ht136 9 (by decide) (by decide)).trans hs135
  have hs147 := (ht136 10 (by decide) (by decide)).trans hs125
  refine W.widen (k := 21) (n := 1164) (by omega) (by omega) ?_
  exact tf_retC (ci := 3) hx hb hr hlocks hQ hW ha0 rfl (by decide) rfl (fun j f hj => match j, hj with | 0, hj => by obtain rfl : _ = f := Option.some.inj hj; exact ⟨_, hs137, tf_u1 hn2⟩ | 1, hj => by obtain rfl : _ = f := Option.some.inj hj; exact ⟨_, hs138, tf_u1 hn6⟩ | 2, hj => by obtain rfl : _ = f := Option.some.inj hj; exact ⟨_, hs139, tf_u1 hn13⟩ | 3, hj => by obtain rfl : _ = f := Option.some.inj hj; exact ⟨_, hs140, tf_u1 had19⟩ | 4, hj => by obtain rfl : _ = f := Option.some.inj hj; exact ⟨_, hs141, tf_u1 had43⟩ | 5, hj => by obtain rfl : _ = f := Option.some.inj hj; exact ⟨_, hs142, tf_u1 had53⟩ | 6, hj => by obtain rfl : _ = f := Option.some.inj hj; exact ⟨_, hs143, tf_u1 had65⟩ | 7, hj => by obtain rfl : _ = f := Option.some.inj hj; exact ⟨_, hs144, tf_u1 had79⟩ | 8, hj => by obtain rfl : _ = f := Option.some.inj hj; exact ⟨_, hs145, tf_u0 (by omega) (by omega)⟩ | 9, hj => by obtain rfl : _ = f := Option.some.inj hj; exact ⟨_, hs146, tf_u0 (by omega) (by omega)⟩ | 10, hj => by obtain rfl : _ = f := Option.some.inj hj; exact ⟨_, hs147, tf_u1 had114⟩ | 11, hj => by obtain rfl : _ = f := Option.some.inj hj; exact ⟨_, hs136, tf_u0 (by omega) (by omega)⟩ | (j + 12), hj => by cases hj) dX3_init_117

abbrev M_X7_init : List (Nat × Nat) := [(71, 0), (71, 1), (71, 2), (71, 3), (71, 4), (71, 5)]
set_option maxHeartbeats 4000000 in
set_option maxRecDepth 100000 in
theorem c_X7_init (l : Launch) (g : tf_G) (T : tf_T) (a0 : Nat) (ha0 : T a0 = some (71, 0)) : Met l yX7_init (cd_X7_init :: wsL_law) ({ frames := 1, cells := 5, slots := 2221, locals := 40 }) (tf_P g T [.ref a0] (fun H => True)) (tf_QC g M_X7_init T a0 37) 5 2221 (fun q => tf_B g ≤ q) := by
  refine Met.ofW (cc := cX7_init) (maxL := 1) (ret := none) (by decide) rfl ?_
  intro p e s m args below meth c s₁ B hml hv
  obtain ⟨hargs, hk, hW0, hB, hpre⟩ := hv
  have hx := B.exec
  have hb := B.bytes
  have hr := B.returns
  have hts : ∀ w ∈ wsL_law, w.before args s = true := fun w h => atoms_spec (ws := cd_X7_init :: wsL_law) B.pre w (List.mem_cons_of_mem _ h)
  have hown : s.vm.findClass RX7 = some m.cls := findClass_of_methodNamed B.named
  have hlocks := B.notSynchronized
  have hK := hk.1
  have hW := tf_n.start (M := M_X7_init) hW0 hB
  obtain ⟨Q, hQ⟩ : ∃ q, q = MQ below (tf_QC g M_X7_init T a0 37) args s 5 2221 (fun q => tf_B g ≤ q) := ⟨_, rfl⟩
  rw [← hQ]
  obtain ⟨R, hR⟩ : ∃ q, q = (headSpec (cd_X7_init :: wsL_law) ({ frames := 1, cells := 5, slots := 2221, locals := 40 })).room := ⟨_, rfl⟩
  rw [← hR]
  have hR1 : 1 ≤ R.frames := by rw [hR]; exact Nat.le_refl _
  have hR2 : 40 ≤ R.locals := by rw [hR]; exact Nat.le_refl _
  have hR3 : 5 ≤ R.cells := by rw [hR]; exact Nat.le_refl _
  have hR4 : 2221 ≤ R.slots := by rw [hR]; exact Nat.le_refl _
  have hin := (name_of_methodNamed B.named B.method).1
  clear hR B
  refine tf_enter (As := [.ref a0]) hargs (Nat.le_of_ble_eq_true rfl) (fun ls hl => ?_)
  have hl : lv_has ls 1 [(0, .ref a0)] := hl
  refine lv_aload_n hx hb dX7_init_0 rfl (lv_at hl 0 rfl) ?_
  refine W.objInit hx hb hown (hts _ (tw4 (i := 17) rfl)) (hts _ (tw1 (i := 10) rfl)) (hts _ (tw1 (i := 11) rfl)) rfl (by rw [hml]; exact hl.1) rfl dX7_init_1 (Nat.le_trans (by decide) hR1) (Nat.le_trans (by exact Nat.le_of_ble_eq_true rfl) hR2) ?_
  refine W.eq (g2 := F0 m 4 ls []) rfl ?_
  refine lv_aload_n hx hb dX7_init_4 rfl (lv_at hl 0 rfl) ?_
  refine tf_bipush hx hb dX7_init_5 (by decide) ?_
  refine tf_newarr (atype := .int) (ty := .int) (f := (0, 0, 0, -2147483648, 2147483647)) (t0 := 0) (k := 0) (N := 9) hx hb (hts _ (tw2 (i := 5) rfl)) hK rfl rfl rfl (fun h => h) (tf_d0 (by decide) (by decide)) hW (by omega) rfl (by decide) (by decide) (Nat.le_trans (by omega) hR3) (Nat.le_trans (by omega) hR4) dX7_init_7 (fun ad1 H1 T hq1 hT1 had1 hE1 hW ho1 => ?_)
  have ha0 := hE1 _ _ ha0
  refine tf_putF hx hb hts inlX7 tyX7 tyX7_ok nmX7 hown hK (ci := 7) rfl hW ha0 rfl rfl 0 rfl (by decide) (by decide) (hts _ fl_X7_9) rfl hin rfl trivial rfl rfl dX7_init_9 (fun H2 locs2 hW hs2 ht2 hq2 => ?_)
  refine lv_aload_n hx hb dX7_init_12 rfl (lv_at hl 0 rfl) ?_
  refine tf_bipush hx hb dX7_init_13 (by decide) ?_
  refine tf_newarr (atype := .int) (ty := .int) (f := (0, 0, 0, -2147483648, 2147483647)) (t0 := 0) (k := 0) (N := 100) hx hb (hts _ (tw2 (i := 5) rfl)) hK rfl rfl rfl (fun h => h) (tf_d0 (by decide) (by decide)) hW (by omega) rfl (by decide) (by decide) (Nat.le_trans (by omega) hR3) (Nat.le_trans (by omega) hR4) dX7_init_15 (fun ad3 H3 T hq3 hT3 had3 hE3 hW ho3 => ?_)
  have hs4 := tf_keepQ hs2 (ho3 _ _ ha0)
  have ha0 := hE3 _ _ ha0
  have had1 := hE3 _ _ had1
  refine tf_putF hx hb hts inlX7 tyX7 tyX7_ok nmX7 hown hK (ci := 7) rfl hW ha0 rfl rfl 1 rfl (by decide) (by decide) (hts _ fl_X7_15) rfl hin rfl trivial rfl rfl dX7_init_17 (fun H5 locs5 hW hs5 ht5 hq5 => ?_)
  have hs6 := (ht5 0 (by decide) (by decide)).trans hs4
  refine lv_aload_n hx hb dX7_init_20 rfl (lv_at hl 0 rfl) ?_
  refine tf_bipush hx hb dX7_init_21 (by decide) ?_
  refine tf_newarr (atype := .int) (ty := .int) (f := (0, 0, 0, -2147483648, 2147483647)) (t0 := 0) (k := 0) (N := 64) hx hb (hts _ (tw2 (i := 5) rfl)) hK rfl rfl rfl (fun h => h) (tf_d0 (by decide) (by decide)) hW (by omega) rfl (by decide) (by decide) (Nat.le_trans (by omega) hR3) (Nat.le_trans (by omega) hR4) dX7_init_23 (fun ad7 H7 T hq7 hT7 had7 hE7 hW ho7 => ?_)
  have hs8 := tf_keepQ hs6 (ho7 _ _ ha0)
  have hs9 := tf_keepQ hs5 (ho7 _ _ ha0)
  have ha0 := hE7 _ _ ha0
  have had1 := hE7 _ _ had1
  have had3 := hE7 _ _ had3
  refine tf_putF hx hb hts inlX7 tyX7 tyX7_ok nmX7 hown hK (ci := 7) rfl hW ha0 rfl rfl 2 rfl (by decide) (by decide) (hts _ fl_X7_18) rfl hin rfl trivial rfl rfl dX7_init_25 (fun H10 locs10 hW hs10 ht10 hq10 => ?_)
  have hs11 := (ht10 0 (by decide) (by decide)).trans hs8
  have hs12 := (ht10 1 (by decide) (by decide)).trans hs9
  refine lv_aload_n hx hb dX7_init_28 rfl (lv_at hl 0 rfl) ?_
  refine tf_sipush hx hb dX7_init_29 (by decide) ?_
  refine tf_newarr (atype := .long) (ty := .long) (f := (5, 0, 0, -9223372036854775808, 9223372036854775807)) (t0 := 1) (k := 4) (N := 1024) hx hb (hts _ (tw4 (i := 21) rfl)) hK rfl rfl rfl (fun h => h) (tf_d5 (by decide) (by decide)) hW (by omega) rfl (by decide) (by decide) (Nat.le_trans (by omega) hR3) (Nat.le_trans (by omega) hR4) dX7_init_32 (fun ad13 H13 T hq13 hT13 had13 hE13 hW ho13 => ?_)
  have hs14 := tf_keepQ hs11 (ho13 _ _ ha0)
  have hs15 := tf_keepQ hs12 (ho13 _ _ ha0)
  have hs16 := tf_keepQ hs10 (ho13 _ _ ha0)
  have ha0 := hE13 _ _ ha0
  have had1 := hE13 _ _ had1
  have had3 := hE13 _ _ had3
  have had7 := hE13 _ _ had7
  refine tf_putF hx hb hts inlX7 tyX7 tyX7_ok nmX7 hown hK (ci := 7) rfl hW ha0 rfl rfl 3 rfl (by decide) (by decide) (hts _ fl_X7_21) rfl hin rfl trivial rfl rfl dX7_init_34 (fun H17 locs17 hW hs17 ht17 hq17 => ?_)
  have hs18 := (ht17 0 (by decide) (by decide)).trans hs14
  have hs19 := (ht17 1 (by decide) (by decide)).trans hs15
  have hs20 := (ht17 2 (by decide) (by decide)).trans hs16
  refine lv_aload_n hx hb dX7_init_37 rfl (lv_at hl 0 rfl) ?_
  refine tf_sipush hx hb dX7_init_38 (by decide) ?_
  refine tf_newarr (atype := .int) (ty := .int) (f := (0, 0, 0, -2147483648, 2147483647)) (t0 := 0) (k := 0) (N := 1024) hx hb (hts _ (tw2 (i := 5) rfl)) hK rfl rfl rfl (fun h => h) (tf_d0 (by decide) (by decide)) hW (by omega) rfl (by decide) (by decide) (Nat.le_trans (by omega) hR3) (Nat.le_trans (by omega) hR4) dX7_init_41 (fun ad21 H21 T hq21 hT21 had21 hE21 hW ho21 => ?_)
  have hs22 := tf_keepQ hs18 (ho21 _ _ ha0)
  have hs23 := tf_keepQ hs19 (ho21 _ _ ha0)
  have hs24 := tf_keepQ hs20 (ho21 _ _ ha0)
  have hs25 := tf_keepQ hs17 (ho21 _ _ ha0)
  have ha0 := hE21 _ _ ha0
  have had1 := hE21 _ _ had1
  have had3 := hE21 _ _ had3
  have had7 := hE21 _ _ had7
  have had13 := hE21 _ _ had13
  refine tf_putF hx hb hts inlX7 tyX7 tyX7_ok nmX7 hown hK (ci := 7) rfl hW ha0 rfl rfl 4 rfl (by decide) (by decide) (hts _ fl_X7_25) rfl hin rfl trivial rfl rfl dX7_init_43 (fun H26 locs26 hW hs26 ht26 hq26 => ?_)
  have hs27 := (ht26 0 (by decide) (by decide)).trans hs22
  have hs28 := (ht26 1 (by decide) (by decide)).trans hs23
  have hs29 := (ht26 2 (by decide) (by decide)).trans hs24
  have hs30 := (ht26 3 (by decide) (by decide)).trans hs25
  refine lv_aload_n hx hb dX7_init_46 rfl (lv_at hl 0 rfl) ?_
  refine lv_null hx hb dX7_init_47 ?_
  refine tf_put hx hb hts inlX7 tyX7 tyX7_ok nmX7 hown hK (ci := 7) rfl hW ha0 rfl rfl 5 rfl (by decide) (by decide) (hts _ fl_X7_28) rfl trivial rfl rfl dX7_init_48 (fun H31 locs31 hW hs31 ht31 hq31 => ?_)
  have hs32 := (ht31 0 (by decide) (by decide)).trans hs27
  have hs33 := (ht31 1 (by decide) (by decide)).trans hs28
  have hs34 := (ht31 2 (by decide) (by decide)).trans hs29
  have hs35 := (ht31 3 (by decide) (by decide)).trans hs30
  have hs36 := (ht31 4 (by decide) (by decide)).trans hs26
  refine W.widen (k := 5) (n := 2221) (by omega) (by omega) ?_
  exact tf_retC (ci := 7) hx hb hr hlocks hQ hW ha0 rfl (by decide) rfl (fun j f hj => match j, hj with | 0, hj => by obtain rfl : _ = f := Option.some.inj hj; exact ⟨_, hs32, tf_u1 had1⟩ | 1, hj => by obtain rfl : _ = f := Option.some.inj hj; exact ⟨_, hs33, tf_u1 had3⟩ | 2, hj => by obtain rfl : _ = f := Option.some.inj hj; exact ⟨_, hs34, tf_u1 had7⟩ | 3, hj => by obtain rfl : _ = f := Option.some.inj hj; exact ⟨_, hs35, tf_u1 had13⟩ | 4, hj => by obtain rfl : _ = f := Option.some.inj hj; exact ⟨_, hs36, tf_u1 had21⟩ | 5, hj => by obtain rfl : _ = f := Option.some.inj hj; exact ⟨_, hs31, tf_u2n⟩ | (j + 6), hj => by cases hj) dX7_init_51

abbrev M_X6_init : List (Nat × Nat) := [(64, 0), (64, 1), (64, 2), (64, 3), (70, 0), (70, 1), (70, 2), (70, 3), (70, 4), (70, 5), (70, 6), (70, 7), (70, 8), (70, 9), (70, 10)]
set_option maxHeartbeats 4000000 in
set_option maxRecDepth 100000 in
theorem c_X6_init (l : Launch) (g : tf_G) (T : tf_T) (a0 : Nat) (ha0 : T a0 = some (70, 0)) : Met l yX6_init (cd_X6_init :: wsL_law) ({ frames := 2, cells := 6, slots := 1092, locals := 60 }) (tf_P g T [.ref a0] (fun H => True)) (tf_QC g M_X6_init T a0 36) 6 1092 (fun q => tf_B g ≤ q) := by
  refine Met.ofW (cc := cX6_init) (maxL := 1) (ret := none) (by decide) rfl ?_
  intro p e s m args below meth c s₁ B hml hv
  obtain ⟨hargs, hk, hW0, hB, hpre⟩ := hv
  have hx := B.exec
  have hb := B.bytes
  have hr := B.returns
  have hts : ∀ w ∈ wsL_law, w.before args s = true := fun w h => atoms_spec (ws := cd_X6_init :: wsL_law) B.pre w (List.mem_cons_of_mem _ h)
  have hown : s.vm.findClass RX6 = some m.cls := findClass_of_methodNamed B.named
  have hlocks := B.notSynchronized
  have hK := hk.1
  have hW := tf_n.start (M := M_X6_init) hW0 hB
  obtain ⟨Q, hQ⟩ : ∃ q, q = MQ below (tf_QC g M_X6_init T a0 36) args s 6 1092 (fun q => tf_B g ≤ q) := ⟨_, rfl⟩
  rw [← hQ]
  obtain ⟨R, hR⟩ : ∃ q, q = (headSpec (cd_X6_init :: wsL_law) ({ frames := 2, cells := 6, slots := 1092, locals := 60 })).room := ⟨_, rfl⟩
  rw [← hR]
  have hR1 : 2 ≤ R.frames := by rw [hR]; exact Nat.le_refl _
  have hR2 : 60 ≤ R.locals := by rw [hR]; exact Nat.le_refl _
  have hR3 : 6 ≤ R.cells := by rw [hR]; exact Nat.le_refl _
  have hR4 : 1092 ≤ R.slots := by rw [hR]; exact Nat.le_refl _
  have hin := (name_of_methodNamed B.named B.method).1
  clear hR B
  refine tf_enter (As := [.ref a0]) hargs (Nat.le_of_ble_eq_true rfl) (fun ls hl => ?_)
  have hl : lv_has ls 1 [(0, .ref a0)] := hl
  refine lv_aload_n hx hb dX6_init_0 rfl (lv_at hl 0 rfl) ?_
  refine W.objInit hx hb hown (hts _ (tw5 (i := 3) rfl)) (hts _ (tw1 (i := 10) rfl)) (hts _ (tw1 (i := 11) rfl)) rfl (by rw [hml]; exact hl.1) rfl dX6_init_1 (Nat.le_trans (by decide) hR1) (Nat.le_trans (by exact Nat.le_of_ble_eq_true rfl) hR2) ?_
  refine W.eq (g2 := F0 m 4 ls []) rfl ?_
  refine lv_aload_n hx hb dX6_init_4 rfl (lv_at hl 0 rfl) ?_
  have hsz1 := hW.2.2.1.1
  refine tf_new (kr := 64) hx hb hts inlX0 tyX0 tyX0_ok hown (hts _ (tw5 (i := 4) rfl)) (hts _ (tw2 (i := 19) rfl)) (hts _ (tw2 (i := 20) rfl)) hK (ci := 0) rfl hW rfl ⟨rfl, by decide⟩ (Nat.le_trans (by omega) hR3) (Nat.le_trans (by omega) hR4) dX6_init_5 (fun ad1 H1 T hq1 hT1 had1 hE1 hW ho1 => ?_)
  have hsz1 := Nat.le_trans hsz1 (Nat.le_of_eq hq1)
  have ha0 := hE1 _ _ ha0
  refine lv_dup hx hb dX6_init_8 rfl ?_
  refine tf_callC (va_runIN (As := []) (rest := [.ref ad1, .ref a0]) ⟨hx, hb, hml, hown, hts⟩ (c_X0_init l g T ad1 had1) ⟨va_cnB 0 hts (gw_ws cm_X0_init) rfl rfl rfl (hk.2.1 _ nw_6) (hts _ (tw2 (i := 20) rfl)) hd_X0_init.2 ⟨Nat.le_trans (by decide) hR1, Nat.le_trans (by decide) hR2⟩, rfl, hts _ (tw3 (i := 16) rfl)⟩ (tf_preS hk hW trivial) rfl rfl hl.1 rfl (lv_room (Nat.le_of_ble_eq_true rfl)) dX6_init_9 ⟨Nat.le_trans (by omega) hR3, Nat.le_trans (by omega) hR4⟩) hW (by decide) (tf_fresh hW0 hsz1) hsz1 had1 (fun H2 locs2 T hW hn2 hE2 hF2 => ?_)
  have ha0 := hE2 _ _ (tf_ne ha0 had1 (by decide)) ha0
  refine tf_putF hx hb hts inlX6 tyX6 tyX6_ok nmX6 hown hK (ci := 6) rfl hW ha0 rfl rfl 0 rfl (by decide) (by decide) (hts _ fl_X6_12) rfl hin rfl trivial rfl rfl dX6_init_12 (fun H3 locs3 hW hs3 ht3 hq3 => ?_)
  refine lv_aload_n hx hb dX6_init_15 rfl (lv_at hl 0 rfl) ?_
  refine tf_bipush hx hb dX6_init_16 (by decide) ?_
  refine tf_newarr (atype := .int) (ty := .int) (f := (0, 0, 0, -2147483648, 2147483647)) (t0 := 0) (k := 0) (N := 64) hx hb (hts _ (tw2 (i := 5) rfl)) hK rfl rfl rfl (fun h => h) (tf_d0 (by decide) (by decide)) hW (by omega) rfl (by decide) (by decide) (Nat.le_trans (by omega) hR3) (Nat.le_trans (by omega) hR4) dX6_init_18 (fun ad4 H4 T hq4 hT4 had4 hE4 hW ho4 => ?_)
  have hs5 := tf_keepQ hs3 (ho4 _ _ ha0)
  have ha0 := hE4 _ _ ha0
  have hn2 := hE4 _ _ hn2
  refine tf_putF hx hb hts inlX6 tyX6 tyX6_ok nmX6 hown hK (ci := 6) rfl hW ha0 rfl rfl 1 rfl (by decide) (by decide) (hts _ fl_X6_18) rfl hin rfl trivial rfl rfl dX6_init_20 (fun H6 locs6 hW hs6 ht6 hq6 => ?_)
  have hs7 := (ht6 0 (by decide) (by decide)).trans hs5
  refine lv_aload_n hx hb dX6_init_23 rfl (lv_at hl 0 rfl) ?_
  refine tf_iconst hx hb dX6_init_24 ?_
  refine tf_put hx hb hts inlX6 tyX6 tyX6_ok nmX6 hown hK (ci := 6) rfl hW ha0 rfl rfl 2 rfl (by decide) (by decide) (hts _ fl_X6_22) rfl trivial (tf_narZ (by omega)) (tf_fitZ (by omega)) dX6_init_25 (fun H8 locs8 hW hs8 ht8 hq8 => ?_)
  have hs9 := (ht8 0 (by decide) (by decide)).trans hs7
  have hs10 := (ht8 1 (by decide) (by decide)).trans hs6
  refine lv_aload_n hx hb dX6_init_28 rfl (lv_at hl 0 rfl) ?_
  refine tf_iconst hx hb dX6_init_29 ?_
  refine tf_put hx hb hts inlX6 tyX6 tyX6_ok nmX6 hown hK (ci := 6) rfl hW ha0 rfl rfl 3 rfl (by decide) (by decide) (hts _ fl_X6_26) rfl trivial rfl rfl dX6_init_30 (fun H11 locs11 hW hs11 ht11 hq11 => ?_)
  have hs12 := (ht11 0 (by decide) (by decide)).trans hs9
  have hs13 := (ht11 1 (by decide) (by decide)).trans hs10
  have hs14 := (ht11 2 (by decide) (by decide)).trans hs8
  refine lv_aload_n hx hb dX6_init_33 rfl (lv_at hl 0 rfl) ?_
  refine tf_iconst hx hb dX6_init_34 ?_
  refine tf_put hx hb hts inlX6 tyX6 tyX6_ok nmX6 hown hK (ci := 6) rfl hW ha0 rfl rfl 4 rfl (by decide) (by decide) (hts _ fl_X6_30) rfl trivial rfl rfl dX6_init_35 (fun H15 locs15 hW hs15 ht15 hq15 => ?_)
  have hs16 := (ht15 0 (by decide) (by decide)).trans hs12
  have hs17 := (ht15 1 (by decide) (by decide)).trans hs13
  have hs18 := (ht15 2 (by decide) (by decide)).trans hs14
  have hs19 := (ht15 3 (by decide) (by decide)).trans hs11
  refine lv_aload_n hx hb dX6_init_38 rfl (lv_at hl 0 rfl) ?_
  refine tf_iconst hx hb dX6_init_39 ?_
  refine tf_put hx hb hts inlX6 tyX6 tyX6_ok nmX6 hown hK (ci := 6) rfl hW ha0 rfl rfl 5 rfl (by decide) (by decide) (hts _ fl_X6_33) rfl trivial rfl rfl dX6_init_40 (fun H20 locs20 hW hs20 ht20 hq20 => ?_)
  have hs21 := (ht20 0 (by decide) (by decide)).trans hs16
  have hs22 := (ht20 1 (by decide) (by decide)).trans hs17
  have hs23 := (ht20 2 (by decide) (by decide)).trans hs18
  have hs24 := (ht20 3 (by decide) (by decide)).trans hs19
  have hs25 := (ht20 4 (by decide) (by decide)).trans hs15
  refine lv_aload_n hx hb dX6_init_43 rfl (lv_at hl 0 rfl) ?_
  refine tf_iconst hx hb dX6_init_44 ?_
  refine tf_put hx hb hts inlX6 tyX6 tyX6_ok nmX6 hown hK (ci := 6) rfl hW ha0 rfl rfl 6 rfl (by decide) (by decide) (hts _ fl_X6_36) rfl trivial (tf_narZ (by omega)) (tf_fitZ (by omega)) dX6_init_45 (fun H26 locs26 hW hs26 ht26 hq26 => ?_)
  have hs27 := (ht26 0 (by decide) (by decide)).trans hs21
  have hs28 := (ht26 1 (by decide) (by decide)).trans hs22
  have hs29 := (ht26 2 (by decide) (by decide)).trans hs23
  have hs30 := (ht26 3 (by decide) (by decide)).trans hs24
  have hs31 := (ht26 4 (by decide) (by decide)).trans hs25
  have hs32 := (ht26 5 (by decide) (by decide)).trans hs20
  refine lv_aload_n hx hb dX6_init_48 rfl (lv_at hl 0 rfl) ?_
  refine tf_iconst hx hb dX6_init_49 ?_
  refine tf_put hx hb hts inlX6 tyX6 tyX6_ok nmX6 hown hK (ci := 6) rfl hW ha0 rfl rfl 7 rfl (by decide) (by decide) (hts _ fl_X6_39) rfl trivial rfl rfl dX6_init_50 (fun H33 locs33 hW hs33 ht33 hq33 => ?_)
  have hs34 := (ht33 0 (by decide) (by decide)).trans hs27
  have hs35 := (ht33 1 (by decide) (by decide)).trans hs28
  have hs36 := (ht33 2 (by decide) (by decide)).trans hs29
  have hs37 := (ht33 3 (by decide) (by decide)).trans hs30
  have hs38 := (ht33 4 (by decide) (by decide)).trans hs31
  have hs39 := (ht33 5 (by decide) (by decide)).trans hs32
  have hs40 := (ht33 6 (by decide) (by decide)).trans hs26
  refine lv_aload_n hx hb dX6_init_53 rfl (lv_at hl 0 rfl) ?_
  refine tf_iconst hx hb dX6_init_54 ?_
  refine tf_put hx hb hts inlX6 tyX6 tyX6_ok nmX6 hown hK (ci := 6) rfl hW ha0 rfl rfl 8 rfl (by decide) (by decide) (hts _ fl_X6_42) rfl trivial rfl rfl dX6_init_55 (fun H41 locs41 hW hs41 ht41 hq41 => ?_)
  have hs42 := (ht41 0 (by decide) (by decide)).trans hs34
  have hs43 := (ht41 1 (by decide) (by decide)).trans hs35
  have hs44 := (ht41 2 (by decide) (by decide)).trans hs36
  have hs45 := (ht41 3 (by decide) (by decide)).trans hs37
  have hs46 := (ht41 4 (by decide) (by decide)).trans hs38
  have hs47 := (ht41 5 (by decide) (by decide)).trans hs39
  have hs48 := (ht41 6 (by decide) (by decide)).trans hs40
  have hs49 := (ht41 7 (by decide) (by decide)).trans hs33
  refine lv_aload_n hx hb dX6_init_58 rfl (lv_at hl 0 rfl) ?_
  refine tf_iconst hx hb dX6_init_59 ?_
  refine tf_put hx hb hts inlX6 tyX6 tyX6_ok nmX6 hown hK (ci := 6) rfl hW ha0 rfl rfl 9 rfl (by decide) (by decide) (hts _ fl_X6_45) rfl trivial rfl rfl dX6_init_60 (fun H50 locs50 hW hs50 ht50 hq50 => ?_)
  have hs51 := (ht50 0 (by decide) (by decide)).trans hs42
  have hs52 := (ht50 1 (by decide) (by decide)).trans hs43
  have hs53 := (ht50 2 (by decide) (by decide)).trans hs44
  have hs54 := (ht50 3 (by decide) (by decide)).trans hs45
  have hs55 := (ht50 4 (by decide) (by decide)).trans hs46
  have hs56 := (ht50 5 (by decide) (by decide)).trans hs47
  have hs57 := (ht50 6 (by decide) (by decide)).trans hs48
  have hs58 := (ht50 7 (by decide) (by decide)).trans hs49
  have hs59 := (ht50 8 (by decide) (by decide)).trans hs41
  refine lv_aload_n hx hb dX6_init_63 rfl (lv_at hl 0 rfl) ?_
  refine tf_iconst hx hb dX6_init_64 ?_
  refine tf_put hx hb hts inlX6 tyX6 tyX6_ok nmX6 hown hK (ci := 6) rfl hW ha0 rfl rfl 10 rfl (by decide) (by decide) (hts _ fl_X6_48) rfl trivial rfl rfl dX6_init_65 (fun H60 locs60 hW hs60 ht60 hq60 => ?_)
  have hs61 := (ht60 0 (by decide) (by decide)).trans hs51
  have hs62 := (ht60 1 (by decide) (by decide)).trans hs52
  have hs63 := (ht60 2 (by decide) (by decide)).trans hs53
  have hs64 := (ht60 3 (by decide) (by decide)).trans hs54
  have hs65 := (ht60 4 (by decide) (by decide)).trans hs55
  have hs66 := (ht60 5 (by decide) (by decide)).trans hs56
  have hs67 := (ht60 6 (by decide) (by decide)).trans hs57
  have hs68 := (ht60 7 (by decide) (by decide)).trans hs58
  have hs69 := (ht60 8 (by decide) (by decide)).trans hs59
  have hs70 := (ht60 9 (by decide) (by decide)).trans hs50
  refine W.widen (k := 6) (n := 1092) (by omega) (by omega) ?_
  exact tf_retC (ci := 6) hx hb hr hlocks hQ hW ha0 rfl (by decide) rfl (fun j f hj => match j, hj with | 0, hj => by obtain rfl : _ = f := Option.some.inj hj; exact ⟨_, hs61, tf_u1 hn2⟩ | 1, hj => by obtain rfl : _ = f := Option.some.inj hj; exact ⟨_, hs62, tf_u1 had4⟩ | 2, hj => by obtain rfl : _ = f := Option.some.inj hj; exact ⟨_, hs63, tf_u0 (by omega) (by omega)⟩ | 3, hj => by obtain rfl : _ = f := Option.some.inj hj; exact ⟨_, hs64, tf_u0 (by omega) (by omega)⟩ | 4, hj => by obtain rfl : _ = f := Option.some.inj hj; exact ⟨_, hs65, tf_u0 (by omega) (by omega)⟩ | 5, hj => by obtain rfl : _ = f := Option.some.inj hj; exact ⟨_, hs66, tf_u0 (by omega) (by omega)⟩ | 6, hj => by obtain rfl : _ = f := Option.some.inj hj; exact ⟨_, hs67, tf_u0 (by omega) (by omega)⟩ | 7, hj => by obtain rfl : _ = f := Option.some.inj hj; exact ⟨_, hs68, tf_u0 (by omega) (by omega)⟩ | 8, hj => by obtain rfl : _ = f := Option.some.inj hj; exact ⟨_, hs69, tf_u0 (by omega) (by omega)⟩ | 9, hj => by obtain rfl : _ = f := Option.some.inj hj; exact ⟨_, hs70, tf_u0 (by omega) (by omega)⟩ | 10, hj => by obtain rfl : _ = f := Option.some.inj hj; exact ⟨_, hs60, tf_u0 (by omega) (by omega)⟩ | (j + 11), hj => by cases hj) dX6_init_68

abbrev M_X4_init : List (Nat × Nat) := [(68, 0), (68, 1), (68, 2), (68, 3), (68, 4)]
set_option maxHeartbeats 4000000 in
set_option maxRecDepth 100000 in
theorem c_X4_init (l : Launch) (g : tf_G) (T : tf_T) (a0 : Nat) (ha0 : T a0 = some (68, 0)) : Met l yX4_init (cd_X4_init :: wsL_law) ({ frames := 1, cells := 3, slots := 802, locals := 40 }) (tf_P g T [.ref a0] (fun H => True)) (tf_QC g M_X4_init T a0 34) 3 802 (fun q => tf_B g ≤ q) := by
  refine Met.ofW (cc := cX4_init) (maxL := 1) (ret := none) (by decide) rfl ?_
  intro p e s m args below meth c s₁ B hml hv
  obtain ⟨hargs, hk, hW0, hB, hpre⟩ := hv
  have hx := B.exec
  have hb := B.bytes
  have hr := B.returns
  have hts : ∀ w ∈ wsL_law, w.before args s = true := fun w h => atoms_spec (ws := cd_X4_init :: wsL_law) B.pre w (List.mem_cons_of_mem _ h)
  have hown : s.vm.findClass RX4 = some m.cls := findClass_of_methodNamed B.named
  have hlocks := B.notSynchronized
  have hK := hk.1
  have hW := tf_n.start (M := M_X4_init) hW0 hB
  obtain ⟨Q, hQ⟩ : ∃ q, q = MQ below (tf_QC g M_X4_init T a0 34) args s 3 802 (fun q => tf_B g ≤ q) := ⟨_, rfl⟩
  rw [← hQ]
  obtain ⟨R, hR⟩ : ∃ q, q = (headSpec (cd_X4_init :: wsL_law) ({ frames := 1, cells := 3, slots := 802, locals := 40 })).room := ⟨_, rfl⟩
  rw [← hR]
  have hR1 : 1 ≤ R.frames := by rw [hR]; exact Nat.le_refl _
  have hR2 : 40 ≤ R.locals := by rw [hR]; exact Nat.le_refl _
  have hR3 : 3 ≤ R.cells := by rw [hR]; exact Nat.le_refl _
  have hR4 : 802 ≤ R.slots := by rw [hR]; exact Nat.le_refl _
  have hin := (name_of_methodNamed B.named B.method).1
  clear hR B
  refine tf_enter (As := [.ref a0]) hargs (Nat.le_of_ble_eq_true rfl) (fun ls hl => ?_)
  have hl : lv_has ls 1 [(0, .ref a0)] := hl
  refine lv_aload_n hx hb dX4_init_0 rfl (lv_at hl 0 rfl) ?_
  refine W.objInit hx hb hown (hts _ (tw6 (i := 8) rfl)) (hts _ (tw1 (i := 10) rfl)) (hts _ (tw1 (i := 11) rfl)) rfl (by rw [hml]; exact hl.1) rfl dX4_init_1 (Nat.le_trans (by decide) hR1) (Nat.le_trans (by exact Nat.le_of_ble_eq_true rfl) hR2) ?_
  refine W.eq (g2 := F0 m 4 ls []) rfl ?_
  refine lv_aload_n hx hb dX4_init_4 rfl (lv_at hl 0 rfl) ?_
  refine tf_sipush hx hb dX4_init_5 (by decide) ?_
  refine tf_newarr (atype := .int) (ty := .int) (f := (0, 0, 0, -2147483648, 2147483647)) (t0 := 0) (k := 24) (N := 401) hx hb (hts _ (tw2 (i := 5) rfl)) hK rfl rfl rfl (fun h => h) (tf_d0 (by decide) (by decide)) hW (by omega) rfl (by decide) (by decide) (Nat.le_trans (by omega) hR3) (Nat.le_trans (by omega) hR4) dX4_init_8 (fun ad1 H1 T hq1 hT1 had1 hE1 hW ho1 => ?_)
  have ha0 := hE1 _ _ ha0
  refine tf_putF hx hb hts inlX4 tyX4 tyX4_ok nmX4 hown hK (ci := 4) rfl hW ha0 rfl rfl 0 rfl (by decide) (by decide) (hts _ fl_X4_9) rfl hin rfl trivial rfl rfl dX4_init_10 (fun H2 locs2 hW hs2 ht2 hq2 => ?_)
  refine lv_aload_n hx hb dX4_init_13 rfl (lv_at hl 0 rfl) ?_
  refine tf_sipush hx hb dX4_init_14 (by decide) ?_
  refine tf_newarr (atype := .int) (ty := .int) (f := (0, 0, 0, -2147483648, 2147483647)) (t0 := 0) (k := 25) (N := 401) hx hb (hts _ (tw2 (i := 5) rfl)) hK rfl rfl rfl (fun h => h) (tf_d0 (by decide) (by decide)) hW (by omega) rfl (by decide) (by decide) (Nat.le_trans (by omega) hR3) (Nat.le_trans (by omega) hR4) dX4_init_17 (fun ad3 H3 T hq3 hT3 had3 hE3 hW ho3 => ?_)
  have hs4 := tf_keepQ hs2 (ho3 _ _ ha0)
  have ha0 := hE3 _ _ ha0
  have had1 := hE3 _ _ had1
  refine tf_putF hx hb hts inlX4 tyX4 tyX4_ok nmX4 hown hK (ci := 4) rfl hW ha0 rfl rfl 1 rfl (by decide) (by decide) (hts _ fl_X4_15) rfl hin rfl trivial rfl rfl dX4_init_19 (fun H5 locs5 hW hs5 ht5 hq5 => ?_)
  have hs6 := (ht5 0 (by decide) (by decide)).trans hs4
  refine lv_aload_n hx hb dX4_init_22 rfl (lv_at hl 0 rfl) ?_
  refine tf_iconst hx hb dX4_init_23 ?_
  refine tf_put hx hb hts inlX4 tyX4 tyX4_ok nmX4 hown hK (ci := 4) rfl hW ha0 rfl rfl 2 rfl (by decide) (by decide) (hts _ fl_X4_18) rfl trivial rfl rfl dX4_init_24 (fun H7 locs7 hW hs7 ht7 hq7 => ?_)
  have hs8 := (ht7 0 (by decide) (by decide)).trans hs6
  have hs9 := (ht7 1 (by decide) (by decide)).trans hs5
  refine lv_aload_n hx hb dX4_init_27 rfl (lv_at hl 0 rfl) ?_
  refine tf_iconst hx hb dX4_init_28 ?_
  refine tf_newarr (atype := .int) (ty := .int) (f := (0, 0, 0, 0, 255)) (t0 := 0) (k := 3) (N := 0) hx hb (hts _ (tw2 (i := 5) rfl)) hK rfl rfl rfl (fun h => h) (tf_d0 (by decide) (by decide)) hW (by omega) rfl (by decide) (by decide) (Nat.le_trans (by omega) hR3) (Nat.le_trans (by omega) hR4) dX4_init_29 (fun ad10 H10 T hq10 hT10 had10 hE10 hW ho10 => ?_)
  have hs11 := tf_keepQ hs8 (ho10 _ _ ha0)
  have hs12 := tf_keepQ hs9 (ho10 _ _ ha0)
  have hs13 := tf_keepQ hs7 (ho10 _ _ ha0)
  have ha0 := hE10 _ _ ha0
  have had1 := hE10 _ _ had1
  have had3 := hE10 _ _ had3
  refine tf_put hx hb hts inlX4 tyX4 tyX4_ok nmX4 hown hK (ci := 4) rfl hW ha0 rfl rfl 3 rfl (by decide) (by decide) (hts _ fl_X4_22) rfl trivial rfl rfl dX4_init_31 (fun H14 locs14 hW hs14 ht14 hq14 => ?_)
  have hs15 := (ht14 0 (by decide) (by decide)).trans hs11
  have hs16 := (ht14 1 (by decide) (by decide)).trans hs12
  have hs17 := (ht14 2 (by decide) (by decide)).trans hs13
  refine lv_aload_n hx hb dX4_init_34 rfl (lv_at hl 0 rfl) ?_
  refine tf_iconst hx hb dX4_init_35 ?_
  refine tf_put hx hb hts inlX4 tyX4 tyX4_ok nmX4 hown hK (ci := 4) rfl hW ha0 rfl rfl 4 rfl (by decide) (by decide) (hts _ fl_X4_25) rfl trivial rfl rfl dX4_init_36 (fun H18 locs18 hW hs18 ht18 hq18 => ?_)
  have hs19 := (ht18 0 (by decide) (by decide)).trans hs15
  have hs20 := (ht18 1 (by decide) (by decide)).trans hs16
  have hs21 := (ht18 2 (by decide) (by decide)).trans hs17
  have hs22 := (ht18 3 (by decide) (by decide)).trans hs14
  refine W.widen (k := 3) (n := 802) (by omega) (by omega) ?_
  exact tf_retC (ci := 4) hx hb hr hlocks hQ hW ha0 rfl (by decide) rfl (fun j f hj => match j, hj with | 0, hj => by obtain rfl : _ = f := Option.some.inj hj; exact ⟨_, hs19, tf_u1 had1⟩ | 1, hj => by obtain rfl : _ = f := Option.some.inj hj; exact ⟨_, hs20, tf_u1 had3⟩ | 2, hj => by obtain rfl : _ = f := Option.some.inj hj; exact ⟨_, hs21, tf_u0 (by omega) (by omega)⟩ | 3, hj => by obtain rfl : _ = f := Option.some.inj hj; exact ⟨_, hs22, tf_u3 had10 (by omega)⟩ | 4, hj => by obtain rfl : _ = f := Option.some.inj hj; exact ⟨_, hs18, tf_u0 (by omega) (by omega)⟩ | (j + 5), hj => by cases hj) dX4_init_39

abbrev M_X2_init : List (Nat × Nat) := [(66, 0), (66, 1), (66, 2), (66, 3), (66, 4), (66, 5), (66, 6), (66, 7), (68, 0), (68, 1), (68, 2), (68, 3), (68, 4)]
set_option maxHeartbeats 4000000 in
set_option maxRecDepth 100000 in
theorem c_X2_init (l : Launch) (g : tf_G) (T : tf_T) (a0 : Nat) (ha0 : T a0 = some (66, 0)) : Met l yX2_init (cd_X2_init :: wsL_law) ({ frames := 2, cells := 6, slots := 1233, locals := 60 }) (tf_P g T [.ref a0] (fun H => True)) (tf_QC g M_X2_init T a0 30) 6 1233 (fun q => tf_B g ≤ q) := by
  refine Met.ofW (cc := cX2_init) (maxL := 1) (ret := none) (by decide) rfl ?_
  intro p e s m args below meth c s₁ B hml hv
  obtain ⟨hargs, hk, hW0, hB, hpre⟩ := hv
  have hx := B.exec
  have hb := B.bytes
  have hr := B.returns
  have hts : ∀ w ∈ wsL_law, w.before args s = true := fun w h => atoms_spec (ws := cd_X2_init :: wsL_law) B.pre w (List.mem_cons_of_mem _ h)
  have hown : s.vm.findClass RX2 = some m.cls := findClass_of_methodNamed B.named
  have hlocks := B.notSynchronized
  have hK := hk.1
  have hW := tf_n.start (M := M_X2_init) hW0 hB
  obtain ⟨Q, hQ⟩ : ∃ q, q = MQ below (tf_QC g M_X2_init T a0 30) args s 6 1233 (fun q => tf_B g ≤ q) := ⟨_, rfl⟩
  rw [← hQ]
  obtain ⟨R, hR⟩ : ∃ q, q = (headSpec (cd_X2_init :: wsL_law) ({ frames := 2, cells := 6, slots := 1233, locals := 60 })).room := ⟨_, rfl⟩
  rw [← hR]
  have hR1 : 2 ≤ R.frames := by rw [hR]; exact Nat.le_refl _
  have hR2 : 60 ≤ R.locals := by rw [hR]; exact Nat.le_refl _
  have hR3 : 6 ≤ R.cells := by rw [hR]; exact Nat.le_refl _
  have hR4 : 1233 ≤ R.slots := by rw [hR]; exact Nat.le_refl _
  have hin := (name_of_methodNamed B.named B.method).1
  clear hR B
  refine tf_enter (As := [.ref a0]) hargs (Nat.le_of_ble_eq_true rfl) (fun ls hl => ?_)
  have hl : lv_has ls 1 [(0, .ref a0)] := hl
  refine lv_aload_n hx hb dX2_init_0 rfl (lv_at hl 0 rfl) ?_
  refine W.objInit hx hb hown (hts _ (tw5 (i := 18) rfl)) (hts _ (tw1 (i := 10) rfl)) (hts _ (tw1 (i := 11) rfl)) rfl (by rw [hml]; exact hl.1) rfl dX2_init_1 (Nat.le_trans (by decide) hR1) (Nat.le_trans (by exact Nat.le_of_ble_eq_true rfl) hR2) ?_
  refine W.eq (g2 := F0 m 4 ls []) rfl ?_
  refine lv_aload_n hx hb dX2_init_4 rfl (lv_at hl 0 rfl) ?_
  refine tf_sipush hx hb dX2_init_5 (by decide) ?_
  refine tf_newarr (atype := .int) (ty := .int) (f := (0, 0, 0, -2147483648, 2147483647)) (t0 := 0) (k := 0) (N := 401) hx hb (hts _ (tw2 (i := 5) rfl)) hK rfl rfl rfl (fun h => h) (tf_d0 (by decide) (by decide)) hW (by omega) rfl (by decide) (by decide) (Nat.le_trans (by omega) hR3) (Nat.le_trans (by omega) hR4) dX2_init_8 (fun ad1 H1 T hq1 hT1 had1 hE1 hW ho1 => ?_)
  have ha0 := hE1 _ _ ha0
  refine tf_putF hx hb hts inlX2 tyX2 tyX2_ok nmX2 hown hK (ci := 2) rfl hW ha0 rfl rfl 0 rfl (by decide) (by decide) (hts _ fl_X2_9) rfl hin rfl trivial rfl rfl dX2_init_10 (fun H2 locs2 hW hs2 ht2 hq2 => ?_)
  refine lv_aload_n hx hb dX2_init_13 rfl (lv_at hl 0 rfl) ?_
  refine tf_iconst hx hb dX2_init_14 ?_
  refine tf_put hx hb hts inlX2 tyX2 tyX2_ok nmX2 hown hK (ci := 2) rfl hW ha0 rfl rfl 1 rfl (by decide) (by decide) (hts _ fl_X2_15) rfl trivial rfl rfl dX2_init_15 (fun H3 locs3 hW hs3 ht3 hq3 => ?_)
  have hs4 := (ht3 0 (by decide) (by decide)).trans hs2
  refine lv_aload_n hx hb dX2_init_18 rfl (lv_at hl 0 rfl) ?_
  refine tf_bipush hx hb dX2_init_19 (by decide) ?_
  refine tf_newarr (atype := .int) (ty := .int) (f := (0, 0, 0, -2147483648, 2147483647)) (t0 := 0) (k := 0) (N := 25) hx hb (hts _ (tw2 (i := 5) rfl)) hK rfl rfl rfl (fun h => h) (tf_d0 (by decide) (by decide)) hW (by omega) rfl (by decide) (by decide) (Nat.le_trans (by omega) hR3) (Nat.le_trans (by omega) hR4) dX2_init_21 (fun ad5 H5 T hq5 hT5 had5 hE5 hW ho5 => ?_)
  have hs6 := tf_keepQ hs4 (ho5 _ _ ha0)
  have hs7 := tf_keepQ hs3 (ho5 _ _ ha0)
  have ha0 := hE5 _ _ ha0
  have had1 := hE5 _ _ had1
  refine tf_putF hx hb hts inlX2 tyX2 tyX2_ok nmX2 hown hK (ci := 2) rfl hW ha0 rfl rfl 2 rfl (by decide) (by decide) (hts _ fl_X2_19) rfl hin rfl trivial rfl rfl dX2_init_23 (fun H8 locs8 hW hs8 ht8 hq8 => ?_)
  have hs9 := (ht8 0 (by decide) (by decide)).trans hs6
  have hs10 := (ht8 1 (by decide) (by decide)).trans hs7
  refine lv_aload_n hx hb dX2_init_26 rfl (lv_at hl 0 rfl) ?_
  have hsz11 := hW.2.2.1.1
  refine tf_new (kr := 68) hx hb hts inlX4 tyX4 tyX4_ok hown (hts _ (tw5 (i := 22) rfl)) (hts _ (tw5 (i := 23) rfl)) (hts _ (tw6 (i := 0) rfl)) hK (ci := 4) rfl hW rfl ⟨rfl, by decide⟩ (Nat.le_trans (by omega) hR3) (Nat.le_trans (by omega) hR4) dX2_init_27 (fun ad11 H11 T hq11 hT11 had11 hE11 hW ho11 => ?_)
  have hsz11 := Nat.le_trans hsz11 (Nat.le_of_eq hq11)
  have hs12 := tf_keepQ hs9 (ho11 _ _ ha0)
  have hs13 := tf_keepQ hs10 (ho11 _ _ ha0)
  have hs14 := tf_keepQ hs8 (ho11 _ _ ha0)
  have ha0 := hE11 _ _ ha0
  have had1 := hE11 _ _ had1
  have had5 := hE11 _ _ had5
  refine lv_dup hx hb dX2_init_30 rfl ?_
  refine tf_callC (va_runIN (As := []) (rest := [.ref ad11, .ref a0]) ⟨hx, hb, hml, hown, hts⟩ (c_X4_init l g T ad11 had11) ⟨va_cnB 0 hts (gw_ws cm_X4_init) rfl rfl rfl (hk.2.1 _ nw_8) (hts _ (tw6 (i := 0) rfl)) hd_X4_init.2 ⟨Nat.le_trans (by decide) hR1, Nat.le_trans (by decide) hR2⟩, rfl, hts _ (tw6 (i := 6) rfl)⟩ (tf_preS hk hW trivial) rfl rfl hl.1 rfl (lv_room (Nat.le_of_ble_eq_true rfl)) dX2_init_31 ⟨Nat.le_trans (by omega) hR3, Nat.le_trans (by omega) hR4⟩) hW (by decide) (tf_fresh hW0 hsz11) hsz11 had11 (fun H15 locs15 T hW hn15 hE15 hF15 => ?_)
  have hs16 := tf_keepF hF15 ha0 rfl rfl (by decide) hs12
  have hs17 := tf_keepF hF15 ha0 rfl rfl (by decide) hs13
  have hs18 := tf_keepF hF15 ha0 rfl rfl (by decide) hs14
  have ha0 := hE15 _ _ (tf_ne ha0 had11 (by decide)) ha0
  have had1 := hE15 _ _ (tf_ne had1 had11 (by decide)) had1
  have had5 := hE15 _ _ (tf_ne had5 had11 (by decide)) had5
  refine tf_putF hx hb hts inlX2 tyX2 tyX2_ok nmX2 hown hK (ci := 2) rfl hW ha0 rfl rfl 3 rfl (by decide) (by decide) (hts _ fl_X2_25) rfl hin rfl trivial rfl rfl dX2_init_34 (fun H19 locs19 hW hs19 ht19 hq19 => ?_)
  have hs20 := (ht19 0 (by decide) (by decide)).trans hs16
  have hs21 := (ht19 1 (by decide) (by decide)).trans hs17
  have hs22 := (ht19 2 (by decide) (by decide)).trans hs18
  refine lv_aload_n hx hb dX2_init_37 rfl (lv_at hl 0 rfl) ?_
  refine tf_iconst hx hb dX2_init_38 ?_
  refine tf_put hx hb hts inlX2 tyX2 tyX2_ok nmX2 hown hK (ci := 2) rfl hW ha0 rfl rfl 4 rfl (by decide) (by decide) (hts _ fl_X2_29) rfl trivial rfl rfl dX2_init_39 (fun H23 locs23 hW hs23 ht23 hq23 => ?_)
  have hs24 := (ht23 0 (by decide) (by decide)).trans hs20
  have hs25 := (ht23 1 (by decide) (by decide)).trans hs21
  have hs26 := (ht23 2 (by decide) (by decide)).trans hs22
  have hs27 := (ht23 3 (by decide) (by decide)).trans hs19
  refine lv_aload_n hx hb dX2_init_42 rfl (lv_at hl 0 rfl) ?_
  refine tf_iconst hx hb dX2_init_43 ?_
  refine tf_put hx hb hts inlX2 tyX2 tyX2_ok nmX2 hown hK (ci := 2) rfl hW ha0 rfl rfl 5 rfl (by decide) (by decide) (hts _ fl_X2_32) rfl trivial rfl rfl dX2_init_44 (fun H28 locs28 hW hs28 ht28 hq28 => ?_)
  have hs29 := (ht28 0 (by decide) (by decide)).trans hs24
  have hs30 := (ht28 1 (by decide) (by decide)).trans hs25
  have hs31 := (ht28 2 (by decide) (by decide)).trans hs26
  have hs32 := (ht28 3 (by decide) (by decide)).trans hs27
  have hs33 := (ht28 4 (by decide) (by decide)).trans hs23
  refine lv_aload_n hx hb dX2_init_47 rfl (lv_at hl 0 rfl) ?_
  refine tf_iconst hx hb dX2_init_48 ?_
  refine tf_put hx hb hts inlX2 tyX2 tyX2_ok nmX2 hown hK (ci := 2) rfl hW ha0 rfl rfl 6 rfl (by decide) (by decide) (hts _ fl_X2_35) rfl trivial rfl rfl dX2_init_49 (fun H34 locs34 hW hs34 ht34 hq34 => ?_)
  have hs35 := (ht34 0 (by decide) (by decide)).trans hs29
  have hs36 := (ht34 1 (by decide) (by decide)).trans hs30
  have hs37 := (ht34 2 (by decide) (by decide)).trans hs31
  have hs38 := (ht34 3 (by decide) (by decide)).trans hs32
  have hs39 := (ht34 4 (by decide) (by decide)).trans hs33
  have hs40 := (ht34 5 (by decide) (by decide)).trans hs28
  refine lv_aload_n hx hb dX2_init_52 rfl (lv_at hl 0 rfl) ?_
  refine tf_iconst hx hb dX2_init_53 ?_
  refine tf_put hx hb hts inlX2 tyX2 tyX2_ok nmX2 hown hK (ci := 2) rfl hW ha0 rfl rfl 7 rfl (by decide) (by decide) (hts _ fl_X2_38) rfl trivial rfl rfl dX2_init_54 (fun H41 locs41 hW hs41 ht41 hq41 => ?_)
  have hs42 := (ht41 0 (by decide) (by decide)).trans hs35
  have hs43 := (ht41 1 (by decide) (by decide)).trans hs36
  have hs44 := (ht41 2 (by decide) (by decide)).trans hs37
  have hs45 := (ht41 3 (by decide) (by decide)).trans hs38
  have hs46 := (ht41 4 (by decide) (by decide)).trans hs39
  have hs47 := (ht41 5 (by decide) (by decide)).trans hs40
  have hs48 := (ht41 6 (by decide) (by decide)).trans hs34
  refine W.widen (k := 6) (n := 1233) (by omega) (by omega) ?_
  exact tf_retC (ci := 2) hx hb hr hlocks hQ hW ha0 rfl (by decide) rfl (fun j f hj => match j, hj with | 0, hj => by obtain rfl : _ = f := Option.some.inj hj; exact ⟨_, hs42, tf_u1 had1⟩ | 1, hj => by obtain rfl : _ = f := Option.some.inj hj; exact ⟨_, hs43, tf_u0 (by omega) (by omega)⟩ | 2, hj => by obtain rfl : _ = f := Option.some.inj hj; exact ⟨_, hs44, tf_u1 had5⟩ | 3, hj => by obtain rfl : _ = f := Option.some.inj hj; exact ⟨_, hs45, tf_u1 hn15⟩ | 4, hj => by obtain rfl : _ = f := Option.some.inj hj; exact ⟨_, hs46, tf_u0 (by omega) (by omega)⟩ | 5, hj => by obtain rfl : _ = f := Option.some.inj hj; exact ⟨_, hs47, tf_u0 (by omega) (by omega)⟩ | 6, hj => by obtain rfl : _ = f := Option.some.inj hj; exact ⟨_, hs48, tf_u0 (by omega) (by omega)⟩ | 7, hj => by obtain rfl : _ = f := Option.some.inj hj; exact ⟨_, hs41, tf_u0 (by omega) (by omega)⟩ | (j + 8), hj => by cases hj) dX2_init_57

abbrev M_X1_init : List (Nat × Nat) := [(65, 0), (65, 1)]
set_option maxHeartbeats 4000000 in
set_option maxRecDepth 100000 in
theorem c_X1_init (l : Launch) (g : tf_G) (T : tf_T) (a0 : Nat) (ha0 : T a0 = some (65, 0)) (a1 i1 : Nat) (ha1 : T a1 = some (11, i1)) (hi1 : i1 ≤ 401) (a2 i2 : Nat) (ha2 : T a2 = some (11, i2)) (hi2 : i2 ≤ 401) : Met l yX1_init (cd_X1_init :: wsL_law) ({ frames := 1, cells := 0, slots := 0, locals := 40 }) (tf_P g T [.ref a0, .ref a1, .ref a2] (fun H => True)) (tf_QC g M_X1_init T a0 29) 0 0 (fun q => tf_B g ≤ q) := by
  refine Met.ofW (cc := cX1_init) (maxL := 3) (ret := none) (by decide) rfl ?_
  intro p e s m args below meth c s₁ B hml hv
  obtain ⟨hargs, hk, hW0, hB, hpre⟩ := hv
  have hx := B.exec
  have hb := B.bytes
  have hr := B.returns
  have hts : ∀ w ∈ wsL_law, w.before args s = true := fun w h => atoms_spec (ws := cd_X1_init :: wsL_law) B.pre w (List.mem_cons_of_mem _ h)
  have hown : s.vm.findClass RX1 = some m.cls := findClass_of_methodNamed B.named
  have hlocks := B.notSynchronized
  have hK := hk.1
  have hW := tf_n.start (M := M_X1_init) hW0 hB
  obtain ⟨Q, hQ⟩ : ∃ q, q = MQ below (tf_QC g M_X1_init T a0 29) args s 0 0 (fun q => tf_B g ≤ q) := ⟨_, rfl⟩
  rw [← hQ]
  obtain ⟨R, hR⟩ : ∃ q, q = (headSpec (cd_X1_init :: wsL_law) ({ frames := 1, cells := 0, slots := 0, locals := 40 })).room := ⟨_, rfl⟩
  rw [← hR]
  have hR1 : 1 ≤ R.frames := by rw [hR]; exact Nat.le_refl _
  have hR2 : 40 ≤ R.locals := by rw [hR]; exact Nat.le_refl _
  have hR3 : 0 ≤ R.cells := by rw [hR]; exact Nat.le_refl _
  have hR4 : 0 ≤ R.slots := by rw [hR]; exact Nat.le_refl _
  have hin := (name_of_methodNamed B.named B.method).1
  clear hR B
  refine tf_enter (As := [.ref a0, .ref a1, .ref a2]) hargs (Nat.le_of_ble_eq_true rfl) (fun ls hl => ?_)
  have hl : lv_has ls 3 [(0, .ref a0), (1, .ref a1), (2, .ref a2)] := hl
  refine lv_aload_n hx hb dX1_init_0 rfl (lv_at hl 0 rfl) ?_
  refine W.objInit hx hb hown (hts _ (tw27 (i := 0) rfl)) (hts _ (tw1 (i := 10) rfl)) (hts _ (tw1 (i := 11) rfl)) rfl (by rw [hml]; exact hl.1) rfl dX1_init_1 (Nat.le_trans (by decide) hR1) (Nat.le_trans (by exact Nat.le_of_ble_eq_true rfl) hR2) ?_
  refine W.eq (g2 := F0 m 4 ls []) rfl ?_
  refine lv_aload_n hx hb dX1_init_4 rfl (lv_at hl 0 rfl) ?_
  refine lv_aload_n hx hb dX1_init_5 rfl (lv_at hl 1 rfl) ?_
  refine tf_putF hx hb hts inlX1 tyX1 tyX1_ok nmX1 hown hK (ci := 1) rfl hW ha0 rfl rfl 0 rfl (by decide) (by decide) (hts _ fl_X1_9) rfl hin rfl trivial rfl rfl dX1_init_6 (fun H1 locs1 hW hs1 ht1 hq1 => ?_)
  refine lv_aload_n hx hb dX1_init_9 rfl (lv_at hl 0 rfl) ?_
  refine lv_aload_n hx hb dX1_init_10 rfl (lv_at hl 2 rfl) ?_
  refine tf_putF hx hb hts inlX1 tyX1 tyX1_ok nmX1 hown hK (ci := 1) rfl hW ha0 rfl rfl 1 rfl (by decide) (by decide) (hts _ fl_X1_15) rfl hin rfl trivial rfl rfl dX1_init_11 (fun H2 locs2 hW hs2 ht2 hq2 => ?_)
  have hs3 := (ht2 0 (by decide) (by decide)).trans hs1
  refine W.widen (k := 0) (n := 0) (by omega) (by omega) ?_
  exact tf_retC (ci := 1) hx hb hr hlocks hQ hW ha0 rfl (by decide) rfl (fun j f hj => match j, hj with | 0, hj => by obtain rfl : _ = f := Option.some.inj hj; exact ⟨_, hs3, tf_u3 ha1 (by omega)⟩ | 1, hj => by obtain rfl : _ = f := Option.some.inj hj; exact ⟨_, hs2, tf_u3 ha2 (by omega)⟩ | (j + 2), hj => by cases hj) dX1_init_14

abbrev M_X9_init : List (Nat × Nat) := [(5, 0), (64, 0), (64, 1), (64, 2), (64, 3), (66, 0), (66, 1), (66, 2), (66, 3), (66, 4), (66, 5), (66, 6), (66, 7), (67, 0), (67, 1), (67, 2), (67, 3), (67, 4), (67, 5), (67, 6), (67, 7), (67, 8), (67, 9), (67, 10), (67, 11), (68, 0), (68, 1), (68, 2), (68, 3), (68, 4), (69, 0), (69, 1), (69, 2), (69, 3), (69, 4), (70, 0), (70, 1), (70, 2), (70, 3), (70, 4), (70, 5), (70, 6), (70, 7), (70, 8), (70, 9), (70, 10), (71, 0), (71, 1), (71, 2), (71, 3), (71, 4), (71, 5), (72, 0), (72, 1), (72, 2), (72, 3), (72, 4), (73, 0), (73, 1), (73, 2), (73, 3), (73, 4), (73, 5), (73, 6), (73, 7), (73, 8), (73, 9), (73, 10), (73, 11), (73, 12), (73, 13)]
set_option maxHeartbeats 4000000 in
set_option maxRecDepth 100000 in
theorem c_X9_init (l : Launch) (g : tf_G) (T : tf_T) (a0 : Nat) (ha0 : T a0 = some (73, 0)) : Met l yX9_init (cd_X9_init :: wsL_law) ({ frames := 3, cells := 47, slots := 6280, locals := 80 }) (tf_P g T [.ref a0] (fun H => True)) (tf_QCp g M_X9_init T a0 39 (fun H => tf_s H a0 (g.1.2 9 7) = some (.int (Int32.ofInt 0)) ∧ tf_s H a0 (g.1.2 9 8) = some (.int (Int32.ofInt 0)) ∧ tf_s H a0 (g.1.2 9 11) = some (.int (Int32.ofInt 0)) ∧ ((tf_rw H (tf_fr H (tf_fr H a0 (g.1.2 9 0)) (g.1.2 3 3))) 1 = 99 ∧ (tf_rw H (tf_fr H (tf_fr H a0 (g.1.2 9 0)) (g.1.2 3 3))) 2 = 99 ∧ (tf_rw H (tf_fr H (tf_fr H a0 (g.1.2 9 0)) (g.1.2 3 3))) 3 = 99) ∧ ((tf_rw H (tf_fr H (tf_fr H a0 (g.1.2 9 0)) (g.1.2 3 4))) = fun _ => 0) ∧ ((tf_rw H (tf_fr H (tf_fr H a0 (g.1.2 9 0)) (g.1.2 3 5))) = fun _ => 0) ∧ ((tf_rw H (tf_fr H (tf_fr H a0 (g.1.2 9 0)) (g.1.2 3 6))) = fun _ => 0) ∧ ((tf_rw H (tf_fr H a0 (g.1.2 9 6))) = fun _ => 0) ∧ ((tf_rw H (tf_fr H a0 (g.1.2 9 10))) = fun _ => 0) ∧ tf_s H (tf_fr H a0 (g.1.2 9 1)) 0 = some .null ∧ tf_s H (tf_fr H a0 (g.1.2 9 1)) 1 = some .null)) 47 6280 (fun q => tf_B g ≤ q) := by
  refine Met.ofW (cc := cX9_init) (maxL := 1) (ret := none) (by decide) rfl ?_
  intro p e s m args below meth c s₁ B hml hv
  obtain ⟨hargs, hk, hW0, hB, hpre⟩ := hv
  have hx := B.exec
  have hb := B.bytes
  have hr := B.returns
  have hts : ∀ w ∈ wsL_law, w.before args s = true := fun w h => atoms_spec (ws := cd_X9_init :: wsL_law) B.pre w (List.mem_cons_of_mem _ h)
  have hown : s.vm.findClass RX9 = some m.cls := findClass_of_methodNamed B.named
  have hlocks := B.notSynchronized
  have hK := hk.1
  have hW := tf_n.start (M := M_X9_init) hW0 hB
  obtain ⟨Q, hQ⟩ : ∃ q, q = MQ below (tf_QCp g M_X9_init T a0 39 (fun H => tf_s H a0 (g.1.2 9 7) = some (.int (Int32.ofInt 0)) ∧ tf_s H a0 (g.1.2 9 8) = some (.int (Int32.ofInt 0)) ∧ tf_s H a0 (g.1.2 9 11) = some (.int (Int32.ofInt 0)) ∧ ((tf_rw H (tf_fr H (tf_fr H a0 (g.1.2 9 0)) (g.1.2 3 3))) 1 = 99 ∧ (tf_rw H (tf_fr H (tf_fr H a0 (g.1.2 9 0)) (g.1.2 3 3))) 2 = 99 ∧ (tf_rw H (tf_fr H (tf_fr H a0 (g.1.2 9 0)) (g.1.2 3 3))) 3 = 99) ∧ ((tf_rw H (tf_fr H (tf_fr H a0 (g.1.2 9 0)) (g.1.2 3 4))) = fun _ => 0) ∧ ((tf_rw H (tf_fr H (tf_fr H a0 (g.1.2 9 0)) (g.1.2 3 5))) = fun _ => 0) ∧ ((tf_rw H (tf_fr H (tf_fr H a0 (g.1.2 9 0)) (g.1.2 3 6))) = fun _ => 0) ∧ ((tf_rw H (tf_fr H a0 (g.1.2 9 6))) = fun _ => 0) ∧ ((tf_rw H (tf_fr H a0 (g.1.2 9 10))) = fun _ => 0) ∧ tf_s H (tf_fr H a0 (g.1.2 9 1)) 0 = some .null ∧ tf_s H (tf_fr H a0 (g.1.2 9 1)) 1 = some .null)) args s 47 6280 (fun q => tf_B g ≤ q) := ⟨_, rfl⟩
  rw [← hQ]
  obtain ⟨R, hR⟩ : ∃ q, q = (headSpec (cd_X9_init :: wsL_law) ({ frames := 3, cells := 47, slots := 6280, locals := 80 })).room := ⟨_, rfl⟩
  rw [← hR]
  have hR1 : 3 ≤ R.frames := by rw [hR]; exact Nat.le_refl _
  have hR2 : 80 ≤ R.locals := by rw [hR]; exact Nat.le_refl _
  have hR3 : 47 ≤ R.cells := by rw [hR]; exact Nat.le_refl _
  have hR4 : 6280 ≤ R.slots := by rw [hR]; exact Nat.le_refl _
  have hin := (name_of_methodNamed B.named B.method).1
  clear hR B
  refine tf_enter (As := [.ref a0]) hargs (Nat.le_of_ble_eq_true rfl) (fun ls hl => ?_)
  have hl : lv_has ls 1 [(0, .ref a0)] := hl
  refine lv_aload_n hx hb dX9_init_0 rfl (lv_at hl 0 rfl) ?_
  refine W.objInit hx hb hown (hts _ (tw1 (i := 9) rfl)) (hts _ (tw1 (i := 10) rfl)) (hts _ (tw1 (i := 11) rfl)) rfl (by rw [hml]; exact hl.1) rfl dX9_init_1 (Nat.le_trans (by decide) hR1) (Nat.le_trans (by exact Nat.le_of_ble_eq_true rfl) hR2) ?_
  refine W.eq (g2 := F0 m 4 ls []) rfl ?_
  refine lv_aload_n hx hb dX9_init_4 rfl (lv_at hl 0 rfl) ?_
  have hsz1 := hW.2.2.1.1
  refine tf_new (kr := 67) hx hb hts inlX3 tyX3 tyX3_ok hown (hts _ (tw1 (i := 12) rfl)) (hts _ (tw1 (i := 13) rfl)) (hts _ (tw1 (i := 14) rfl)) hK (ci := 3) rfl hW rfl ⟨rfl, by decide⟩ (Nat.le_trans (by omega) hR3) (Nat.le_trans (by omega) hR4) dX9_init_5 (fun ad1 H1 T hq1 hT1 had1 hE1 hW ho1 => ?_)
  have hsz1 := Nat.le_trans hsz1 (Nat.le_of_eq hq1)
  have ha0 := hE1 _ _ ha0
  refine lv_dup hx hb dX9_init_8 rfl ?_
  refine tf_callCp (va_runIN (As := []) (rest := [.ref ad1, .ref a0]) ⟨hx, hb, hml, hown, hts⟩ (c_X3_init l g T ad1 had1) ⟨va_cnB 0 hts (gw_ws cm_X3_init) rfl rfl rfl (hk.2.1 _ nw_0) (hts _ (tw1 (i := 14) rfl)) hd_X3_init.2 ⟨Nat.le_trans (by decide) hR1, Nat.le_trans (by decide) hR2⟩, rfl, hts _ (tw2 (i := 15) rfl)⟩ (tf_preS hk hW trivial) rfl rfl hl.1 rfl (lv_room (Nat.le_of_ble_eq_true rfl)) dX9_init_9 ⟨Nat.le_trans (by omega) hR3, Nat.le_trans (by omega) hR4⟩) hW (by decide) (tf_fresh hW0 hsz1) hsz1 had1 (fun H2 locs2 T hW hn2 hE2 hF2 hP2 => ?_)
  have ha0 := hE2 _ _ (tf_ne ha0 had1 (by decide)) ha0
  obtain ⟨hP2_0, hP2_1, hP2_2, hP2_3⟩ := hP2
  obtain ⟨pv2_0_0, hpf2_0_0, hok2_0_0⟩ := tf_peek hW hn2 (ci := 3) rfl 3 rfl
  obtain ⟨im2_0_0, rfl, him2_0_0⟩ := tf_v1 hok2_0_0
  rw [tf_fr_eq hpf2_0_0] at hP2_0
  obtain ⟨rc2_0, hrc2_0⟩ := tf_rname hW im2_0_0
  rw [hrc2_0] at hP2_0
  obtain ⟨pv2_1_0, hpf2_1_0, hok2_1_0⟩ := tf_peek hW hn2 (ci := 3) rfl 4 rfl
  obtain ⟨im2_1_0, rfl, him2_1_0⟩ := tf_v1 hok2_1_0
  rw [tf_fr_eq hpf2_1_0] at hP2_1
  obtain ⟨rc2_1, hrc2_1⟩ := tf_rname hW im2_1_0
  rw [hrc2_1] at hP2_1
  obtain ⟨pv2_2_0, hpf2_2_0, hok2_2_0⟩ := tf_peek hW hn2 (ci := 3) rfl 5 rfl
  obtain ⟨im2_2_0, rfl, him2_2_0⟩ := tf_v1 hok2_2_0
  rw [tf_fr_eq hpf2_2_0] at hP2_2
  obtain ⟨rc2_2, hrc2_2⟩ := tf_rname hW im2_2_0
  rw [hrc2_2] at hP2_2
  obtain ⟨pv2_3_0, hpf2_3_0, hok2_3_0⟩ := tf_peek hW hn2 (ci := 3) rfl 6 rfl
  obtain ⟨im2_3_0, rfl, him2_3_0⟩ := tf_v1 hok2_3_0
  rw [tf_fr_eq hpf2_3_0] at hP2_3
  obtain ⟨rc2_3, hrc2_3⟩ := tf_rname hW im2_3_0
  rw [hrc2_3] at hP2_3
  refine tf_putF hx hb hts inlX9 tyX9 tyX9_ok nmX9 hown hK (ci := 9) rfl hW ha0 rfl rfl 0 rfl (by decide) (by decide) (hts _ fl_X9_10) rfl hin rfl trivial rfl rfl dX9_init_12 (fun H3 locs3 hW hs3 ht3 hq3 => ?_)
  have hs4 := tf_keepQ hpf2_0_0 (hq3 _ (tf_ne hn2 ha0 (by decide)))
  have hs5 := tf_keepCQ hrc2_0 (hq3 _ (tf_ne him2_0_0 ha0 (by decide)))
  have hs6 := tf_keepQ hpf2_1_0 (hq3 _ (tf_ne hn2 ha0 (by decide)))
  have hs7 := tf_keepCQ hrc2_1 (hq3 _ (tf_ne him2_1_0 ha0 (by decide)))
  have hs8 := tf_keepQ hpf2_2_0 (hq3 _ (tf_ne hn2 ha0 (by decide)))
  have hs9 := tf_keepCQ hrc2_2 (hq3 _ (tf_ne him2_2_0 ha0 (by decide)))
  have hs10 := tf_keepQ hpf2_3_0 (hq3 _ (tf_ne hn2 ha0 (by decide)))
  have hs11 := tf_keepCQ hrc2_3 (hq3 _ (tf_ne him2_3_0 ha0 (by decide)))
  refine lv_aload_n hx hb dX9_init_15 rfl (lv_at hl 0 rfl) ?_
  refine tf_iconst hx hb dX9_init_16 ?_
  refine tf_anewarr2 (t0 := 5) (k := 15) (N := 2) hx hb hown (hts _ (tw1 (i := 12) rfl)) hk.2.2.2.2.1 hK rfl rfl hW (by omega) rfl (by decide) (Nat.le_trans (by omega) hR3) (Nat.le_trans (by omega) hR4) dX9_init_17 (fun ad12 H12 T hq12 hT12 had12 hE12 hW ho12 hN12 => ?_)
  have hs13 := tf_keepQ hs4 (ho12 _ _ hn2)
  have hs14 := tf_keepCQ hs5 (ho12 _ _ him2_0_0)
  have hs15 := tf_keepQ hs6 (ho12 _ _ hn2)
  have hs16 := tf_keepCQ hs7 (ho12 _ _ him2_1_0)
  have hs17 := tf_keepQ hs8 (ho12 _ _ hn2)
  have hs18 := tf_keepCQ hs9 (ho12 _ _ him2_2_0)
  have hs19 := tf_keepQ hs10 (ho12 _ _ hn2)
  have hs20 := tf_keepCQ hs11 (ho12 _ _ him2_3_0)
  have hs21 := tf_keepQ hs3 (ho12 _ _ ha0)
  have ha0 := hE12 _ _ ha0
  have hn2 := hE12 _ _ hn2
  have him2_0_0 := hE12 _ _ him2_0_0
  have him2_1_0 := hE12 _ _ him2_1_0
  have him2_2_0 := hE12 _ _ him2_2_0
  have him2_3_0 := hE12 _ _ him2_3_0
  refine tf_putF hx hb hts inlX9 tyX9 tyX9_ok nmX9 hown hK (ci := 9) rfl hW ha0 rfl rfl 1 rfl (by decide) (by decide) (hts _ fl_X9_16) rfl hin rfl trivial rfl rfl dX9_init_20 (fun H22 locs22 hW hs22 ht22 hq22 => ?_)
  have hs23 := tf_keepQ hs13 (hq22 _ (tf_ne hn2 ha0 (by decide)))
  have hs24 := tf_keepCQ hs14 (hq22 _ (tf_ne him2_0_0 ha0 (by decide)))
  have hs25 := tf_keepQ hs15 (hq22 _ (tf_ne hn2 ha0 (by decide)))
  have hs26 := tf_keepCQ hs16 (hq22 _ (tf_ne him2_1_0 ha0 (by decide)))
  have hs27 := tf_keepQ hs17 (hq22 _ (tf_ne hn2 ha0 (by decide)))
  have hs28 := tf_keepCQ hs18 (hq22 _ (tf_ne him2_2_0 ha0 (by decide)))
  have hs29 := tf_keepQ hs19 (hq22 _ (tf_ne hn2 ha0 (by decide)))
  have hs30 := tf_keepCQ hs20 (hq22 _ (tf_ne him2_3_0 ha0 (by decide)))
  have hs31 := (ht22 0 (by decide) (by decide)).trans hs21
  have hs32 := tf_keepQ (hN12 0 (by decide)) (hq22 _ (tf_ne had12 ha0 (by decide)))
  have hs33 := tf_keepQ (hN12 1 (by decide)) (hq22 _ (tf_ne had12 ha0 (by decide)))
  refine lv_aload_n hx hb dX9_init_23 rfl (lv_at hl 0 rfl) ?_
  have hsz34 := hW.2.2.1.1
  refine tf_new (kr := 71) hx hb hts inlX7 tyX7 tyX7_ok hown (hts _ (tw1 (i := 17) rfl)) (hts _ (tw1 (i := 18) rfl)) (hts _ (tw1 (i := 19) rfl)) hK (ci := 7) rfl hW rfl ⟨rfl, by decide⟩ (Nat.le_trans (by omega) hR3) (Nat.le_trans (by omega) hR4) dX9_init_24 (fun ad34 H34 T hq34 hT34 had34 hE34 hW ho34 => ?_)
  have hsz34 := Nat.le_trans hsz34 (Nat.le_of_eq hq34)
  have hs35 := tf_keepQ hs23 (ho34 _ _ hn2)
  have hs36 := tf_keepCQ hs24 (ho34 _ _ him2_0_0)
  have hs37 := tf_keepQ hs25 (ho34 _ _ hn2)
  have hs38 := tf_keepCQ hs26 (ho34 _ _ him2_1_0)
  have hs39 := tf_keepQ hs27 (ho34 _ _ hn2)
  have hs40 := tf_keepCQ hs28 (ho34 _ _ him2_2_0)
  have hs41 := tf_keepQ hs29 (ho34 _ _ hn2)
  have hs42 := tf_keepCQ hs30 (ho34 _ _ him2_3_0)
  have hs43 := tf_keepQ hs31 (ho34 _ _ ha0)
  have hs44 := tf_keepQ hs32 (ho34 _ _ had12)
  have hs45 := tf_keepQ hs33 (ho34 _ _ had12)
  have hs46 := tf_keepQ hs22 (ho34 _ _ ha0)
  have ha0 := hE34 _ _ ha0
  have hn2 := hE34 _ _ hn2
  have him2_0_0 := hE34 _ _ him2_0_0
  have him2_1_0 := hE34 _ _ him2_1_0
  have him2_2_0 := hE34 _ _ him2_2_0
  have him2_3_0 := hE34 _ _ him2_3_0
  have had12 := hE34 _ _ had12
  refine lv_dup hx hb dX9_init_27 rfl ?_
  refine tf_callC (va_runIN (As := []) (rest := [.ref ad34, .ref a0]) ⟨hx, hb, hml, hown, hts⟩ (c_X7_init l g T ad34 had34) ⟨va_cnB 0 hts (gw_ws cm_X7_init) rfl rfl rfl (hk.2.1 _ nw_4) (hts _ (tw1 (i := 19) rfl)) hd_X7_init.2 ⟨Nat.le_trans (by decide) hR1, Nat.le_trans (by decide) hR2⟩, rfl, hts _ (tw4 (i := 15) rfl)⟩ (tf_preS hk hW trivial) rfl rfl hl.1 rfl (lv_room (Nat.le_of_ble_eq_true rfl)) dX9_init_28 ⟨Nat.le_trans (by omega) hR3, Nat.le_trans (by omega) hR4⟩) hW (by decide) (tf_fresh hW0 hsz34) hsz34 had34 (fun H47 locs47 T hW hn47 hE47 hF47 => ?_)
  have hs48 := tf_keepF hF47 hn2 rfl rfl (by decide) hs35
  have hs49 := tf_keepC hF47 him2_0_0 rfl (by decide) hs36
  have hs50 := tf_keepF hF47 hn2 rfl rfl (by decide) hs37
  have hs51 := tf_keepC hF47 him2_1_0 rfl (by decide) hs38
  have hs52 := tf_keepF hF47 hn2 rfl rfl (by decide) hs39
  have hs53 := tf_keepC hF47 him2_2_0 rfl (by decide) hs40
  have hs54 := tf_keepF hF47 hn2 rfl rfl (by decide) hs41
  have hs55 := tf_keepC hF47 him2_3_0 rfl (by decide) hs42
  have hs56 := tf_keepF hF47 ha0 rfl rfl (by decide) hs43
  have hs57 := tf_keepS hF47 had12 rfl (by decide) hs44
  have hs58 := tf_keepS hF47 had12 rfl (by decide) hs45
  have hs59 := tf_keepF hF47 ha0 rfl rfl (by decide) hs46
  have ha0 := hE47 _ _ (tf_ne ha0 had34 (by decide)) ha0
  have hn2 := hE47 _ _ (tf_ne hn2 had34 (by decide)) hn2
  have him2_0_0 := hE47 _ _ (tf_ne him2_0_0 had34 (by decide)) him2_0_0
  have him2_1_0 := hE47 _ _ (tf_ne him2_1_0 had34 (by decide)) him2_1_0
  have him2_2_0 := hE47 _ _ (tf_ne him2_2_0 had34 (by decide)) him2_2_0
  have him2_3_0 := hE47 _ _ (tf_ne him2_3_0 had34 (by decide)) him2_3_0
  have had12 := hE47 _ _ (tf_ne had12 had34 (by decide)) had12
  refine tf_putF hx hb hts inlX9 tyX9 tyX9_ok nmX9 hown hK (ci := 9) rfl hW ha0 rfl rfl 2 rfl (by decide) (by decide) (hts _ fl_X9_23) rfl hin rfl trivial rfl rfl dX9_init_31 (fun H60 locs60 hW hs60 ht60 hq60 => ?_)
  have hs61 := tf_keepQ hs48 (hq60 _ (tf_ne hn2 ha0 (by decide)))
  have hs62 := tf_keepCQ hs49 (hq60 _ (tf_ne him2_0_0 ha0 (by decide)))
  have hs63 := tf_keepQ hs50 (hq60 _ (tf_ne hn2 ha0 (by decide)))
  have hs64 := tf_keepCQ hs51 (hq60 _ (tf_ne him2_1_0 ha0 (by decide)))
  have hs65 := tf_keepQ hs52 (hq60 _ (tf_ne hn2 ha0 (by decide)))
  have hs66 := tf_keepCQ hs53 (hq60 _ (tf_ne him2_2_0 ha0 (by decide)))
  have hs67 := tf_keepQ hs54 (hq60 _ (tf_ne hn2 ha0 (by decide)))
  have hs68 := tf_keepCQ hs55 (hq60 _ (tf_ne him2_3_0 ha0 (by decide)))
  have hs69 := (ht60 0 (by decide) (by decide)).trans hs56
  have hs70 := tf_keepQ hs57 (hq60 _ (tf_ne had12 ha0 (by decide)))
  have hs71 := tf_keepQ hs58 (hq60 _ (tf_ne had12 ha0 (by decide)))
  have hs72 := (ht60 1 (by decide) (by decide)).trans hs59
  refine lv_aload_n hx hb dX9_init_34 rfl (lv_at hl 0 rfl) ?_
  have hsz73 := hW.2.2.1.1
  refine tf_new (kr := 70) hx hb hts inlX6 tyX6 tyX6_ok hown (hts _ (tw1 (i := 21) rfl)) (hts _ (tw1 (i := 22) rfl)) (hts _ (tw1 (i := 23) rfl)) hK (ci := 6) rfl hW rfl ⟨rfl, by decide⟩ (Nat.le_trans (by omega) hR3) (Nat.le_trans (by omega) hR4) dX9_init_35 (fun ad73 H73 T hq73 hT73 had73 hE73 hW ho73 => ?_)
  have hsz73 := Nat.le_trans hsz73 (Nat.le_of_eq hq73)
  have hs74 := tf_keepQ hs61 (ho73 _ _ hn2)
  have hs75 := tf_keepCQ hs62 (ho73 _ _ him2_0_0)
  have hs76 := tf_keepQ hs63 (ho73 _ _ hn2)
  have hs77 := tf_keepCQ hs64 (ho73 _ _ him2_1_0)
  have hs78 := tf_keepQ hs65 (ho73 _ _ hn2)
  have hs79 := tf_keepCQ hs66 (ho73 _ _ him2_2_0)
  have hs80 := tf_keepQ hs67 (ho73 _ _ hn2)
  have hs81 := tf_keepCQ hs68 (ho73 _ _ him2_3_0)
  have hs82 := tf_keepQ hs69 (ho73 _ _ ha0)
  have hs83 := tf_keepQ hs70 (ho73 _ _ had12)
  have hs84 := tf_keepQ hs71 (ho73 _ _ had12)
  have hs85 := tf_keepQ hs72 (ho73 _ _ ha0)
  have hs86 := tf_keepQ hs60 (ho73 _ _ ha0)
  have ha0 := hE73 _ _ ha0
  have hn2 := hE73 _ _ hn2
  have him2_0_0 := hE73 _ _ him2_0_0
  have him2_1_0 := hE73 _ _ him2_1_0
  have him2_2_0 := hE73 _ _ him2_2_0
  have him2_3_0 := hE73 _ _ him2_3_0
  have had12 := hE73 _ _ had12
  have hn47 := hE73 _ _ hn47
  refine lv_dup hx hb dX9_init_38 rfl ?_
  refine tf_callC (va_runIN (As := []) (rest := [.ref ad73, .ref a0]) ⟨hx, hb, hml, hown, hts⟩ (c_X6_init l g T ad73 had73) ⟨va_cnB 0 hts (gw_ws cm_X6_init) rfl rfl rfl (hk.2.1 _ nw_5) (hts _ (tw1 (i := 23) rfl)) hd_X6_init.2 ⟨Nat.le_trans (by decide) hR1, Nat.le_trans (by decide) hR2⟩, rfl, hts _ (tw5 (i := 1) rfl)⟩ (tf_preS hk hW trivial) rfl rfl hl.1 rfl (lv_room (Nat.le_of_ble_eq_true rfl)) dX9_init_39 ⟨Nat.le_trans (by omega) hR3, Nat.le_trans (by omega) hR4⟩) hW (by decide) (tf_fresh hW0 hsz73) hsz73 had73 (fun H87 locs87 T hW hn87 hE87 hF87 => ?_)
  have hs88 := tf_keepF hF87 hn2 rfl rfl (by decide) hs74
  have hs89 := tf_keepC hF87 him2_0_0 rfl (by decide) hs75
  have hs90 := tf_keepF hF87 hn2 rfl rfl (by decide) hs76
  have hs91 := tf_keepC hF87 him2_1_0 rfl (by decide) hs77
  have hs92 := tf_keepF hF87 hn2 rfl rfl (by decide) hs78
  have hs93 := tf_keepC hF87 him2_2_0 rfl (by decide) hs79
  have hs94 := tf_keepF hF87 hn2 rfl rfl (by decide) hs80
  have hs95 := tf_keepC hF87 him2_3_0 rfl (by decide) hs81
  have hs96 := tf_keepF hF87 ha0 rfl rfl (by decide) hs82
  have hs97 := tf_keepS hF87 had12 rfl (by decide) hs83
  have hs98 := tf_keepS hF87 had12 rfl (by decide) hs84
  have hs99 := tf_keepF hF87 ha0 rfl rfl (by decide) hs85
  have hs100 := tf_keepF hF87 ha0 rfl rfl (by decide) hs86
  have ha0 := hE87 _ _ (tf_ne ha0 had73 (by decide)) ha0
  have hn2 := hE87 _ _ (tf_ne hn2 had73 (by decide)) hn2
  have him2_0_0 := hE87 _ _ (tf_ne him2_0_0 had73 (by decide)) him2_0_0
  have him2_1_0 := hE87 _ _ (tf_ne him2_1_0 had73 (by decide)) him2_1_0
  have him2_2_0 := hE87 _ _ (tf_ne him2_2_0 had73 (by decide)) him2_2_0
  have him2_3_0 := hE87 _ _ (tf_ne him2_3_0 had73 (by decide)) him2_3_0
  have had12 := hE87 _ _ (tf_ne had12 had73 (by decide)) had12
  have hn47 := hE87 _ _ (tf_ne hn47 had73 (by decide)) hn47
  refine tf_putF hx hb hts inlX9 tyX9 tyX9_ok nmX9 hown hK (ci := 9) rfl hW ha0 rfl rfl 3 rfl (by decide) (by decide) (hts _ fl_X9_30) rfl hin rfl trivial rfl rfl dX9_init_42 (fun H101 locs101 hW hs101 ht101 hq101 => ?_)
  have hs102 := tf_keepQ hs88 (hq101 _ (tf_ne hn2 ha0 (by decide)))
  have hs103 := tf_keepCQ hs89 (hq101 _ (tf_ne him2_0_0 ha0 (by decide)))
  have hs104 := tf_keepQ hs90 (hq101 _ (tf_ne hn2 ha0 (by decide)))
  have hs105 := tf_keepCQ hs91 (hq101 _ (tf_ne him2_1_0 ha0 (by decide)))
  have hs106 := tf_keepQ hs92 (hq101 _ (tf_ne hn2 ha0 (by decide)))
  have hs107 := tf_keepCQ hs93 (hq101 _ (tf_ne him2_2_0 ha0 (by decide)))
  have hs108 := tf_keepQ hs94 (hq101 _ (tf_ne hn2 ha0 (by decide)))
  have hs109 := tf_keepCQ hs95 (hq101 _ (tf_ne him2_3_0 ha0 (by decide)))
  have hs110 := (ht101 0 (by decide) (by decide)).trans hs96
  have hs111 := tf_keepQ hs97 (hq101 _ (tf_ne had12 ha0 (by decide)))
  have hs112 := tf_keepQ hs98 (hq101 _ (tf_ne had12 ha0 (by decide)))
  have hs113 := (ht101 1 (by decide) (by decide)).trans hs99
  have hs114 := (ht101 2 (by decide) (by decide)).trans hs100
  refine lv_aload_n hx hb dX9_init_45 rfl (lv_at hl 0 rfl) ?_
  have hsz115 := hW.2.2.1.1
  refine tf_new (kr := 66) hx hb hts inlX2 tyX2 tyX2_ok hown (hts _ (tw2 (i := 1) rfl)) (hts _ (tw2 (i := 2) rfl)) (hts _ (tw2 (i := 3) rfl)) hK (ci := 2) rfl hW rfl ⟨rfl, by decide⟩ (Nat.le_trans (by omega) hR3) (Nat.le_trans (by omega) hR4) dX9_init_46 (fun ad115 H115 T hq115 hT115 had115 hE115 hW ho115 => ?_)
  have hsz115 := Nat.le_trans hsz115 (Nat.le_of_eq hq115)
  have hs116 := tf_keepQ hs102 (ho115 _ _ hn2)
  have hs117 := tf_keepCQ hs103 (ho115 _ _ him2_0_0)
  have hs118 := tf_keepQ hs104 (ho115 _ _ hn2)
  have hs119 := tf_keepCQ hs105 (ho115 _ _ him2_1_0)
  have hs120 := tf_keepQ hs106 (ho115 _ _ hn2)
  have hs121 := tf_keepCQ hs107 (ho115 _ _ him2_2_0)
  have hs122 := tf_keepQ hs108 (ho115 _ _ hn2)
  have hs123 := tf_keepCQ hs109 (ho115 _ _ him2_3_0)
  have hs124 := tf_keepQ hs110 (ho115 _ _ ha0)
  have hs125 := tf_keepQ hs111 (ho115 _ _ had12)
  have hs126 := tf_keepQ hs112 (ho115 _ _ had12)
  have hs127 := tf_keepQ hs113 (ho115 _ _ ha0)
  have hs128 := tf_keepQ hs114 (ho115 _ _ ha0)
  have hs129 := tf_keepQ hs101 (ho115 _ _ ha0)
  have ha0 := hE115 _ _ ha0
  have hn2 := hE115 _ _ hn2
  have him2_0_0 := hE115 _ _ him2_0_0
  have him2_1_0 := hE115 _ _ him2_1_0
  have him2_2_0 := hE115 _ _ him2_2_0
  have him2_3_0 := hE115 _ _ him2_3_0
  have had12 := hE115 _ _ had12
  have hn47 := hE115 _ _ hn47
  have hn87 := hE115 _ _ hn87
  refine lv_dup hx hb dX9_init_49 rfl ?_
  refine tf_callC (va_runIN (As := []) (rest := [.ref ad115, .ref a0]) ⟨hx, hb, hml, hown, hts⟩ (c_X2_init l g T ad115 had115) ⟨va_cnB 0 hts (gw_ws cm_X2_init) rfl rfl rfl (hk.2.1 _ nw_7) (hts _ (tw2 (i := 3) rfl)) hd_X2_init.2 ⟨Nat.le_trans (by decide) hR1, Nat.le_trans (by decide) hR2⟩, rfl, hts _ (tw5 (i := 16) rfl)⟩ (tf_preS hk hW trivial) rfl rfl hl.1 rfl (lv_room (Nat.le_of_ble_eq_true rfl)) dX9_init_50 ⟨Nat.le_trans (by omega) hR3, Nat.le_trans (by omega) hR4⟩) hW (by decide) (tf_fresh hW0 hsz115) hsz115 had115 (fun H130 locs130 T hW hn130 hE130 hF130 => ?_)
  have hs131 := tf_keepF hF130 hn2 rfl rfl (by decide) hs116
  have hs132 := tf_keepC hF130 him2_0_0 rfl (by decide) hs117
  have hs133 := tf_keepF hF130 hn2 rfl rfl (by decide) hs118
  have hs134 := tf_keepC hF130 him2_1_0 rfl (by decide) hs119
  have hs135 := tf_keepF hF130 hn2 rfl rfl (by decide) hs120
  have hs136 := tf_keepC hF130 him2_2_0 rfl (by decide) hs121
  have hs137 := tf_keepF hF130 hn2 rfl rfl (by decide) hs122
  have hs138 := tf_keepC hF130 him2_3_0 rfl (by decide) hs123
  have hs139 := tf_keepF hF130 ha0 rfl rfl (by decide) hs124
  have hs140 := tf_keepS hF130 had12 rfl (by decide) hs125
  have hs141 := tf_keepS hF130 had12 rfl (by decide) hs126
  have hs142 := tf_keepF hF130 ha0 rfl rfl (by decide) hs127
  have hs143 := tf_keepF hF130 ha0 rfl rfl (by decide) hs128
  have hs144 := tf_keepF hF130 ha0 rfl rfl (by decide) hs129
  have ha0 := hE130 _ _ (tf_ne ha0 had115 (by decide)) ha0
  have hn2 := hE130 _ _ (tf_ne hn2 had115 (by decide)) hn2
  have him2_0_0 := hE130 _ _ (tf_ne him2_0_0 had115 (by decide)) him2_0_0
  have him2_1_0 := hE130 _ _ (tf_ne him2_1_0 had115 (by decide)) him2_1_0
  have him2_2_0 := hE130 _ _ (tf_ne him2_2_0 had115 (by decide)) him2_2_0
  have him2_3_0 := hE130 _ _ (tf_ne him2_3_0 had115 (by decide)) him2_3_0
  have had12 := hE130 _ _ (tf_ne had12 had115 (by decide)) had12
  have hn47 := hE130 _ _ (tf_ne hn47 had115 (by decide)) hn47
  have hn87 := hE130 _ _ (tf_ne hn87 had115 (by decide)) hn87
  refine tf_putF hx hb hts inlX9 tyX9 tyX9_ok nmX9 hown hK (ci := 9) rfl hW ha0 rfl rfl 4 rfl (by decide) (by decide) (hts _ fl_X9_37) rfl hin rfl trivial rfl rfl dX9_init_53 (fun H145 locs145 hW hs145 ht145 hq145 => ?_)
  have hs146 := tf_keepQ hs131 (hq145 _ (tf_ne hn2 ha0 (by decide)))
  have hs147 := tf_keepCQ hs132 (hq145 _ (tf_ne him2_0_0 ha0 (by decide)))
  have hs148 := tf_keepQ hs133 (hq145 _ (tf_ne hn2 ha0 (by decide)))
  have hs149 := tf_keepCQ hs134 (hq145 _ (tf_ne him2_1_0 ha0 (by decide)))
  have hs150 := tf_keepQ hs135 (hq145 _ (tf_ne hn2 ha0 (by decide)))
  have hs151 := tf_keepCQ hs136 (hq145 _ (tf_ne him2_2_0 ha0 (by decide)))
  have hs152 := tf_keepQ hs137 (hq145 _ (tf_ne hn2 ha0 (by decide)))
  have hs153 := tf_keepCQ hs138 (hq145 _ (tf_ne him2_3_0 ha0 (by decide)))
  have hs154 := (ht145 0 (by decide) (by decide)).trans hs139
  have hs155 := tf_keepQ hs140 (hq145 _ (tf_ne had12 ha0 (by decide)))
  have hs156 := tf_keepQ hs141 (hq145 _ (tf_ne had12 ha0 (by decide)))
  have hs157 := (ht145 1 (by decide) (by decide)).trans hs142
  have hs158 := (ht145 2 (by decide) (by decide)).trans hs143
  have hs159 := (ht145 3 (by decide) (by decide)).trans hs144
  refine lv_aload_n hx hb dX9_init_56 rfl (lv_at hl 0 rfl) ?_
  refine tf_bipush hx hb dX9_init_57 (by decide) ?_
  refine tf_newarr (atype := .int) (ty := .int) (f := (0, 0, 0, -2147483648, 2147483647)) (t0 := 0) (k := 0) (N := 100) hx hb (hts _ (tw2 (i := 5) rfl)) hK rfl rfl rfl (fun h => h) (tf_d0 (by decide) (by decide)) hW (by omega) rfl (by decide) (by decide) (Nat.le_trans (by omega) hR3) (Nat.le_trans (by omega) hR4) dX9_init_59 (fun ad160 H160 T hq160 hT160 had160 hE160 hW ho160 => ?_)
  have hs161 := tf_keepQ hs146 (ho160 _ _ hn2)
  have hs162 := tf_keepCQ hs147 (ho160 _ _ him2_0_0)
  have hs163 := tf_keepQ hs148 (ho160 _ _ hn2)
  have hs164 := tf_keepCQ hs149 (ho160 _ _ him2_1_0)
  have hs165 := tf_keepQ hs150 (ho160 _ _ hn2)
  have hs166 := tf_keepCQ hs151 (ho160 _ _ him2_2_0)
  have hs167 := tf_keepQ hs152 (ho160 _ _ hn2)
  have hs168 := tf_keepCQ hs153 (ho160 _ _ him2_3_0)
  have hs169 := tf_keepQ hs154 (ho160 _ _ ha0)
  have hs170 := tf_keepQ hs155 (ho160 _ _ had12)
  have hs171 := tf_keepQ hs156 (ho160 _ _ had12)
  have hs172 := tf_keepQ hs157 (ho160 _ _ ha0)
  have hs173 := tf_keepQ hs158 (ho160 _ _ ha0)
  have hs174 := tf_keepQ hs159 (ho160 _ _ ha0)
  have hs175 := tf_keepQ hs145 (ho160 _ _ ha0)
  have ha0 := hE160 _ _ ha0
  have hn2 := hE160 _ _ hn2
  have him2_0_0 := hE160 _ _ him2_0_0
  have him2_1_0 := hE160 _ _ him2_1_0
  have him2_2_0 := hE160 _ _ him2_2_0
  have him2_3_0 := hE160 _ _ him2_3_0
  have had12 := hE160 _ _ had12
  have hn47 := hE160 _ _ hn47
  have hn87 := hE160 _ _ hn87
  have hn130 := hE160 _ _ hn130
  refine tf_putF hx hb hts inlX9 tyX9 tyX9_ok nmX9 hown hK (ci := 9) rfl hW ha0 rfl rfl 5 rfl (by decide) (by decide) (hts _ fl_X9_41) rfl hin rfl trivial rfl rfl dX9_init_61 (fun H176 locs176 hW hs176 ht176 hq176 => ?_)
  have hs177 := tf_keepQ hs161 (hq176 _ (tf_ne hn2 ha0 (by decide)))
  have hs178 := tf_keepCQ hs162 (hq176 _ (tf_ne him2_0_0 ha0 (by decide)))
  have hs179 := tf_keepQ hs163 (hq176 _ (tf_ne hn2 ha0 (by decide)))
  have hs180 := tf_keepCQ hs164 (hq176 _ (tf_ne him2_1_0 ha0 (by decide)))
  have hs181 := tf_keepQ hs165 (hq176 _ (tf_ne hn2 ha0 (by decide)))
  have hs182 := tf_keepCQ hs166 (hq176 _ (tf_ne him2_2_0 ha0 (by decide)))
  have hs183 := tf_keepQ hs167 (hq176 _ (tf_ne hn2 ha0 (by decide)))
  have hs184 := tf_keepCQ hs168 (hq176 _ (tf_ne him2_3_0 ha0 (by decide)))
  have hs185 := (ht176 0 (by decide) (by decide)).trans hs169
  have hs186 := tf_keepQ hs170 (hq176 _ (tf_ne had12 ha0 (by decide)))
  have hs187 := tf_keepQ hs171 (hq176 _ (tf_ne had12 ha0 (by decide)))
  have hs188 := (ht176 1 (by decide) (by decide)).trans hs172
  have hs189 := (ht176 2 (by decide) (by decide)).trans hs173
  have hs190 := (ht176 3 (by decide) (by decide)).trans hs174
  have hs191 := (ht176 4 (by decide) (by decide)).trans hs175
  refine lv_aload_n hx hb dX9_init_64 rfl (lv_at hl 0 rfl) ?_
  refine tf_sipush hx hb dX9_init_65 (by decide) ?_
  refine tf_newarrN (atype := .int) (ty := .int) (f := (0, 0, 0, 0, 255)) (t0 := 0) (k := 3) (N := 400) hx hb (hts _ (tw2 (i := 5) rfl)) hK rfl rfl rfl (fun h => h) (tf_d0 (by decide) (by decide)) hW (by omega) rfl (by decide) (by decide) (Nat.le_trans (by omega) hR3) (Nat.le_trans (by omega) hR4) dX9_init_68 (fun ad192 H192 T hq192 hT192 had192 hE192 hW ho192 hN192 => ?_)
  have hs193 := tf_keepQ hs177 (ho192 _ _ hn2)
  have hs194 := tf_keepCQ hs178 (ho192 _ _ him2_0_0)
  have hs195 := tf_keepQ hs179 (ho192 _ _ hn2)
  have hs196 := tf_keepCQ hs180 (ho192 _ _ him2_1_0)
  have hs197 := tf_keepQ hs181 (ho192 _ _ hn2)
  have hs198 := tf_keepCQ hs182 (ho192 _ _ him2_2_0)
  have hs199 := tf_keepQ hs183 (ho192 _ _ hn2)
  have hs200 := tf_keepCQ hs184 (ho192 _ _ him2_3_0)
  have hs201 := tf_keepQ hs185 (ho192 _ _ ha0)
  have hs202 := tf_keepQ hs186 (ho192 _ _ had12)
  have hs203 := tf_keepQ hs187 (ho192 _ _ had12)
  have hs204 := tf_keepQ hs188 (ho192 _ _ ha0)
  have hs205 := tf_keepQ hs189 (ho192 _ _ ha0)
  have hs206 := tf_keepQ hs190 (ho192 _ _ ha0)
  have hs207 := tf_keepQ hs191 (ho192 _ _ ha0)
  have hs208 := tf_keepQ hs176 (ho192 _ _ ha0)
  have ha0 := hE192 _ _ ha0
  have hn2 := hE192 _ _ hn2
  have him2_0_0 := hE192 _ _ him2_0_0
  have him2_1_0 := hE192 _ _ him2_1_0
  have him2_2_0 := hE192 _ _ him2_2_0
  have him2_3_0 := hE192 _ _ him2_3_0
  have had12 := hE192 _ _ had12
  have hn47 := hE192 _ _ hn47
  have hn87 := hE192 _ _ hn87
  have hn130 := hE192 _ _ hn130
  have had160 := hE192 _ _ had160
  refine tf_putF hx hb hts inlX9 tyX9 tyX9_ok nmX9 hown hK (ci := 9) rfl hW ha0 rfl rfl 6 rfl (by decide) (by decide) (hts _ fl_X9_45) rfl hin rfl trivial rfl rfl dX9_init_70 (fun H209 locs209 hW hs209 ht209 hq209 => ?_)
  have hs210 := tf_keepQ hs193 (hq209 _ (tf_ne hn2 ha0 (by decide)))
  have hs211 := tf_keepCQ hs194 (hq209 _ (tf_ne him2_0_0 ha0 (by decide)))
  have hs212 := tf_keepQ hs195 (hq209 _ (tf_ne hn2 ha0 (by decide)))
  have hs213 := tf_keepCQ hs196 (hq209 _ (tf_ne him2_1_0 ha0 (by decide)))
  have hs214 := tf_keepQ hs197 (hq209 _ (tf_ne hn2 ha0 (by decide)))
  have hs215 := tf_keepCQ hs198 (hq209 _ (tf_ne him2_2_0 ha0 (by decide)))
  have hs216 := tf_keepQ hs199 (hq209 _ (tf_ne hn2 ha0 (by decide)))
  have hs217 := tf_keepCQ hs200 (hq209 _ (tf_ne him2_3_0 ha0 (by decide)))
  have hs218 := (ht209 0 (by decide) (by decide)).trans hs201
  have hs219 := tf_keepQ hs202 (hq209 _ (tf_ne had12 ha0 (by decide)))
  have hs220 := tf_keepQ hs203 (hq209 _ (tf_ne had12 ha0 (by decide)))
  have hs221 := (ht209 1 (by decide) (by decide)).trans hs204
  have hs222 := (ht209 2 (by decide) (by decide)).trans hs205
  have hs223 := (ht209 3 (by decide) (by decide)).trans hs206
  have hs224 := (ht209 4 (by decide) (by decide)).trans hs207
  have hs225 := (ht209 5 (by decide) (by decide)).trans hs208
  have hs226 := tf_keepCQ hN192 (hq209 _ (tf_ne had192 ha0 (by decide)))
  refine lv_aload_n hx hb dX9_init_73 rfl (lv_at hl 0 rfl) ?_
  refine tf_iconst hx hb dX9_init_74 ?_
  refine tf_put hx hb hts inlX9 tyX9 tyX9_ok nmX9 hown hK (ci := 9) rfl hW ha0 rfl rfl 7 rfl (by decide) (by decide) (hts _ fl_X9_48) rfl trivial rfl rfl dX9_init_75 (fun H227 locs227 hW hs227 ht227 hq227 => ?_)
  have hs228 := tf_keepQ hs210 (hq227 _ (tf_ne hn2 ha0 (by decide)))
  have hs229 := tf_keepCQ hs211 (hq227 _ (tf_ne him2_0_0 ha0 (by decide)))
  have hs230 := tf_keepQ hs212 (hq227 _ (tf_ne hn2 ha0 (by decide)))
  have hs231 := tf_keepCQ hs213 (hq227 _ (tf_ne him2_1_0 ha0 (by decide)))
  have hs232 := tf_keepQ hs214 (hq227 _ (tf_ne hn2 ha0 (by decide)))
  have hs233 := tf_keepCQ hs215 (hq227 _ (tf_ne him2_2_0 ha0 (by decide)))
  have hs234 := tf_keepQ hs216 (hq227 _ (tf_ne hn2 ha0 (by decide)))
  have hs235 := tf_keepCQ hs217 (hq227 _ (tf_ne him2_3_0 ha0 (by decide)))
  have hs236 := (ht227 0 (by decide) (by decide)).trans hs218
  have hs237 := tf_keepQ hs219 (hq227 _ (tf_ne had12 ha0 (by decide)))
  have hs238 := tf_keepQ hs220 (hq227 _ (tf_ne had12 ha0 (by decide)))
  have hs239 := (ht227 1 (by decide) (by decide)).trans hs221
  have hs240 := (ht227 2 (by decide) (by decide)).trans hs222
  have hs241 := (ht227 3 (by decide) (by decide)).trans hs223
  have hs242 := (ht227 4 (by decide) (by decide)).trans hs224
  have hs243 := (ht227 5 (by decide) (by decide)).trans hs225
  have hs244 := tf_keepCQ hs226 (hq227 _ (tf_ne had192 ha0 (by decide)))
  have hs245 := (ht227 6 (by decide) (by decide)).trans hs209
  refine lv_aload_n hx hb dX9_init_78 rfl (lv_at hl 0 rfl) ?_
  refine tf_iconst hx hb dX9_init_79 ?_
  refine tf_put hx hb hts inlX9 tyX9 tyX9_ok nmX9 hown hK (ci := 9) rfl hW ha0 rfl rfl 8 rfl (by decide) (by decide) (hts _ fl_X9_52) rfl trivial rfl rfl dX9_init_80 (fun H246 locs246 hW hs246 ht246 hq246 => ?_)
  have hs247 := tf_keepQ hs228 (hq246 _ (tf_ne hn2 ha0 (by decide)))
  have hs248 := tf_keepCQ hs229 (hq246 _ (tf_ne him2_0_0 ha0 (by decide)))
  have hs249 := tf_keepQ hs230 (hq246 _ (tf_ne hn2 ha0 (by decide)))
  have hs250 := tf_keepCQ hs231 (hq246 _ (tf_ne him2_1_0 ha0 (by decide)))
  have hs251 := tf_keepQ hs232 (hq246 _ (tf_ne hn2 ha0 (by decide)))
  have hs252 := tf_keepCQ hs233 (hq246 _ (tf_ne him2_2_0 ha0 (by decide)))
  have hs253 := tf_keepQ hs234 (hq246 _ (tf_ne hn2 ha0 (by decide)))
  have hs254 := tf_keepCQ hs235 (hq246 _ (tf_ne him2_3_0 ha0 (by decide)))
  have hs255 := (ht246 0 (by decide) (by decide)).trans hs236
  have hs256 := tf_keepQ hs237 (hq246 _ (tf_ne had12 ha0 (by decide)))
  have hs257 := tf_keepQ hs238 (hq246 _ (tf_ne had12 ha0 (by decide)))
  have hs258 := (ht246 1 (by decide) (by decide)).trans hs239
  have hs259 := (ht246 2 (by decide) (by decide)).trans hs240
  have hs260 := (ht246 3 (by decide) (by decide)).trans hs241
  have hs261 := (ht246 4 (by decide) (by decide)).trans hs242
  have hs262 := (ht246 5 (by decide) (by decide)).trans hs243
  have hs263 := tf_keepCQ hs244 (hq246 _ (tf_ne had192 ha0 (by decide)))
  have hs264 := (ht246 6 (by decide) (by decide)).trans hs245
  have hs265 := (ht246 7 (by decide) (by decide)).trans hs227
  refine lv_aload_n hx hb dX9_init_83 rfl (lv_at hl 0 rfl) ?_
  refine tf_iconst hx hb dX9_init_84 ?_
  refine tf_put hx hb hts inlX9 tyX9 tyX9_ok nmX9 hown hK (ci := 9) rfl hW ha0 rfl rfl 9 rfl (by decide) (by decide) (hts _ fl_X9_55) rfl trivial rfl rfl dX9_init_85 (fun H266 locs266 hW hs266 ht266 hq266 => ?_)
  have hs267 := tf_keepQ hs247 (hq266 _ (tf_ne hn2 ha0 (by decide)))
  have hs268 := tf_keepCQ hs248 (hq266 _ (tf_ne him2_0_0 ha0 (by decide)))
  have hs269 := tf_keepQ hs249 (hq266 _ (tf_ne hn2 ha0 (by decide)))
  have hs270 := tf_keepCQ hs250 (hq266 _ (tf_ne him2_1_0 ha0 (by decide)))
  have hs271 := tf_keepQ hs251 (hq266 _ (tf_ne hn2 ha0 (by decide)))
  have hs272 := tf_keepCQ hs252 (hq266 _ (tf_ne him2_2_0 ha0 (by decide)))
  have hs273 := tf_keepQ hs253 (hq266 _ (tf_ne hn2 ha0 (by decide)))
  have hs274 := tf_keepCQ hs254 (hq266 _ (tf_ne him2_3_0 ha0 (by decide)))
  have hs275 := (ht266 0 (by decide) (by decide)).trans hs255
  have hs276 := tf_keepQ hs256 (hq266 _ (tf_ne had12 ha0 (by decide)))
  have hs277 := tf_keepQ hs257 (hq266 _ (tf_ne had12 ha0 (by decide)))
  have hs278 := (ht266 1 (by decide) (by decide)).trans hs258
  have hs279 := (ht266 2 (by decide) (by decide)).trans hs259
  have hs280 := (ht266 3 (by decide) (by decide)).trans hs260
  have hs281 := (ht266 4 (by decide) (by decide)).trans hs261
  have hs282 := (ht266 5 (by decide) (by decide)).trans hs262
  have hs283 := tf_keepCQ hs263 (hq266 _ (tf_ne had192 ha0 (by decide)))
  have hs284 := (ht266 6 (by decide) (by decide)).trans hs264
  have hs285 := (ht266 7 (by decide) (by decide)).trans hs265
  have hs286 := (ht266 8 (by decide) (by decide)).trans hs246
  refine lv_aload_n hx hb dX9_init_88 rfl (lv_at hl 0 rfl) ?_
  refine tf_bipush hx hb dX9_init_89 (by decide) ?_
  refine tf_newarrN (atype := .int) (ty := .int) (f := (0, 0, 0, 0, 39)) (t0 := 0) (k := 12) (N := 24) hx hb (hts _ (tw2 (i := 5) rfl)) hK rfl rfl rfl (fun h => h) (tf_d0 (by decide) (by decide)) hW (by omega) rfl (by decide) (by decide) (Nat.le_trans (by omega) hR3) (Nat.le_trans (by omega) hR4) dX9_init_91 (fun ad287 H287 T hq287 hT287 had287 hE287 hW ho287 hN287 => ?_)
  have hs288 := tf_keepQ hs267 (ho287 _ _ hn2)
  have hs289 := tf_keepCQ hs268 (ho287 _ _ him2_0_0)
  have hs290 := tf_keepQ hs269 (ho287 _ _ hn2)
  have hs291 := tf_keepCQ hs270 (ho287 _ _ him2_1_0)
  have hs292 := tf_keepQ hs271 (ho287 _ _ hn2)
  have hs293 := tf_keepCQ hs272 (ho287 _ _ him2_2_0)
  have hs294 := tf_keepQ hs273 (ho287 _ _ hn2)
  have hs295 := tf_keepCQ hs274 (ho287 _ _ him2_3_0)
  have hs296 := tf_keepQ hs275 (ho287 _ _ ha0)
  have hs297 := tf_keepQ hs276 (ho287 _ _ had12)
  have hs298 := tf_keepQ hs277 (ho287 _ _ had12)
  have hs299 := tf_keepQ hs278 (ho287 _ _ ha0)
  have hs300 := tf_keepQ hs279 (ho287 _ _ ha0)
  have hs301 := tf_keepQ hs280 (ho287 _ _ ha0)
  have hs302 := tf_keepQ hs281 (ho287 _ _ ha0)
  have hs303 := tf_keepQ hs282 (ho287 _ _ ha0)
  have hs304 := tf_keepCQ hs283 (ho287 _ _ had192)
  have hs305 := tf_keepQ hs284 (ho287 _ _ ha0)
  have hs306 := tf_keepQ hs285 (ho287 _ _ ha0)
  have hs307 := tf_keepQ hs286 (ho287 _ _ ha0)
  have hs308 := tf_keepQ hs266 (ho287 _ _ ha0)
  have ha0 := hE287 _ _ ha0
  have hn2 := hE287 _ _ hn2
  have him2_0_0 := hE287 _ _ him2_0_0
  have him2_1_0 := hE287 _ _ him2_1_0
  have him2_2_0 := hE287 _ _ him2_2_0
  have him2_3_0 := hE287 _ _ him2_3_0
  have had12 := hE287 _ _ had12
  have hn47 := hE287 _ _ hn47
  have hn87 := hE287 _ _ hn87
  have hn130 := hE287 _ _ hn130
  have had160 := hE287 _ _ had160
  have had192 := hE287 _ _ had192
  refine tf_putF hx hb hts inlX9 tyX9 tyX9_ok nmX9 hown hK (ci := 9) rfl hW ha0 rfl rfl 10 rfl (by decide) (by decide) (hts _ fl_X9_58) rfl hin rfl trivial rfl rfl dX9_init_93 (fun H309 locs309 hW hs309 ht309 hq309 => ?_)
  have hs310 := tf_keepQ hs288 (hq309 _ (tf_ne hn2 ha0 (by decide)))
  have hs311 := tf_keepCQ hs289 (hq309 _ (tf_ne him2_0_0 ha0 (by decide)))
  have hs312 := tf_keepQ hs290 (hq309 _ (tf_ne hn2 ha0 (by decide)))
  have hs313 := tf_keepCQ hs291 (hq309 _ (tf_ne him2_1_0 ha0 (by decide)))
  have hs314 := tf_keepQ hs292 (hq309 _ (tf_ne hn2 ha0 (by decide)))
  have hs315 := tf_keepCQ hs293 (hq309 _ (tf_ne him2_2_0 ha0 (by decide)))
  have hs316 := tf_keepQ hs294 (hq309 _ (tf_ne hn2 ha0 (by decide)))
  have hs317 := tf_keepCQ hs295 (hq309 _ (tf_ne him2_3_0 ha0 (by decide)))
  have hs318 := (ht309 0 (by decide) (by decide)).trans hs296
  have hs319 := tf_keepQ hs297 (hq309 _ (tf_ne had12 ha0 (by decide)))
  have hs320 := tf_keepQ hs298 (hq309 _ (tf_ne had12 ha0 (by decide)))
  have hs321 := (ht309 1 (by decide) (by decide)).trans hs299
  have hs322 := (ht309 2 (by decide) (by decide)).trans hs300
  have hs323 := (ht309 3 (by decide) (by decide)).trans hs301
  have hs324 := (ht309 4 (by decide) (by decide)).trans hs302
  have hs325 := (ht309 5 (by decide) (by decide)).trans hs303
  have hs326 := tf_keepCQ hs304 (hq309 _ (tf_ne had192 ha0 (by decide)))
  have hs327 := (ht309 6 (by decide) (by decide)).trans hs305
  have hs328 := (ht309 7 (by decide) (by decide)).trans hs306
  have hs329 := (ht309 8 (by decide) (by decide)).trans hs307
  have hs330 := (ht309 9 (by decide) (by decide)).trans hs308
  have hs331 := tf_keepCQ hN287 (hq309 _ (tf_ne had287 ha0 (by decide)))
  refine lv_aload_n hx hb dX9_init_96 rfl (lv_at hl 0 rfl) ?_
  refine tf_iconst hx hb dX9_init_97 ?_
  refine tf_put hx hb hts inlX9 tyX9 tyX9_ok nmX9 hown hK (ci := 9) rfl hW ha0 rfl rfl 11 rfl (by decide) (by decide) (hts _ fl_X9_61) rfl trivial (tf_narZ (by omega)) (tf_fitZ (by omega)) dX9_init_98 (fun H332 locs332 hW hs332 ht332 hq332 => ?_)
  have hs333 := tf_keepQ hs310 (hq332 _ (tf_ne hn2 ha0 (by decide)))
  have hs334 := tf_keepCQ hs311 (hq332 _ (tf_ne him2_0_0 ha0 (by decide)))
  have hs335 := tf_keepQ hs312 (hq332 _ (tf_ne hn2 ha0 (by decide)))
  have hs336 := tf_keepCQ hs313 (hq332 _ (tf_ne him2_1_0 ha0 (by decide)))
  have hs337 := tf_keepQ hs314 (hq332 _ (tf_ne hn2 ha0 (by decide)))
  have hs338 := tf_keepCQ hs315 (hq332 _ (tf_ne him2_2_0 ha0 (by decide)))
  have hs339 := tf_keepQ hs316 (hq332 _ (tf_ne hn2 ha0 (by decide)))
  have hs340 := tf_keepCQ hs317 (hq332 _ (tf_ne him2_3_0 ha0 (by decide)))
  have hs341 := (ht332 0 (by decide) (by decide)).trans hs318
  have hs342 := tf_keepQ hs319 (hq332 _ (tf_ne had12 ha0 (by decide)))
  have hs343 := tf_keepQ hs320 (hq332 _ (tf_ne had12 ha0 (by decide)))
  have hs344 := (ht332 1 (by decide) (by decide)).trans hs321
  have hs345 := (ht332 2 (by decide) (by decide)).trans hs322
  have hs346 := (ht332 3 (by decide) (by decide)).trans hs323
  have hs347 := (ht332 4 (by decide) (by decide)).trans hs324
  have hs348 := (ht332 5 (by decide) (by decide)).trans hs325
  have hs349 := tf_keepCQ hs326 (hq332 _ (tf_ne had192 ha0 (by decide)))
  have hs350 := (ht332 6 (by decide) (by decide)).trans hs327
  have hs351 := (ht332 7 (by decide) (by decide)).trans hs328
  have hs352 := (ht332 8 (by decide) (by decide)).trans hs329
  have hs353 := (ht332 9 (by decide) (by decide)).trans hs330
  have hs354 := tf_keepCQ hs331 (hq332 _ (tf_ne had287 ha0 (by decide)))
  have hs355 := (ht332 10 (by decide) (by decide)).trans hs309
  refine lv_aload_n hx hb dX9_init_101 rfl (lv_at hl 0 rfl) ?_
  refine tf_bipush hx hb dX9_init_102 (by decide) ?_
  refine tf_newarr (atype := .int) (ty := .int) (f := (0, 0, 0, -2147483648, 2147483647)) (t0 := 0) (k := 13) (N := 7) hx hb (hts _ (tw2 (i := 5) rfl)) hK rfl rfl rfl (fun h => h) (tf_d0 (by decide) (by decide)) hW (by omega) rfl (by decide) (by decide) (Nat.le_trans (by omega) hR3) (Nat.le_trans (by omega) hR4) dX9_init_104 (fun ad356 H356 T hq356 hT356 had356 hE356 hW ho356 => ?_)
  have hs357 := tf_keepQ hs333 (ho356 _ _ hn2)
  have hs358 := tf_keepCQ hs334 (ho356 _ _ him2_0_0)
  have hs359 := tf_keepQ hs335 (ho356 _ _ hn2)
  have hs360 := tf_keepCQ hs336 (ho356 _ _ him2_1_0)
  have hs361 := tf_keepQ hs337 (ho356 _ _ hn2)
  have hs362 := tf_keepCQ hs338 (ho356 _ _ him2_2_0)
  have hs363 := tf_keepQ hs339 (ho356 _ _ hn2)
  have hs364 := tf_keepCQ hs340 (ho356 _ _ him2_3_0)
  have hs365 := tf_keepQ hs341 (ho356 _ _ ha0)
  have hs366 := tf_keepQ hs342 (ho356 _ _ had12)
  have hs367 := tf_keepQ hs343 (ho356 _ _ had12)
  have hs368 := tf_keepQ hs344 (ho356 _ _ ha0)
  have hs369 := tf_keepQ hs345 (ho356 _ _ ha0)
  have hs370 := tf_keepQ hs346 (ho356 _ _ ha0)
  have hs371 := tf_keepQ hs347 (ho356 _ _ ha0)
  have hs372 := tf_keepQ hs348 (ho356 _ _ ha0)
  have hs373 := tf_keepCQ hs349 (ho356 _ _ had192)
  have hs374 := tf_keepQ hs350 (ho356 _ _ ha0)
  have hs375 := tf_keepQ hs351 (ho356 _ _ ha0)
  have hs376 := tf_keepQ hs352 (ho356 _ _ ha0)
  have hs377 := tf_keepQ hs353 (ho356 _ _ ha0)
  have hs378 := tf_keepCQ hs354 (ho356 _ _ had287)
  have hs379 := tf_keepQ hs355 (ho356 _ _ ha0)
  have hs380 := tf_keepQ hs332 (ho356 _ _ ha0)
  have ha0 := hE356 _ _ ha0
  have hn2 := hE356 _ _ hn2
  have him2_0_0 := hE356 _ _ him2_0_0
  have him2_1_0 := hE356 _ _ him2_1_0
  have him2_2_0 := hE356 _ _ him2_2_0
  have him2_3_0 := hE356 _ _ him2_3_0
  have had12 := hE356 _ _ had12
  have hn47 := hE356 _ _ hn47
  have hn87 := hE356 _ _ hn87
  have hn130 := hE356 _ _ hn130
  have had160 := hE356 _ _ had160
  have had192 := hE356 _ _ had192
  have had287 := hE356 _ _ had287
  refine tf_putF hx hb hts inlX9 tyX9 tyX9_ok nmX9 hown hK (ci := 9) rfl hW ha0 rfl rfl 12 rfl (by decide) (by decide) (hts _ fl_X9_65) rfl hin rfl trivial rfl rfl dX9_init_106 (fun H381 locs381 hW hs381 ht381 hq381 => ?_)
  have hs382 := tf_keepQ hs357 (hq381 _ (tf_ne hn2 ha0 (by decide)))
  have hs383 := tf_keepCQ hs358 (hq381 _ (tf_ne him2_0_0 ha0 (by decide)))
  have hs384 := tf_keepQ hs359 (hq381 _ (tf_ne hn2 ha0 (by decide)))
  have hs385 := tf_keepCQ hs360 (hq381 _ (tf_ne him2_1_0 ha0 (by decide)))
  have hs386 := tf_keepQ hs361 (hq381 _ (tf_ne hn2 ha0 (by decide)))
  have hs387 := tf_keepCQ hs362 (hq381 _ (tf_ne him2_2_0 ha0 (by decide)))
  have hs388 := tf_keepQ hs363 (hq381 _ (tf_ne hn2 ha0 (by decide)))
  have hs389 := tf_keepCQ hs364 (hq381 _ (tf_ne him2_3_0 ha0 (by decide)))
  have hs390 := (ht381 0 (by decide) (by decide)).trans hs365
  have hs391 := tf_keepQ hs366 (hq381 _ (tf_ne had12 ha0 (by decide)))
  have hs392 := tf_keepQ hs367 (hq381 _ (tf_ne had12 ha0 (by decide)))
  have hs393 := (ht381 1 (by decide) (by decide)).trans hs368
  have hs394 := (ht381 2 (by decide) (by decide)).trans hs369
  have hs395 := (ht381 3 (by decide) (by decide)).trans hs370
  have hs396 := (ht381 4 (by decide) (by decide)).trans hs371
  have hs397 := (ht381 5 (by decide) (by decide)).trans hs372
  have hs398 := tf_keepCQ hs373 (hq381 _ (tf_ne had192 ha0 (by decide)))
  have hs399 := (ht381 6 (by decide) (by decide)).trans hs374
  have hs400 := (ht381 7 (by decide) (by decide)).trans hs375
  have hs401 := (ht381 8 (by decide) (by decide)).trans hs376
  have hs402 := (ht381 9 (by decide) (by decide)).trans hs377
  have hs403 := tf_keepCQ hs378 (hq381 _ (tf_ne had287 ha0 (by decide)))
  have hs404 := (ht381 10 (by decide) (by decide)).trans hs379
  have hs405 := (ht381 11 (by decide) (by decide)).trans hs380
  refine lv_aload_n hx hb dX9_init_109 rfl (lv_at hl 0 rfl) ?_
  refine tf_iconst hx hb dX9_init_110 ?_
  refine tf_put hx hb hts inlX9 tyX9 tyX9_ok nmX9 hown hK (ci := 9) rfl hW ha0 rfl rfl 13 rfl (by decide) (by decide) (hts _ fl_X9_68) rfl trivial rfl rfl dX9_init_111 (fun H406 locs406 hW hs406 ht406 hq406 => ?_)
  have hs407 := tf_keepQ hs382 (hq406 _ (tf_ne hn2 ha0 (by decide)))
  have hs408 := tf_keepCQ hs383 (hq406 _ (tf_ne him2_0_0 ha0 (by decide)))
  have hs409 := tf_keepQ hs384 (hq406 _ (tf_ne hn2 ha0 (by decide)))
  have hs410 := tf_keepCQ hs385 (hq406 _ (tf_ne him2_1_0 ha0 (by decide)))
  have hs411 := tf_keepQ hs386 (hq406 _ (tf_ne hn2 ha0 (by decide)))
  have hs412 := tf_keepCQ hs387 (hq406 _ (tf_ne him2_2_0 ha0 (by decide)))
  have hs413 := tf_keepQ hs388 (hq406 _ (tf_ne hn2 ha0 (by decide)))
  have hs414 := tf_keepCQ hs389 (hq406 _ (tf_ne him2_3_0 ha0 (by decide)))
  have hs415 := (ht406 0 (by decide) (by decide)).trans hs390
  have hs416 := tf_keepQ hs391 (hq406 _ (tf_ne had12 ha0 (by decide)))
  have hs417 := tf_keepQ hs392 (hq406 _ (tf_ne had12 ha0 (by decide)))
  have hs418 := (ht406 1 (by decide) (by decide)).trans hs393
  have hs419 := (ht406 2 (by decide) (by decide)).trans hs394
  have hs420 := (ht406 3 (by decide) (by decide)).trans hs395
  have hs421 := (ht406 4 (by decide) (by decide)).trans hs396
  have hs422 := (ht406 5 (by decide) (by decide)).trans hs397
  have hs423 := tf_keepCQ hs398 (hq406 _ (tf_ne had192 ha0 (by decide)))
  have hs424 := (ht406 6 (by decide) (by decide)).trans hs399
  have hs425 := (ht406 7 (by decide) (by decide)).trans hs400
  have hs426 := (ht406 8 (by decide) (by decide)).trans hs401
  have hs427 := (ht406 9 (by decide) (by decide)).trans hs402
  have hs428 := tf_keepCQ hs403 (hq406 _ (tf_ne had287 ha0 (by decide)))
  have hs429 := (ht406 10 (by decide) (by decide)).trans hs404
  have hs430 := (ht406 11 (by decide) (by decide)).trans hs405
  have hs431 := (ht406 12 (by decide) (by decide)).trans hs381
  refine W.widen (k := 47) (n := 6280) (by omega) (by omega) ?_
  exact tf_retCp (ci := 9) hx hb hr hlocks hQ hW ha0 rfl (by decide) rfl (fun j f hj => match j, hj with | 0, hj => by obtain rfl : _ = f := Option.some.inj hj; exact ⟨_, hs415, tf_u1 hn2⟩ | 1, hj => by obtain rfl : _ = f := Option.some.inj hj; exact ⟨_, hs418, tf_u1 had12⟩ | 2, hj => by obtain rfl : _ = f := Option.some.inj hj; exact ⟨_, hs419, tf_u1 hn47⟩ | 3, hj => by obtain rfl : _ = f := Option.some.inj hj; exact ⟨_, hs420, tf_u1 hn87⟩ | 4, hj => by obtain rfl : _ = f := Option.some.inj hj; exact ⟨_, hs421, tf_u1 hn130⟩ | 5, hj => by obtain rfl : _ = f := Option.some.inj hj; exact ⟨_, hs422, tf_u1 had160⟩ | 6, hj => by obtain rfl : _ = f := Option.some.inj hj; exact ⟨_, hs424, tf_u1 had192⟩ | 7, hj => by obtain rfl : _ = f := Option.some.inj hj; exact ⟨_, hs425, tf_u0 (by omega) (by omega)⟩ | 8, hj => by obtain rfl : _ = f := Option.some.inj hj; exact ⟨_, hs426, tf_u0 (by omega) (by omega)⟩ | 9, hj => by obtain rfl : _ = f := Option.some.inj hj; exact ⟨_, hs427, tf_u0 (by omega) (by omega)⟩ | 10, hj => by obtain rfl : _ = f := Option.some.inj hj; exact ⟨_, hs429, tf_u1 had287⟩ | 11, hj => by obtain rfl : _ = f := Option.some.inj hj; exact ⟨_, hs430, tf_u0 (by omega) (by omega)⟩ | 12, hj => by obtain rfl : _ = f := Option.some.inj hj; exact ⟨_, hs431, tf_u1 had356⟩ | 13, hj => by obtain rfl : _ = f := Option.some.inj hj; exact ⟨_, hs406, tf_u0 (by omega) (by omega)⟩ | (j + 14), hj => by cases hj) ⟨hs425, hs426, hs430, (by rw [tf_fr_eq hs415]; rw [tf_fr_eq hs407]; rw [hs408]; exact hP2_0), (by rw [tf_fr_eq hs415]; rw [tf_fr_eq hs409]; rw [hs410]; exact hP2_1), (by rw [tf_fr_eq hs415]; rw [tf_fr_eq hs411]; rw [hs412]; exact hP2_2), (by rw [tf_fr_eq hs415]; rw [tf_fr_eq hs413]; rw [hs414]; exact hP2_3), (by rw [tf_fr_eq hs424]; exact hs423), (by rw [tf_fr_eq hs429]; exact hs428), (by rw [tf_fr_eq hs418]; exact hs416), (by rw [tf_fr_eq hs418]; exact hs417)⟩ dX9_init_114


abbrev M_X4_isLetter : List (Nat × Nat) := []
set_option maxHeartbeats 4000000 in
set_option maxRecDepth 100000 in
theorem c_X4_isLetter (l : Launch) (g : tf_G) (T : tf_T) (x0 : Int) (hp0 : (-2147483648) ≤ x0 ∧ x0 ≤ 2147483647) : Met l yX4_isLetter (cd_X4_isLetter :: wsL_law) ({ frames := 1, cells := 0, slots := 0, locals := 24 }) (tf_P g T [.int (Int32.ofInt x0)] (fun H => True)) (tf_Qi g M_X4_isLetter T (fun z _ _ => z = 0 ∨ z = 1)) 0 0 (fun q => tf_B g ≤ q) := by
  refine Met.ofW (cc := cX4_isLetter) (maxL := 1) (ret := (some .boolean)) (by decide) rfl ?_
  intro p e s m args below meth c s₁ B hml hv
  obtain ⟨hargs, hk, hW0, hB, hpre⟩ := hv
  have hx := B.exec
  have hb := B.bytes
  have hr := B.returns
  have hts : ∀ w ∈ wsL_law, w.before args s = true := fun w h => atoms_spec (ws := cd_X4_isLetter :: wsL_law) B.pre w (List.mem_cons_of_mem _ h)
  have hown : s.vm.findClass RX4 = some m.cls := findClass_of_methodNamed B.named
  have hlocks := B.notSynchronized
  have hK := hk.1
  have hW := tf_n.start (M := M_X4_isLetter) hW0 hB
  obtain ⟨Q, hQ⟩ : ∃ q, q = MQ below (tf_Qi g M_X4_isLetter T (fun z _ _ => z = 0 ∨ z = 1)) args s 0 0 (fun q => tf_B g ≤ q) := ⟨_, rfl⟩
  rw [← hQ]
  obtain ⟨R, hR⟩ : ∃ q, q = (headSpec (cd_X4_isLetter :: wsL_law) ({ frames := 1, cells := 0, slots := 0, locals := 24 })).room := ⟨_, rfl⟩
  rw [← hR]
  have hR1 : 1 ≤ R.frames := by rw [hR]; exact Nat.le_refl _
  have hR2 : 24 ≤ R.locals := by rw [hR]; exact Nat.le_refl _
  have hR3 : 0 ≤ R.cells := by rw [hR]; exact Nat.le_refl _
  have hR4 : 0 ≤ R.slots := by rw [hR]; exact Nat.le_refl _
  have hin := (name_of_methodNamed B.named B.method).1
  clear hR B
  refine tf_enter (As := [.int (Int32.ofInt x0)]) hargs (Nat.le_of_ble_eq_true rfl) (fun ls hl => ?_)
  have hl : lv_has ls 1 [(0, .int (Int32.ofInt x0))] := hl
  refine lv_iload_n hx hb dX4_isLetter_0 rfl (lv_at hl 0 rfl) ?_
  refine tf_bipush hx hb dX4_isLetter_1 (by decide) ?_
  refine tf_icmp_lt (tgt := 16) hx hb ⟨by omega, by omega⟩ ⟨by decide, by decide⟩ dX4_isLetter_3 (by decide) (fun h1 => ?_) (fun h1 => ?_)
  · refine tf_iconst hx hb dX4_isLetter_16 ?_
    exact tf_retz (z := 0) hx hb hr hlocks hQ hW (by omega) (show (0) = 0 ∨ (0) = 1 by omega) dX4_isLetter_17
  · refine lv_iload_n hx hb dX4_isLetter_6 rfl (lv_at hl 0 rfl) ?_
    refine tf_bipush hx hb dX4_isLetter_7 (by decide) ?_
    refine tf_icmp_gt (tgt := 16) hx hb ⟨by omega, by omega⟩ ⟨by decide, by decide⟩ dX4_isLetter_9 (by decide) (fun h2 => ?_) (fun h2 => ?_)
    · refine tf_iconst hx hb dX4_isLetter_16 ?_
      exact tf_retz (z := 0) hx hb hr hlocks hQ hW (by omega) (show (0) = 0 ∨ (0) = 1 by omega) dX4_isLetter_17
    · refine tf_iconst hx hb dX4_isLetter_12 ?_
      refine lv_goto (tgt := 17) hx hb dX4_isLetter_13 (by decide) ?_
      exact tf_retz (z := 1) hx hb hr hlocks hQ hW (by omega) (show (1) = 0 ∨ (1) = 1 by omega) dX4_isLetter_17

abbrev M_X4_isDigit : List (Nat × Nat) := []
set_option maxHeartbeats 4000000 in
set_option maxRecDepth 100000 in
theorem c_X4_isDigit (l : Launch) (g : tf_G) (T : tf_T) (x0 : Int) (hp0 : (-2147483648) ≤ x0 ∧ x0 ≤ 2147483647) : Met l yX4_isDigit (cd_X4_isDigit :: wsL_law) ({ frames := 1, cells := 0, slots := 0, locals := 24 }) (tf_P g T [.int (Int32.ofInt x0)] (fun H => True)) (tf_Qi g M_X4_isDigit T (fun z _ _ => z = 0 ∨ z = 1)) 0 0 (fun q => tf_B g ≤ q) := by
  refine Met.ofW (cc := cX4_isDigit) (maxL := 1) (ret := (some .boolean)) (by decide) rfl ?_
  intro p e s m args below meth c s₁ B hml hv
  obtain ⟨hargs, hk, hW0, hB, hpre⟩ := hv
  have hx := B.exec
  have hb := B.bytes
  have hr := B.returns
  have hts : ∀ w ∈ wsL_law, w.before args s = true := fun w h => atoms_spec (ws := cd_X4_isDigit :: wsL_law) B.pre w (List.mem_cons_of_mem _ h)
  have hown : s.vm.findClass RX4 = some m.cls := findClass_of_methodNamed B.named
  have hlocks := B.notSynchronized
  have hK := hk.1
  have hW := tf_n.start (M := M_X4_isDigit) hW0 hB
  obtain ⟨Q, hQ⟩ : ∃ q, q = MQ below (tf_Qi g M_X4_isDigit T (fun z _ _ => z = 0 ∨ z = 1)) args s 0 0 (fun q => tf_B g ≤ q) := ⟨_, rfl⟩
  rw [← hQ]
  obtain ⟨R, hR⟩ : ∃ q, q = (headSpec (cd_X4_isDigit :: wsL_law) ({ frames := 1, cells := 0, slots := 0, locals := 24 })).room := ⟨_, rfl⟩
  rw [← hR]
  have hR1 : 1 ≤ R.frames := by rw [hR]; exact Nat.le_refl _
  have hR2 : 24 ≤ R.locals := by rw [hR]; exact Nat.le_refl _
  have hR3 : 0 ≤ R.cells := by rw [hR]; exact Nat.le_refl _
  have hR4 : 0 ≤ R.slots := by rw [hR]; exact Nat.le_refl _
  have hin := (name_of_methodNamed B.named B.method).1
  clear hR B
  refine tf_enter (As := [.int (Int32.ofInt x0)]) hargs (Nat.le_of_ble_eq_true rfl) (fun ls hl => ?_)
  have hl : lv_has ls 1 [(0, .int (Int32.ofInt x0))] := hl
  refine lv_iload_n hx hb dX4_isDigit_0 rfl (lv_at hl 0 rfl) ?_
  refine tf_bipush hx hb dX4_isDigit_1 (by decide) ?_
  refine tf_icmp_lt (tgt := 16) hx hb ⟨by omega, by omega⟩ ⟨by decide, by decide⟩ dX4_isDigit_3 (by decide) (fun h1 => ?_) (fun h1 => ?_)
  · refine tf_iconst hx hb dX4_isDigit_16 ?_
    exact tf_retz (z := 0) hx hb hr hlocks hQ hW (by omega) (show (0) = 0 ∨ (0) = 1 by omega) dX4_isDigit_17
  · refine lv_iload_n hx hb dX4_isDigit_6 rfl (lv_at hl 0 rfl) ?_
    refine tf_bipush hx hb dX4_isDigit_7 (by decide) ?_
    refine tf_icmp_gt (tgt := 16) hx hb ⟨by omega, by omega⟩ ⟨by decide, by decide⟩ dX4_isDigit_9 (by decide) (fun h2 => ?_) (fun h2 => ?_)
    · refine tf_iconst hx hb dX4_isDigit_16 ?_
      exact tf_retz (z := 0) hx hb hr hlocks hQ hW (by omega) (show (0) = 0 ∨ (0) = 1 by omega) dX4_isDigit_17
    · refine tf_iconst hx hb dX4_isDigit_12 ?_
      refine lv_goto (tgt := 17) hx hb dX4_isDigit_13 (by decide) ?_
      exact tf_retz (z := 1) hx hb hr hlocks hQ hW (by omega) (show (1) = 0 ∨ (1) = 1 by omega) dX4_isDigit_17

abbrev M_X4_add : List (Nat × Nat) := [(0, 0), (21, 2)]
set_option maxHeartbeats 4000000 in
set_option maxRecDepth 100000 in
theorem c_X4_add (l : Launch) (g : tf_G) (T : tf_T) (a0 : Nat) (ha0 : T a0 = some (21, 0)) (x1 : Int) (hp1 : (-2147483648) ≤ x1 ∧ x1 ≤ 2147483647) (x2 : Int) (hp2 : (-2147483648) ≤ x2 ∧ x2 ≤ 2147483647) : Met l yX4_add (cd_X4_add :: wsL_law) ({ frames := 1, cells := 0, slots := 0, locals := 24 }) (tf_P g T [.ref a0, .int (Int32.ofInt x1), .int (Int32.ofInt x2)] (fun H => True)) (tf_Qv g M_X4_add T (fun _ H => (∃ z : Int, tf_s H a0 (g.1.2 4 2) = some (.int (Int32.ofInt z)) ∧ 1 ≤ z ∧ z ≤ 401))) 0 0 (fun q => tf_B g ≤ q) := by
  refine Met.ofW (cc := cX4_add) (maxL := 3) (ret := none) (by decide) rfl ?_
  intro p e s m args below meth c s₁ B hml hv
  obtain ⟨hargs, hk, hW0, hB, hpre⟩ := hv
  have hx := B.exec
  have hb := B.bytes
  have hr := B.returns
  have hts : ∀ w ∈ wsL_law, w.before args s = true := fun w h => atoms_spec (ws := cd_X4_add :: wsL_law) B.pre w (List.mem_cons_of_mem _ h)
  have hown : s.vm.findClass RX4 = some m.cls := findClass_of_methodNamed B.named
  have hlocks := B.notSynchronized
  have hK := hk.1
  have hW := tf_n.start (M := M_X4_add) hW0 hB
  obtain ⟨Q, hQ⟩ : ∃ q, q = MQ below (tf_Qv g M_X4_add T (fun _ H => (∃ z : Int, tf_s H a0 (g.1.2 4 2) = some (.int (Int32.ofInt z)) ∧ 1 ≤ z ∧ z ≤ 401))) args s 0 0 (fun q => tf_B g ≤ q) := ⟨_, rfl⟩
  rw [← hQ]
  obtain ⟨R, hR⟩ : ∃ q, q = (headSpec (cd_X4_add :: wsL_law) ({ frames := 1, cells := 0, slots := 0, locals := 24 })).room := ⟨_, rfl⟩
  rw [← hR]
  have hR1 : 1 ≤ R.frames := by rw [hR]; exact Nat.le_refl _
  have hR2 : 24 ≤ R.locals := by rw [hR]; exact Nat.le_refl _
  have hR3 : 0 ≤ R.cells := by rw [hR]; exact Nat.le_refl _
  have hR4 : 0 ≤ R.slots := by rw [hR]; exact Nat.le_refl _
  have hin := (name_of_methodNamed B.named B.method).1
  clear hR B
  refine tf_enter (As := [.ref a0, .int (Int32.ofInt x1), .int (Int32.ofInt x2)]) hargs (Nat.le_of_ble_eq_true rfl) (fun ls hl => ?_)
  have hl : lv_has ls 3 [(0, .ref a0), (1, .int (Int32.ofInt x1)), (2, .int (Int32.ofInt x2))] := hl
  refine lv_aload_n hx hb dX4_add_0 rfl (lv_at hl 0 rfl) ?_
  refine tf_get hx hb hts inlX4 hown hK (ci := 4) rfl hW ha0 rfl 2 rfl (by decide) (hts _ fl_X4_18) dX4_add_1 (fun v1 hv1 hsv1 => ?_)
  obtain ⟨z2, rfl, hz2⟩ := tf_v0 hv1
  refine lv_aload_n hx hb dX4_add_4 rfl (lv_at hl 0 rfl) ?_
  refine tf_get hx hb hts inlX4 hown hK (ci := 4) rfl hW ha0 rfl 0 rfl (by decide) (hts _ fl_X4_9) dX4_add_5 (fun v3 hv3 hsv3 => ?_)
  obtain ⟨ad4, rfl, had4⟩ := tf_v1 hv3
  refine tf_alen (t0 := 0) hx hb hK hW had4 rfl rfl dX4_add_8 (fun hn5 => ?_)
  refine tf_icmp_ge (tgt := 42) hx hb ⟨by omega, by omega⟩ ⟨by decide, by decide⟩ dX4_add_9 (by decide) (fun h6 => ?_) (fun h6 => ?_)
  · exact tf_retv hx hb hr hlocks hQ hW ⟨_, hsv1, by omega, by omega⟩ dX4_add_42
  · refine lv_aload_n hx hb dX4_add_12 rfl (lv_at hl 0 rfl) ?_
    refine tf_get hx hb hts inlX4 hown hK (ci := 4) rfl hW ha0 rfl 0 rfl (by decide) (hts _ fl_X4_9) dX4_add_13 (fun v7 hv7 hsv7 => ?_)
    obtain rfl : v7 = .ref ad4 := Option.some.inj (hsv7.symm.trans hsv3)
    refine lv_aload_n hx hb dX4_add_16 rfl (lv_at hl 0 rfl) ?_
    refine tf_get hx hb hts inlX4 hown hK (ci := 4) rfl hW ha0 rfl 2 rfl (by decide) (hts _ fl_X4_18) dX4_add_17 (fun v8 hv8 hsv8 => ?_)
    obtain rfl : v8 = .int (Int32.ofInt z2) := Option.some.inj (hsv8.symm.trans hsv1)
    refine lv_iload_n hx hb dX4_add_20 rfl (lv_at hl 1 rfl) ?_
    refine tf_iast (t0 := 0) hx hb hK hW had4 rfl rfl (by omega) (by omega) (by decide) (tf_u0 (by omega) (by omega)) dX4_add_21 (fun H9 locs9 hW hs9 ht9 hq9 => ?_)
    have hs10 := tf_keepQ hsv1 (hq9 _ (tf_ne ha0 had4 (by decide)))
    have hs11 := tf_keepQ hsv3 (hq9 _ (tf_ne ha0 had4 (by decide)))
    refine lv_aload_n hx hb dX4_add_22 rfl (lv_at hl 0 rfl) ?_
    refine tf_get hx hb hts inlX4 hown hK (ci := 4) rfl hW ha0 rfl 1 rfl (by decide) (hts _ fl_X4_15) dX4_add_23 (fun v12 hv12 hsv12 => ?_)
    obtain ⟨ad13, rfl, had13⟩ := tf_v1 hv12
    refine lv_aload_n hx hb dX4_add_26 rfl (lv_at hl 0 rfl) ?_
    refine tf_get hx hb hts inlX4 hown hK (ci := 4) rfl hW ha0 rfl 2 rfl (by decide) (hts _ fl_X4_18) dX4_add_27 (fun v14 hv14 hsv14 => ?_)
    obtain rfl : v14 = .int (Int32.ofInt z2) := Option.some.inj (hsv14.symm.trans hs10)
    refine lv_iload_n hx hb dX4_add_30 rfl (lv_at hl 2 rfl) ?_
    refine tf_iast (t0 := 0) hx hb hK hW had13 rfl rfl (by omega) (by omega) (by decide) (tf_u0 (by omega) (by omega)) dX4_add_31 (fun H15 locs15 hW hs15 ht15 hq15 => ?_)
    have hs16 := tf_keepQ hs10 (hq15 _ (tf_ne ha0 had13 (by decide)))
    have hs17 := tf_keepQ hs11 (hq15 _ (tf_ne ha0 had13 (by decide)))
    refine lv_aload_n hx hb dX4_add_32 rfl (lv_at hl 0 rfl) ?_
    refine lv_dup hx hb dX4_add_33 rfl ?_
    refine tf_get hx hb hts inlX4 hown hK (ci := 4) rfl hW ha0 rfl 2 rfl (by decide) (hts _ fl_X4_18) dX4_add_34 (fun v18 hv18 hsv18 => ?_)
    obtain rfl : v18 = .int (Int32.ofInt z2) := Option.some.inj (hsv18.symm.trans hs16)
    refine tf_iconst hx hb dX4_add_37 ?_
    refine tf_iadd hx hb dX4_add_38 ?_
    refine tf_put hx hb hts inlX4 tyX4 tyX4_ok nmX4 hown hK (ci := 4) rfl hW ha0 rfl rfl 2 rfl (by decide) (by decide) (hts _ fl_X4_18) rfl (tf_u0 (by omega) (by omega)) rfl rfl dX4_add_39 (fun H19 locs19 hW hs19 ht19 hq19 => ?_)
    have hs20 := (ht19 0 (by decide) (by decide)).trans hs17
    exact tf_retv hx hb hr hlocks hQ hW ⟨_, hs19, by omega, by omega⟩ dX4_add_42

abbrev M_X4_goesOn : List (Nat × Nat) := []
set_option maxHeartbeats 4000000 in
set_option maxRecDepth 100000 in
theorem c_X4_goesOn (l : Launch) (g : tf_G) (T : tf_T) (a0 : Nat) (ha0 : T a0 = some (21, 0)) (x1 : Int) (hp1 : 0 ≤ x1 ∧ x1 ≤ 399) (b0 : Nat) (hb0 : T b0 = some (3, 400)) : Met l yX4_goesOn (cd_X4_goesOn :: wsL_law) ({ frames := 2, cells := 0, slots := 0, locals := 44 }) (tf_P g T [.ref a0, .int (Int32.ofInt x1)] (fun H => tf_s H a0 (g.1.2 4 3) = some (.ref b0))) (tf_Qi g M_X4_goesOn T (fun z _ _ => z = 0 ∨ z = 1)) 0 0 (fun q => tf_B g ≤ q) := by
  refine Met.ofW (cc := cX4_goesOn) (maxL := 2) (ret := (some .boolean)) (by decide) rfl ?_
  intro p e s m args below meth c s₁ B hml hv
  obtain ⟨hargs, hk, hW0, hB, hpre⟩ := hv
  have he0 := hpre
  have hx := B.exec
  have hb := B.bytes
  have hr := B.returns
  have hts : ∀ w ∈ wsL_law, w.before args s = true := fun w h => atoms_spec (ws := cd_X4_goesOn :: wsL_law) B.pre w (List.mem_cons_of_mem _ h)
  have hown : s.vm.findClass RX4 = some m.cls := findClass_of_methodNamed B.named
  have hlocks := B.notSynchronized
  have hK := hk.1
  have hW := tf_n.start (M := M_X4_goesOn) hW0 hB
  obtain ⟨Q, hQ⟩ : ∃ q, q = MQ below (tf_Qi g M_X4_goesOn T (fun z _ _ => z = 0 ∨ z = 1)) args s 0 0 (fun q => tf_B g ≤ q) := ⟨_, rfl⟩
  rw [← hQ]
  obtain ⟨R, hR⟩ : ∃ q, q = (headSpec (cd_X4_goesOn :: wsL_law) ({ frames := 2, cells := 0, slots := 0, locals := 44 })).room := ⟨_, rfl⟩
  rw [← hR]
  have hR1 : 2 ≤ R.frames := by rw [hR]; exact Nat.le_refl _
  have hR2 : 44 ≤ R.locals := by rw [hR]; exact Nat.le_refl _
  have hR3 : 0 ≤ R.cells := by rw [hR]; exact Nat.le_refl _
  have hR4 : 0 ≤ R.slots := by rw [hR]; exact Nat.le_refl _
  have hin := (name_of_methodNamed B.named B.method).1
  clear hR B
  have j_30 : 1 ≤ x1 ∧ x1 ≤ 399 → ∀ (H : Heap) (locs : List Loc), tf_n tf_kt g M_X4_goesOn T s.heap T H locs → tf_s H a0 (g.1.2 4 3) = some (.ref b0) → ∀ (ls : Array Slot), lv_has ls 2 [(0, .ref a0), (1, .int (Int32.ofInt x1))] → W p l e R s m args below meth c H locs 0 0 Q (F0 m 30 ls []) := by
    intro hx1_30 H locs hW hs3_30 ls hl
    refine lv_aload_n hx hb dX4_goesOn_30 rfl (lv_at hl 0 rfl) ?_
    refine tf_get hx hb hts inlX4 hown hK (ci := 4) rfl hW ha0 rfl 3 rfl (by decide) (hts _ fl_X4_22) dX4_goesOn_31 (fun v1 hv1 hsv1 => ?_)
    obtain rfl : v1 = .ref b0 := Option.some.inj (hsv1.symm.trans hs3_30)
    refine lv_iload_n hx hb dX4_goesOn_34 rfl (lv_at hl 1 rfl) ?_
    refine tf_iald (t0 := 0) hx hb hK hW hb0 rfl rfl (by omega) (by omega) dX4_goesOn_35 (fun v2 hv2 hsv2 => ?_)
    obtain ⟨z3, rfl, hz3⟩ := tf_v0 hv2
    refine tf_calli (va_runS (As := [.int (Int32.ofInt z3)]) (rest := []) ⟨hx, hb, hml, hown, hts⟩ (c_X4_isDigit l g T (z3) ⟨by omega, by omega⟩) ⟨callB_of 1 hts (gw_ws cm_X4_isDigit) rfl rfl rfl (hts _ (tw6 (i := 0) rfl)) (hts _ (tw20 (i := 19) rfl)) hd_X4_isDigit.2 ⟨Nat.le_trans (by decide) hR1, Nat.le_trans (by decide) hR2⟩, hts _ (tw20 (i := 20) rfl)⟩ (tf_preS hk hW trivial) rfl rfl hl.1 rfl (lv_room (Nat.le_of_ble_eq_true rfl)) dX4_goesOn_36 ⟨Nat.zero_le _, Nat.zero_le _⟩) hW (by decide) (fun z4 H4 locs4 hW hF4 hp4 => ?_)
    have hs5 := tf_keepF hF4 ha0 rfl rfl (by decide) hs3_30
    have hp4 : z4 = 0 ∨ z4 = 1 := hp4
    refine tf_if_eq (tgt := 60) hx hb ⟨by omega, by omega⟩ dX4_goesOn_39 (by decide) (fun h6 => ?_) (fun h6 => ?_)
    · refine tf_iconst hx hb dX4_goesOn_60 ?_
      exact tf_retz (z := 0) hx hb hr hlocks hQ hW (by omega) (show (0) = 0 ∨ (0) = 1 by omega) dX4_goesOn_61
    · refine lv_aload_n hx hb dX4_goesOn_42 rfl (lv_at hl 0 rfl) ?_
      refine tf_get hx hb hts inlX4 hown hK (ci := 4) rfl hW ha0 rfl 3 rfl (by decide) (hts _ fl_X4_22) dX4_goesOn_43 (fun v7 hv7 hsv7 => ?_)
      obtain rfl : v7 = .ref b0 := Option.some.inj (hsv7.symm.trans hs5)
      refine lv_iload_n hx hb dX4_goesOn_46 rfl (lv_at hl 1 rfl) ?_
      refine tf_iconst hx hb dX4_goesOn_47 ?_
      refine tf_isub hx hb dX4_goesOn_48 ?_
      refine tf_iald (t0 := 0) hx hb hK hW hb0 rfl rfl (by omega) (by omega) dX4_goesOn_49 (fun v8 hv8 hsv8 => ?_)
      obtain ⟨z9, rfl, hz9⟩ := tf_v0 hv8
      refine tf_calli (va_runS (As := [.int (Int32.ofInt z9)]) (rest := []) ⟨hx, hb, hml, hown, hts⟩ (c_X4_isDigit l g T (z9) ⟨by omega, by omega⟩) ⟨callB_of 1 hts (gw_ws cm_X4_isDigit) rfl rfl rfl (hts _ (tw6 (i := 0) rfl)) (hts _ (tw20 (i := 19) rfl)) hd_X4_isDigit.2 ⟨Nat.le_trans (by decide) hR1, Nat.le_trans (by decide) hR2⟩, hts _ (tw20 (i := 20) rfl)⟩ (tf_preS hk hW trivial) rfl rfl hl.1 rfl (lv_room (Nat.le_of_ble_eq_true rfl)) dX4_goesOn_50 ⟨Nat.zero_le _, Nat.zero_le _⟩) hW (by decide) (fun z10 H10 locs10 hW hF10 hp10 => ?_)
      have hs11 := tf_keepF hF10 ha0 rfl rfl (by decide) hs5
      have hp10 : z10 = 0 ∨ z10 = 1 := hp10
      refine tf_if_eq (tgt := 60) hx hb ⟨by omega, by omega⟩ dX4_goesOn_53 (by decide) (fun h12 => ?_) (fun h12 => ?_)
      · refine tf_iconst hx hb dX4_goesOn_60 ?_
        exact tf_retz (z := 0) hx hb hr hlocks hQ hW (by omega) (show (0) = 0 ∨ (0) = 1 by omega) dX4_goesOn_61
      · refine tf_iconst hx hb dX4_goesOn_56 ?_
        refine lv_goto (tgt := 61) hx hb dX4_goesOn_57 (by decide) ?_
        exact tf_retz (z := 1) hx hb hr hlocks hQ hW (by omega) (show (1) = 0 ∨ (1) = 1 by omega) dX4_goesOn_61
  refine tf_enter (As := [.ref a0, .int (Int32.ofInt x1)]) hargs (Nat.le_of_ble_eq_true rfl) (fun ls hl => ?_)
  have hl : lv_has ls 2 [(0, .ref a0), (1, .int (Int32.ofInt x1))] := hl
  refine lv_iload_n hx hb dX4_goesOn_0 rfl (lv_at hl 1 rfl) ?_
  refine tf_if_le (tgt := 60) hx hb ⟨by omega, by omega⟩ dX4_goesOn_1 (by decide) (fun h13 => ?_) (fun h13 => ?_)
  · refine tf_iconst hx hb dX4_goesOn_60 ?_
    exact tf_retz (z := 0) hx hb hr hlocks hQ hW (by omega) (show (0) = 0 ∨ (0) = 1 by omega) dX4_goesOn_61
  · refine lv_aload_n hx hb dX4_goesOn_4 rfl (lv_at hl 0 rfl) ?_
    refine tf_get hx hb hts inlX4 hown hK (ci := 4) rfl hW ha0 rfl 3 rfl (by decide) (hts _ fl_X4_22) dX4_goesOn_5 (fun v14 hv14 hsv14 => ?_)
    obtain rfl : v14 = .ref b0 := Option.some.inj (hsv14.symm.trans he0)
    refine lv_iload_n hx hb dX4_goesOn_8 rfl (lv_at hl 1 rfl) ?_
    refine tf_iald (t0 := 0) hx hb hK hW hb0 rfl rfl (by omega) (by omega) dX4_goesOn_9 (fun v15 hv15 hsv15 => ?_)
    obtain ⟨z16, rfl, hz16⟩ := tf_v0 hv15
    refine tf_calli (va_runS (As := [.int (Int32.ofInt z16)]) (rest := []) ⟨hx, hb, hml, hown, hts⟩ (c_X4_isLetter l g T (z16) ⟨by omega, by omega⟩) ⟨callB_of 1 hts (gw_ws cm_X4_isLetter) rfl rfl rfl (hts _ (tw6 (i := 0) rfl)) (hts _ (tw20 (i := 16) rfl)) hd_X4_isLetter.2 ⟨Nat.le_trans (by decide) hR1, Nat.le_trans (by decide) hR2⟩, hts _ (tw20 (i := 17) rfl)⟩ (tf_preS hk hW trivial) rfl rfl hl.1 rfl (lv_room (Nat.le_of_ble_eq_true rfl)) dX4_goesOn_10 ⟨Nat.zero_le _, Nat.zero_le _⟩) hW (by decide) (fun z17 H17 locs17 hW hF17 hp17 => ?_)
    have hs18 := tf_keepF hF17 ha0 rfl rfl (by decide) he0
    have hp17 : z17 = 0 ∨ z17 = 1 := hp17
    refine tf_if_eq (tgt := 30) hx hb ⟨by omega, by omega⟩ dX4_goesOn_13 (by decide) (fun h19 => ?_) (fun h19 => ?_)
    · exact j_30 ⟨by omega, by omega⟩ _ _ hW hs18 _ (lv_sub hl [0, 1] rfl)
    · refine lv_aload_n hx hb dX4_goesOn_16 rfl (lv_at hl 0 rfl) ?_
      refine tf_get hx hb hts inlX4 hown hK (ci := 4) rfl hW ha0 rfl 3 rfl (by decide) (hts _ fl_X4_22) dX4_goesOn_17 (fun v20 hv20 hsv20 => ?_)
      obtain rfl : v20 = .ref b0 := Option.some.inj (hsv20.symm.trans hs18)
      refine lv_iload_n hx hb dX4_goesOn_20 rfl (lv_at hl 1 rfl) ?_
      refine tf_iconst hx hb dX4_goesOn_21 ?_
      refine tf_isub hx hb dX4_goesOn_22 ?_
      refine tf_iald (t0 := 0) hx hb hK hW hb0 rfl rfl (by omega) (by omega) dX4_goesOn_23 (fun v21 hv21 hsv21 => ?_)
      obtain ⟨z22, rfl, hz22⟩ := tf_v0 hv21
      refine tf_calli (va_runS (As := [.int (Int32.ofInt z22)]) (rest := []) ⟨hx, hb, hml, hown, hts⟩ (c_X4_isLetter l g T (z22) ⟨by omega, by omega⟩) ⟨callB_of 1 hts (gw_ws cm_X4_isLetter) rfl rfl rfl (hts _ (tw6 (i := 0) rfl)) (hts _ (tw20 (i := 16) rfl)) hd_X4_isLetter.2 ⟨Nat.le_trans (by decide) hR1, Nat.le_trans (by decide) hR2⟩, hts _ (tw20 (i := 17) rfl)⟩ (tf_preS hk hW trivial) rfl rfl hl.1 rfl (lv_room (Nat.le_of_ble_eq_true rfl)) dX4_goesOn_24 ⟨Nat.zero_le _, Nat.zero_le _⟩) hW (by decide) (fun z23 H23 locs23 hW hF23 hp23 => ?_)
      have hs24 := tf_keepF hF23 ha0 rfl rfl (by decide) hs18
      have hp23 : z23 = 0 ∨ z23 = 1 := hp23
      refine tf_if_ne (tgt := 56) hx hb ⟨by omega, by omega⟩ dX4_goesOn_27 (by decide) (fun h25 => ?_) (fun h25 => ?_)
      · refine tf_iconst hx hb dX4_goesOn_56 ?_
        refine lv_goto (tgt := 61) hx hb dX4_goesOn_57 (by decide) ?_
        exact tf_retz (z := 1) hx hb hr hlocks hQ hW (by omega) (show (1) = 0 ∨ (1) = 1 by omega) dX4_goesOn_61
      · exact j_30 ⟨by omega, by omega⟩ _ _ hW hs24 _ (lv_sub hl [0, 1] rfl)

abbrev M_X4_numberFrom : List (Nat × Nat) := []
set_option maxHeartbeats 4000000 in
set_option maxRecDepth 100000 in
theorem c_X4_numberFrom (l : Launch) (g : tf_G) (T : tf_T) (a0 : Nat) (ha0 : T a0 = some (21, 0)) (x1 : Int) (hp1 : 0 ≤ x1 ∧ x1 ≤ 399) (b0 : Nat) (hb0 : T b0 = some (3, 400)) : Met l yX4_numberFrom (cd_X4_numberFrom :: wsL_law) ({ frames := 2, cells := 0, slots := 0, locals := 44 }) (tf_P g T [.ref a0, .int (Int32.ofInt x1)] (fun H => tf_s H a0 (g.1.2 4 3) = some (.ref b0))) (tf_Qi g M_X4_numberFrom T (fun z _ _ => (-2147483648) ≤ z ∧ z ≤ 2147483647)) 0 0 (fun q => tf_B g ≤ q) := by
  refine Met.ofW (cc := cX4_numberFrom) (maxL := 4) (ret := (some .int)) (by decide) rfl ?_
  intro p e s m args below meth c s₁ B hml hv
  obtain ⟨hargs, hk, hW0, hB, hpre⟩ := hv
  have he0 := hpre
  have hx := B.exec
  have hb := B.bytes
  have hr := B.returns
  have hts : ∀ w ∈ wsL_law, w.before args s = true := fun w h => atoms_spec (ws := cd_X4_numberFrom :: wsL_law) B.pre w (List.mem_cons_of_mem _ h)
  have hown : s.vm.findClass RX4 = some m.cls := findClass_of_methodNamed B.named
  have hlocks := B.notSynchronized
  have hK := hk.1
  have hW := tf_n.start (M := M_X4_numberFrom) hW0 hB
  obtain ⟨Q, hQ⟩ : ∃ q, q = MQ below (tf_Qi g M_X4_numberFrom T (fun z _ _ => (-2147483648) ≤ z ∧ z ≤ 2147483647)) args s 0 0 (fun q => tf_B g ≤ q) := ⟨_, rfl⟩
  rw [← hQ]
  obtain ⟨R, hR⟩ : ∃ q, q = (headSpec (cd_X4_numberFrom :: wsL_law) ({ frames := 2, cells := 0, slots := 0, locals := 44 })).room := ⟨_, rfl⟩
  rw [← hR]
  have hR1 : 2 ≤ R.frames := by rw [hR]; exact Nat.le_refl _
  have hR2 : 44 ≤ R.locals := by rw [hR]; exact Nat.le_refl _
  have hR3 : 0 ≤ R.cells := by rw [hR]; exact Nat.le_refl _
  have hR4 : 0 ≤ R.slots := by rw [hR]; exact Nat.le_refl _
  have hin := (name_of_methodNamed B.named B.method).1
  clear hR B
  have j_4 : ∀ (n_4 : Nat), ∀ (x2_4 : Int), (-2147483648) ≤ x2_4 ∧ x2_4 ≤ 1001 → ∀ (x3_4 : Int), 0 ≤ x3_4 ∧ x3_4 ≤ 400 → (400 - x3_4 + 1 ≤ (n_4 : Int)) → ∀ (H : Heap) (locs : List Loc), tf_n tf_kt g M_X4_numberFrom T s.heap T H locs → tf_s H a0 (g.1.2 4 3) = some (.ref b0) → ∀ (ls : Array Slot), lv_has ls 4 [(0, .ref a0), (2, .int (Int32.ofInt x2_4)), (3, .int (Int32.ofInt x3_4))] → W p l e R s m args below meth c H locs 0 0 Q (F0 m 4 ls []) := by
    intro n_4
    induction n_4 with
    | zero =>
      intro x2_4 hx2_4 x3_4 hx3_4 hm_4
      exfalso; omega
    | succ n_4 ih_4 =>
      intro x2_4 hx2_4 x3_4 hx3_4 hm_4 H locs hW hs3_4 ls hl
      refine lv_iload_n hx hb dX4_numberFrom_4 rfl (lv_at hl 2 rfl) ?_
      refine lv_aload_n hx hb dX4_numberFrom_5 rfl (lv_at hl 0 rfl) ?_
      refine tf_get hx hb hts inlX4 hown hK (ci := 4) rfl hW ha0 rfl 4 rfl (by decide) (hts _ fl_X4_25) dX4_numberFrom_6 (fun v1 hv1 hsv1 => ?_)
      obtain ⟨z2, rfl, hz2⟩ := tf_v0 hv1
      refine tf_icmp_ge (tgt := 51) hx hb ⟨by omega, by omega⟩ ⟨by omega, by omega⟩ dX4_numberFrom_9 (by decide) (fun h3 => ?_) (fun h3 => ?_)
      · refine tf_sipush hx hb dX4_numberFrom_51 (by decide) ?_
        refine lv_iload_n hx hb dX4_numberFrom_54 rfl (lv_at hl 1 rfl) ?_
        refine tf_iadd hx hb dX4_numberFrom_55 ?_
        exact tf_reti (z := (2000 + x2_4)) hx hb hr hlocks hQ hW (show (-2147483648) ≤ ((2000 + x2_4)) ∧ ((2000 + x2_4)) ≤ 2147483647 by omega) dX4_numberFrom_56
      · refine lv_aload_n hx hb dX4_numberFrom_12 rfl (lv_at hl 0 rfl) ?_
        refine tf_get hx hb hts inlX4 hown hK (ci := 4) rfl hW ha0 rfl 3 rfl (by decide) (hts _ fl_X4_22) dX4_numberFrom_13 (fun v4 hv4 hsv4 => ?_)
        obtain rfl : v4 = .ref b0 := Option.some.inj (hsv4.symm.trans hs3_4)
        refine lv_iload_n hx hb dX4_numberFrom_16 rfl (lv_at hl 2 rfl) ?_
        refine tf_iald (t0 := 0) hx hb hK hW hb0 rfl rfl (by omega) (by omega) dX4_numberFrom_17 (fun v5 hv5 hsv5 => ?_)
        obtain ⟨z6, rfl, hz6⟩ := tf_v0 hv5
        refine tf_calli (va_runS (As := [.int (Int32.ofInt z6)]) (rest := []) ⟨hx, hb, hml, hown, hts⟩ (c_X4_isDigit l g T (z6) ⟨by omega, by omega⟩) ⟨callB_of 1 hts (gw_ws cm_X4_isDigit) rfl rfl rfl (hts _ (tw6 (i := 0) rfl)) (hts _ (tw20 (i := 19) rfl)) hd_X4_isDigit.2 ⟨Nat.le_trans (by decide) hR1, Nat.le_trans (by decide) hR2⟩, hts _ (tw20 (i := 20) rfl)⟩ (tf_preS hk hW trivial) rfl rfl hl.1 rfl (lv_room (Nat.le_of_ble_eq_true rfl)) dX4_numberFrom_18 ⟨Nat.zero_le _, Nat.zero_le _⟩) hW (by decide) (fun z7 H7 locs7 hW hF7 hp7 => ?_)
        have hs8 := tf_keepF hF7 ha0 rfl rfl (by decide) hs3_4
        have hp7 : z7 = 0 ∨ z7 = 1 := hp7
        refine tf_if_eq (tgt := 51) hx hb ⟨by omega, by omega⟩ dX4_numberFrom_21 (by decide) (fun h9 => ?_) (fun h9 => ?_)
        · refine tf_sipush hx hb dX4_numberFrom_51 (by decide) ?_
          refine lv_iload_n hx hb dX4_numberFrom_54 rfl (lv_at hl 1 rfl) ?_
          refine tf_iadd hx hb dX4_numberFrom_55 ?_
          exact tf_reti (z := (2000 + x2_4)) hx hb hr hlocks hQ hW (show (-2147483648) ≤ ((2000 + x2_4)) ∧ ((2000 + x2_4)) ≤ 2147483647 by omega) dX4_numberFrom_56
        · refine tf_sipush hx hb dX4_numberFrom_24 (by decide) ?_
          refine lv_iload_n hx hb dX4_numberFrom_27 rfl (lv_at hl 1 rfl) ?_
          refine tf_bipush hx hb dX4_numberFrom_28 (by decide) ?_
          refine tf_imul_any hx hb dX4_numberFrom_30 (fun z10 hz10 => ?_)
          refine lv_aload_n hx hb dX4_numberFrom_31 rfl (lv_at hl 0 rfl) ?_
          refine tf_get hx hb hts inlX4 hown hK (ci := 4) rfl hW ha0 rfl 3 rfl (by decide) (hts _ fl_X4_22) dX4_numberFrom_32 (fun v11 hv11 hsv11 => ?_)
          obtain rfl : v11 = .ref b0 := Option.some.inj (hsv11.symm.trans hs8)
          refine lv_iload_n hx hb dX4_numberFrom_35 rfl (lv_at hl 2 rfl) ?_
          refine tf_iald (t0 := 0) hx hb hK hW hb0 rfl rfl (by omega) (by omega) dX4_numberFrom_36 (fun v12 hv12 hsv12 => ?_)
          obtain ⟨z13, rfl, hz13⟩ := tf_v0 hv12
          refine tf_iadd_any hx hb dX4_numberFrom_37 (fun z14 hz14 => ?_)
          refine tf_bipush hx hb dX4_numberFrom_38 (by decide) ?_
          refine tf_isub_any hx hb dX4_numberFrom_40 (fun z15 hz15 => ?_)
          refine tf_mmin hx hb hml hl hown (hts _ (tw20 (i := 10) rfl)) (hts _ (tw18 (i := 17) rfl)) (hts _ (tw10 (i := 2) rfl)) (hts _ (tw18 (i := 18) rfl)) ⟨by decide, by decide⟩ ⟨by omega, by omega⟩ (Nat.le_of_ble_eq_true rfl) (Nat.le_trans (by decide) hR1) (Nat.le_trans (by decide) hR2) (Nat.zero_le _) (Nat.zero_le _) dX4_numberFrom_41 (fun z16 hz16 => ?_)
          refine lv_istore_n (lv' := [(2, .int (Int32.ofInt z16)), (0, .ref a0), (3, .int (Int32.ofInt x3_4))]) hx hb dX4_numberFrom_44 rfl hl (by decide) rfl (fun ls hl => ?_)
          refine lv_iinc (v := Int32.ofInt ((x3_4 + 1))) (lv' := [(3, .int (Int32.ofInt ((x3_4 + 1)))), (2, .int (Int32.ofInt z16)), (0, .ref a0)]) hx hb dX4_numberFrom_45 hl (k := 2) rfl (Int32.ofInt_add _ _).symm (by decide) rfl (fun ls hl => ?_)
          refine lv_goto (tgt := 4) hx hb dX4_numberFrom_48 (by decide) ?_
          exact ih_4 (z16) ⟨by omega, by omega⟩ ((x3_4 + 1)) ⟨by omega, by omega⟩ (by omega) _ _ hW hs8 _ (lv_sub hl [2, 1, 0] rfl)
  refine tf_enter (As := [.ref a0, .int (Int32.ofInt x1)]) hargs (Nat.le_of_ble_eq_true rfl) (fun ls hl => ?_)
  have hl : lv_has ls 4 [(0, .ref a0), (1, .int (Int32.ofInt x1))] := hl
  refine tf_iconst hx hb dX4_numberFrom_0 ?_
  refine lv_istore_n (lv' := [(2, .int (Int32.ofInt 0)), (0, .ref a0), (1, .int (Int32.ofInt x1))]) hx hb dX4_numberFrom_1 rfl hl (by decide) rfl (fun ls hl => ?_)
  refine lv_iload_n hx hb dX4_numberFrom_2 rfl (lv_at hl 2 rfl) ?_
  refine lv_istore_n (lv' := [(3, .int (Int32.ofInt x1)), (2, .int (Int32.ofInt 0)), (0, .ref a0), (1, .int (Int32.ofInt x1))]) hx hb dX4_numberFrom_3 rfl hl (by decide) rfl (fun ls hl => ?_)
  exact j_4 ((400 - x1 + 1 : Int)).toNat (0) ⟨by omega, by omega⟩ (x1) ⟨by omega, by omega⟩ (by omega) _ _ hW he0 _ (lv_sub hl [2, 1, 0] rfl)

abbrev M_X2_failHere : List (Nat × Nat) := [(19, 7)]
set_option maxHeartbeats 4000000 in
set_option maxRecDepth 100000 in
theorem c_X2_failHere (l : Launch) (g : tf_G) (T : tf_T) (a0 : Nat) (ha0 : T a0 = some (19, 0)) : Met l yX2_failHere (cd_X2_failHere :: wsL_law) ({ frames := 1, cells := 0, slots := 0, locals := 24 }) (tf_P g T [.ref a0] (fun H => True)) (tf_Qi g M_X2_failHere T (fun z _ _ => z = 0 ∨ z = 1)) 0 0 (fun q => tf_B g ≤ q) := by
  refine Met.ofW (cc := cX2_failHere) (maxL := 1) (ret := (some .boolean)) (by decide) rfl ?_
  intro p e s m args below meth c s₁ B hml hv
  obtain ⟨hargs, hk, hW0, hB, hpre⟩ := hv
  have hx := B.exec
  have hb := B.bytes
  have hr := B.returns
  have hts : ∀ w ∈ wsL_law, w.before args s = true := fun w h => atoms_spec (ws := cd_X2_failHere :: wsL_law) B.pre w (List.mem_cons_of_mem _ h)
  have hown : s.vm.findClass RX2 = some m.cls := findClass_of_methodNamed B.named
  have hlocks := B.notSynchronized
  have hK := hk.1
  have hW := tf_n.start (M := M_X2_failHere) hW0 hB
  obtain ⟨Q, hQ⟩ : ∃ q, q = MQ below (tf_Qi g M_X2_failHere T (fun z _ _ => z = 0 ∨ z = 1)) args s 0 0 (fun q => tf_B g ≤ q) := ⟨_, rfl⟩
  rw [← hQ]
  obtain ⟨R, hR⟩ : ∃ q, q = (headSpec (cd_X2_failHere :: wsL_law) ({ frames := 1, cells := 0, slots := 0, locals := 24 })).room := ⟨_, rfl⟩
  rw [← hR]
  have hR1 : 1 ≤ R.frames := by rw [hR]; exact Nat.le_refl _
  have hR2 : 24 ≤ R.locals := by rw [hR]; exact Nat.le_refl _
  have hR3 : 0 ≤ R.cells := by rw [hR]; exact Nat.le_refl _
  have hR4 : 0 ≤ R.slots := by rw [hR]; exact Nat.le_refl _
  have hin := (name_of_methodNamed B.named B.method).1
  clear hR B
  refine tf_enter (As := [.ref a0]) hargs (Nat.le_of_ble_eq_true rfl) (fun ls hl => ?_)
  have hl : lv_has ls 1 [(0, .ref a0)] := hl
  refine lv_aload_n hx hb dX2_failHere_0 rfl (lv_at hl 0 rfl) ?_
  refine lv_aload_n hx hb dX2_failHere_1 rfl (lv_at hl 0 rfl) ?_
  refine tf_get hx hb hts inlX2 hown hK (ci := 2) rfl hW ha0 rfl 3 rfl (by decide) (hts _ fl_X2_25) dX2_failHere_2 (fun v1 hv1 hsv1 => ?_)
  obtain ⟨ad2, rfl, had2⟩ := tf_v1 hv1
  refine tf_get hx hb hts inlX4 hown hK (ci := 4) rfl hW had2 rfl 1 rfl (by decide) (hts _ fl_X2_110) dX2_failHere_5 (fun v3 hv3 hsv3 => ?_)
  obtain ⟨ad4, rfl, had4⟩ := tf_v1 hv3
  refine lv_aload_n hx hb dX2_failHere_8 rfl (lv_at hl 0 rfl) ?_
  refine tf_get hx hb hts inlX2 hown hK (ci := 2) rfl hW ha0 rfl 4 rfl (by decide) (hts _ fl_X2_29) dX2_failHere_9 (fun v5 hv5 hsv5 => ?_)
  obtain ⟨z6, rfl, hz6⟩ := tf_v0 hv5
  refine tf_iald (t0 := 0) hx hb hK hW had4 rfl rfl (by omega) (by omega) dX2_failHere_12 (fun v7 hv7 hsv7 => ?_)
  obtain ⟨z8, rfl, hz8⟩ := tf_v0 hv7
  refine tf_put hx hb hts inlX2 tyX2 tyX2_ok nmX2 hown hK (ci := 2) rfl hW ha0 rfl rfl 7 rfl (by decide) (by decide) (hts _ fl_X2_38) rfl (tf_u0 (by omega) (by omega)) rfl rfl dX2_failHere_13 (fun H9 locs9 hW hs9 ht9 hq9 => ?_)
  refine tf_iconst hx hb dX2_failHere_16 ?_
  exact tf_retz (z := 0) hx hb hr hlocks hQ hW (by omega) (show (0) = 0 ∨ (0) = 1 by omega) dX2_failHere_17

abbrev M_X2_add : List (Nat × Nat) := [(0, 0), (19, 1)]
set_option maxHeartbeats 4000000 in
set_option maxRecDepth 100000 in
theorem c_X2_add (l : Launch) (g : tf_G) (T : tf_T) (a0 : Nat) (ha0 : T a0 = some (19, 0)) (x1 : Int) (hp1 : (-2147483648) ≤ x1 ∧ x1 ≤ 2147483647) (x2 : Int) (hp2 : (-2147483648) ≤ x2 ∧ x2 ≤ 2147483647) : Met l yX2_add (cd_X2_add :: wsL_law) ({ frames := 1, cells := 0, slots := 0, locals := 24 }) (tf_P g T [.ref a0, .int (Int32.ofInt x1), .int (Int32.ofInt x2)] (fun H => True)) (tf_Qv g M_X2_add T (fun _ H => True)) 0 0 (fun q => tf_B g ≤ q) := by
  refine Met.ofW (cc := cX2_add) (maxL := 3) (ret := none) (by decide) rfl ?_
  intro p e s m args below meth c s₁ B hml hv
  obtain ⟨hargs, hk, hW0, hB, hpre⟩ := hv
  have hx := B.exec
  have hb := B.bytes
  have hr := B.returns
  have hts : ∀ w ∈ wsL_law, w.before args s = true := fun w h => atoms_spec (ws := cd_X2_add :: wsL_law) B.pre w (List.mem_cons_of_mem _ h)
  have hown : s.vm.findClass RX2 = some m.cls := findClass_of_methodNamed B.named
  have hlocks := B.notSynchronized
  have hK := hk.1
  have hW := tf_n.start (M := M_X2_add) hW0 hB
  obtain ⟨Q, hQ⟩ : ∃ q, q = MQ below (tf_Qv g M_X2_add T (fun _ H => True)) args s 0 0 (fun q => tf_B g ≤ q) := ⟨_, rfl⟩
  rw [← hQ]
  obtain ⟨R, hR⟩ : ∃ q, q = (headSpec (cd_X2_add :: wsL_law) ({ frames := 1, cells := 0, slots := 0, locals := 24 })).room := ⟨_, rfl⟩
  rw [← hR]
  have hR1 : 1 ≤ R.frames := by rw [hR]; exact Nat.le_refl _
  have hR2 : 24 ≤ R.locals := by rw [hR]; exact Nat.le_refl _
  have hR3 : 0 ≤ R.cells := by rw [hR]; exact Nat.le_refl _
  have hR4 : 0 ≤ R.slots := by rw [hR]; exact Nat.le_refl _
  have hin := (name_of_methodNamed B.named B.method).1
  clear hR B
  refine tf_enter (As := [.ref a0, .int (Int32.ofInt x1), .int (Int32.ofInt x2)]) hargs (Nat.le_of_ble_eq_true rfl) (fun ls hl => ?_)
  have hl : lv_has ls 3 [(0, .ref a0), (1, .int (Int32.ofInt x1)), (2, .int (Int32.ofInt x2))] := hl
  refine lv_aload_n hx hb dX2_add_0 rfl (lv_at hl 0 rfl) ?_
  refine tf_get hx hb hts inlX2 hown hK (ci := 2) rfl hW ha0 rfl 1 rfl (by decide) (hts _ fl_X2_15) dX2_add_1 (fun v1 hv1 hsv1 => ?_)
  obtain ⟨z2, rfl, hz2⟩ := tf_v0 hv1
  refine lv_aload_n hx hb dX2_add_4 rfl (lv_at hl 0 rfl) ?_
  refine tf_get hx hb hts inlX2 hown hK (ci := 2) rfl hW ha0 rfl 0 rfl (by decide) (hts _ fl_X2_9) dX2_add_5 (fun v3 hv3 hsv3 => ?_)
  obtain ⟨ad4, rfl, had4⟩ := tf_v1 hv3
  refine tf_alen (t0 := 0) hx hb hK hW had4 rfl rfl dX2_add_8 (fun hn5 => ?_)
  refine tf_icmp_ge (tgt := 36) hx hb ⟨by omega, by omega⟩ ⟨by decide, by decide⟩ dX2_add_9 (by decide) (fun h6 => ?_) (fun h6 => ?_)
  · exact tf_retv hx hb hr hlocks hQ hW trivial dX2_add_36
  · refine lv_aload_n hx hb dX2_add_12 rfl (lv_at hl 0 rfl) ?_
    refine tf_get hx hb hts inlX2 hown hK (ci := 2) rfl hW ha0 rfl 0 rfl (by decide) (hts _ fl_X2_9) dX2_add_13 (fun v7 hv7 hsv7 => ?_)
    obtain rfl : v7 = .ref ad4 := Option.some.inj (hsv7.symm.trans hsv3)
    refine lv_aload_n hx hb dX2_add_16 rfl (lv_at hl 0 rfl) ?_
    refine tf_get hx hb hts inlX2 hown hK (ci := 2) rfl hW ha0 rfl 1 rfl (by decide) (hts _ fl_X2_15) dX2_add_17 (fun v8 hv8 hsv8 => ?_)
    obtain rfl : v8 = .int (Int32.ofInt z2) := Option.some.inj (hsv8.symm.trans hsv1)
    refine lv_iload_n hx hb dX2_add_20 rfl (lv_at hl 1 rfl) ?_
    refine lv_iload_n hx hb dX2_add_21 rfl (lv_at hl 2 rfl) ?_
    refine tf_iconst hx hb dX2_add_22 ?_
    refine tf_ishl_any hx hb dX2_add_23 (fun z9 hz9 => ?_)
    refine tf_ior_any hx hb dX2_add_24 (fun z10 hz10 => ?_)
    refine tf_iast (t0 := 0) hx hb hK hW had4 rfl rfl (by omega) (by omega) (by decide) (tf_u0 (by omega) (by omega)) dX2_add_25 (fun H11 locs11 hW hs11 ht11 hq11 => ?_)
    have hs12 := tf_keepQ hsv1 (hq11 _ (tf_ne ha0 had4 (by decide)))
    have hs13 := tf_keepQ hsv3 (hq11 _ (tf_ne ha0 had4 (by decide)))
    refine lv_aload_n hx hb dX2_add_26 rfl (lv_at hl 0 rfl) ?_
    refine lv_dup hx hb dX2_add_27 rfl ?_
    refine tf_get hx hb hts inlX2 hown hK (ci := 2) rfl hW ha0 rfl 1 rfl (by decide) (hts _ fl_X2_15) dX2_add_28 (fun v14 hv14 hsv14 => ?_)
    obtain rfl : v14 = .int (Int32.ofInt z2) := Option.some.inj (hsv14.symm.trans hs12)
    refine tf_iconst hx hb dX2_add_31 ?_
    refine tf_iadd hx hb dX2_add_32 ?_
    refine tf_put hx hb hts inlX2 tyX2 tyX2_ok nmX2 hown hK (ci := 2) rfl hW ha0 rfl rfl 1 rfl (by decide) (by decide) (hts _ fl_X2_15) rfl (tf_u0 (by omega) (by omega)) rfl rfl dX2_add_33 (fun H15 locs15 hW hs15 ht15 hq15 => ?_)
    have hs16 := (ht15 0 (by decide) (by decide)).trans hs13
    exact tf_retv hx hb hr hlocks hQ hW trivial dX2_add_36

abbrev M_X2_addJump : List (Nat × Nat) := [(0, 0), (19, 1)]
set_option maxHeartbeats 4000000 in
set_option maxRecDepth 100000 in
theorem c_X2_addJump (l : Launch) (g : tf_G) (T : tf_T) (a0 : Nat) (ha0 : T a0 = some (19, 0)) (x1 : Int) (hp1 : (-2147483648) ≤ x1 ∧ x1 ≤ 2147483647) (x2 : Int) (hp2 : (-2147483648) ≤ x2 ∧ x2 ≤ 2147483647) : Met l yX2_addJump (cd_X2_addJump :: wsL_law) ({ frames := 2, cells := 0, slots := 0, locals := 46 }) (tf_P g T [.ref a0, .int (Int32.ofInt x1), .int (Int32.ofInt x2)] (fun H => True)) (tf_Qi g M_X2_addJump T (fun z _ _ => (-2147483648) ≤ z ∧ z ≤ 2147483647)) 0 0 (fun q => tf_B g ≤ q) := by
  refine Met.ofW (cc := cX2_addJump) (maxL := 3) (ret := (some .int)) (by decide) rfl ?_
  intro p e s m args below meth c s₁ B hml hv
  obtain ⟨hargs, hk, hW0, hB, hpre⟩ := hv
  have hx := B.exec
  have hb := B.bytes
  have hr := B.returns
  have hts : ∀ w ∈ wsL_law, w.before args s = true := fun w h => atoms_spec (ws := cd_X2_addJump :: wsL_law) B.pre w (List.mem_cons_of_mem _ h)
  have hown : s.vm.findClass RX2 = some m.cls := findClass_of_methodNamed B.named
  have hlocks := B.notSynchronized
  have hK := hk.1
  have hW := tf_n.start (M := M_X2_addJump) hW0 hB
  obtain ⟨Q, hQ⟩ : ∃ q, q = MQ below (tf_Qi g M_X2_addJump T (fun z _ _ => (-2147483648) ≤ z ∧ z ≤ 2147483647)) args s 0 0 (fun q => tf_B g ≤ q) := ⟨_, rfl⟩
  rw [← hQ]
  obtain ⟨R, hR⟩ : ∃ q, q = (headSpec (cd_X2_addJump :: wsL_law) ({ frames := 2, cells := 0, slots := 0, locals := 46 })).room := ⟨_, rfl⟩
  rw [← hR]
  have hR1 : 2 ≤ R.frames := by rw [hR]; exact Nat.le_refl _
  have hR2 : 46 ≤ R.locals := by rw [hR]; exact Nat.le_refl _
  have hR3 : 0 ≤ R.cells := by rw [hR]; exact Nat.le_refl _
  have hR4 : 0 ≤ R.slots := by rw [hR]; exact Nat.le_refl _
  have hin := (name_of_methodNamed B.named B.method).1
  clear hR B
  refine tf_enter (As := [.ref a0, .int (Int32.ofInt x1), .int (Int32.ofInt x2)]) hargs (Nat.le_of_ble_eq_true rfl) (fun ls hl => ?_)
  have hl : lv_has ls 3 [(0, .ref a0), (1, .int (Int32.ofInt x1)), (2, .int (Int32.ofInt x2))] := hl
  refine lv_aload_n hx hb dX2_addJump_0 rfl (lv_at hl 0 rfl) ?_
  refine lv_iload_n hx hb dX2_addJump_1 rfl (lv_at hl 1 rfl) ?_
  refine lv_iload_n hx hb dX2_addJump_2 rfl (lv_at hl 2 rfl) ?_
  refine tf_callv (va_runV (As := [.int (Int32.ofInt x1), .int (Int32.ofInt x2)]) (rest := []) ⟨hx, hb, hml, hown, hts⟩ (c_X2_add l g T a0 ha0 (x1) ⟨by omega, by omega⟩ (x2) ⟨by omega, by omega⟩) (cwV 2 hts gv_X2_93 rfl rfl rfl hd_X2_add ⟨Nat.le_trans (by decide) hR1, Nat.le_trans (by decide) hR2⟩) (tf_preV hk hW ha0 (ci := 2) rfl rfl trivial) rfl rfl hl.1 rfl (lv_room (Nat.le_of_ble_eq_true rfl)) dX2_addJump_3 ⟨Nat.zero_le _, Nat.zero_le _⟩) hW (by decide) (fun H1 locs1 hW hF1 hp1 => ?_)
  refine lv_aload_n hx hb dX2_addJump_6 rfl (lv_at hl 0 rfl) ?_
  refine tf_get hx hb hts inlX2 hown hK (ci := 2) rfl hW ha0 rfl 1 rfl (by decide) (hts _ fl_X2_15) dX2_addJump_7 (fun v2 hv2 hsv2 => ?_)
  obtain ⟨z3, rfl, hz3⟩ := tf_v0 hv2
  refine tf_iconst hx hb dX2_addJump_10 ?_
  refine tf_isub hx hb dX2_addJump_11 ?_
  exact tf_reti (z := (z3 - 1)) hx hb hr hlocks hQ hW (show (-2147483648) ≤ ((z3 - 1)) ∧ ((z3 - 1)) ≤ 2147483647 by omega) dX2_addJump_12

abbrev M_X2_landHere : List (Nat × Nat) := [(0, 0)]
set_option maxHeartbeats 4000000 in
set_option maxRecDepth 100000 in
theorem c_X2_landHere (l : Launch) (g : tf_G) (T : tf_T) (a0 : Nat) (ha0 : T a0 = some (19, 0)) (x1 : Int) (hp1 : (-2147483648) ≤ x1 ∧ x1 ≤ 2147483647) : Met l yX2_landHere (cd_X2_landHere :: wsL_law) ({ frames := 1, cells := 0, slots := 0, locals := 24 }) (tf_P g T [.ref a0, .int (Int32.ofInt x1)] (fun H => True)) (tf_Qv g M_X2_landHere T (fun _ H => True)) 0 0 (fun q => tf_B g ≤ q) := by
  refine Met.ofW (cc := cX2_landHere) (maxL := 5) (ret := none) (by decide) rfl ?_
  intro p e s m args below meth c s₁ B hml hv
  obtain ⟨hargs, hk, hW0, hB, hpre⟩ := hv
  have hx := B.exec
  have hb := B.bytes
  have hr := B.returns
  have hts : ∀ w ∈ wsL_law, w.before args s = true := fun w h => atoms_spec (ws := cd_X2_landHere :: wsL_law) B.pre w (List.mem_cons_of_mem _ h)
  have hown : s.vm.findClass RX2 = some m.cls := findClass_of_methodNamed B.named
  have hlocks := B.notSynchronized
  have hK := hk.1
  have hW := tf_n.start (M := M_X2_landHere) hW0 hB
  obtain ⟨Q, hQ⟩ : ∃ q, q = MQ below (tf_Qv g M_X2_landHere T (fun _ H => True)) args s 0 0 (fun q => tf_B g ≤ q) := ⟨_, rfl⟩
  rw [← hQ]
  obtain ⟨R, hR⟩ : ∃ q, q = (headSpec (cd_X2_landHere :: wsL_law) ({ frames := 1, cells := 0, slots := 0, locals := 24 })).room := ⟨_, rfl⟩
  rw [← hR]
  have hR1 : 1 ≤ R.frames := by rw [hR]; exact Nat.le_refl _
  have hR2 : 24 ≤ R.locals := by rw [hR]; exact Nat.le_refl _
  have hR3 : 0 ≤ R.cells := by rw [hR]; exact Nat.le_refl _
  have hR4 : 0 ≤ R.slots := by rw [hR]; exact Nat.le_refl _
  have hin := (name_of_methodNamed B.named B.method).1
  clear hR B
  have j_4 : ∀ (n_4 : Nat), ∀ (x2_4 : Int), (-2147483648) ≤ x2_4 ∧ x2_4 ≤ 2147483647 → ∀ (x3_4 : Int), 0 ≤ x3_4 ∧ x3_4 ≤ 401 → (401 - x3_4 + 1 ≤ (n_4 : Int)) → ∀ (H : Heap) (locs : List Loc), tf_n tf_kt g M_X2_landHere T s.heap T H locs → ∀ (ls : Array Slot), lv_has ls 5 [(0, .ref a0), (2, .int (Int32.ofInt x2_4)), (3, .int (Int32.ofInt x3_4))] → W p l e R s m args below meth c H locs 0 0 Q (F0 m 4 ls []) := by
    intro n_4
    induction n_4 with
    | zero =>
      intro x2_4 hx2_4 x3_4 hx3_4 hm_4
      exfalso; omega
    | succ n_4 ih_4 =>
      intro x2_4 hx2_4 x3_4 hx3_4 hm_4 H locs hW  ls hl
      refine lv_iload_n hx hb dX2_landHere_4 rfl (lv_at hl 2 rfl) ?_
      refine tf_sipush hx hb dX2_landHere_5 (by decide) ?_
      refine tf_icmp_gt (tgt := 64) hx hb ⟨by omega, by omega⟩ ⟨by decide, by decide⟩ dX2_landHere_8 (by decide) (fun h1 => ?_) (fun h1 => ?_)
      · exact tf_retv hx hb hr hlocks hQ hW trivial dX2_landHere_64
      · refine lv_iload_n hx hb dX2_landHere_11 rfl (lv_at hl 1 rfl) ?_
        refine tf_if_lt (tgt := 64) hx hb ⟨by omega, by omega⟩ dX2_landHere_12 (by decide) (fun h2 => ?_) (fun h2 => ?_)
        · exact tf_retv hx hb hr hlocks hQ hW trivial dX2_landHere_64
        · refine lv_iload_n hx hb dX2_landHere_15 rfl (lv_at hl 1 rfl) ?_
          refine lv_aload_n hx hb dX2_landHere_16 rfl (lv_at hl 0 rfl) ?_
          refine tf_get hx hb hts inlX2 hown hK (ci := 2) rfl hW ha0 rfl 1 rfl (by decide) (hts _ fl_X2_15) dX2_landHere_17 (fun v3 hv3 hsv3 => ?_)
          obtain ⟨z4, rfl, hz4⟩ := tf_v0 hv3
          refine tf_icmp_ge (tgt := 64) hx hb ⟨by omega, by omega⟩ ⟨by omega, by omega⟩ dX2_landHere_20 (by decide) (fun h5 => ?_) (fun h5 => ?_)
          · exact tf_retv hx hb hr hlocks hQ hW trivial dX2_landHere_64
          · refine lv_aload_n hx hb dX2_landHere_23 rfl (lv_at hl 0 rfl) ?_
            refine tf_get hx hb hts inlX2 hown hK (ci := 2) rfl hW ha0 rfl 0 rfl (by decide) (hts _ fl_X2_9) dX2_landHere_24 (fun v6 hv6 hsv6 => ?_)
            obtain ⟨ad7, rfl, had7⟩ := tf_v1 hv6
            refine lv_iload_n hx hb dX2_landHere_27 rfl (lv_at hl 1 rfl) ?_
            refine tf_iald (t0 := 0) hx hb hK hW had7 rfl rfl (by omega) (by omega) dX2_landHere_28 (fun v8 hv8 hsv8 => ?_)
            obtain ⟨z9, rfl, hz9⟩ := tf_v0 hv8
            refine tf_iconst hx hb dX2_landHere_29 ?_
            refine tf_ishr_k hx hb 4 134217728 (by decide) (by decide +kernel) (by decide) dX2_landHere_30 (fun z10 hz10 => ?_)
            refine lv_istore (lv' := [(4, .int (Int32.ofInt z10)), (0, .ref a0), (2, .int (Int32.ofInt x2_4)), (3, .int (Int32.ofInt x3_4))]) hx hb dX2_landHere_31 hl (by decide) rfl (fun ls hl => ?_)
            refine lv_aload_n hx hb dX2_landHere_33 rfl (lv_at hl 1 rfl) ?_
            refine tf_get hx hb hts inlX2 hown hK (ci := 2) rfl hW ha0 rfl 0 rfl (by decide) (hts _ fl_X2_9) dX2_landHere_34 (fun v11 hv11 hsv11 => ?_)
            obtain rfl : v11 = .ref ad7 := Option.some.inj (hsv11.symm.trans hsv6)
            refine lv_iload_n hx hb dX2_landHere_37 rfl (lv_at hl 2 rfl) ?_
            refine lv_aload_n hx hb dX2_landHere_38 rfl (lv_at hl 1 rfl) ?_
            refine tf_get hx hb hts inlX2 hown hK (ci := 2) rfl hW ha0 rfl 0 rfl (by decide) (hts _ fl_X2_9) dX2_landHere_39 (fun v12 hv12 hsv12 => ?_)
            obtain rfl : v12 = .ref ad7 := Option.some.inj (hsv12.symm.trans hsv6)
            refine lv_iload_n hx hb dX2_landHere_42 rfl (lv_at hl 2 rfl) ?_
            refine tf_iald (t0 := 0) hx hb hK hW had7 rfl rfl (by omega) (by omega) dX2_landHere_43 (fun v13 hv13 hsv13 => ?_)
            obtain ⟨z14, rfl, hz14⟩ := tf_v0 hv13
            refine tf_bipush hx hb dX2_landHere_44 (by decide) ?_
            refine tf_iand_mask hx hb 4 (by decide) (by decide +kernel) dX2_landHere_46 (fun z15 hz15 kz15 => ?_)
            refine lv_aload_n hx hb dX2_landHere_47 rfl (lv_at hl 1 rfl) ?_
            refine tf_get hx hb hts inlX2 hown hK (ci := 2) rfl hW ha0 rfl 1 rfl (by decide) (hts _ fl_X2_15) dX2_landHere_48 (fun v16 hv16 hsv16 => ?_)
            obtain rfl : v16 = .int (Int32.ofInt z4) := Option.some.inj (hsv16.symm.trans hsv3)
            refine tf_iconst hx hb dX2_landHere_51 ?_
            refine tf_ishl_any hx hb dX2_landHere_52 (fun z17 hz17 => ?_)
            refine tf_ior_any hx hb dX2_landHere_53 (fun z18 hz18 => ?_)
            refine tf_iast (t0 := 0) hx hb hK hW had7 rfl rfl (by omega) (by omega) (by decide) (tf_u0 (by omega) (by omega)) dX2_landHere_54 (fun H19 locs19 hW hs19 ht19 hq19 => ?_)
            have hs20 := tf_keepQ hsv3 (hq19 _ (tf_ne ha0 had7 (by decide)))
            have hs21 := tf_keepQ hsv6 (hq19 _ (tf_ne ha0 had7 (by decide)))
            refine lv_iload hx hb dX2_landHere_55 (lv_at hl 0 rfl) ?_
            refine lv_istore_n (lv' := [(2, .int (Int32.ofInt z10)), (4, .int (Int32.ofInt z10)), (0, .ref a0), (3, .int (Int32.ofInt x3_4))]) hx hb dX2_landHere_57 rfl hl (by decide) rfl (fun ls hl => ?_)
            refine lv_iinc (v := Int32.ofInt ((x3_4 + 1))) (lv' := [(3, .int (Int32.ofInt ((x3_4 + 1)))), (2, .int (Int32.ofInt z10)), (4, .int (Int32.ofInt z10)), (0, .ref a0)]) hx hb dX2_landHere_58 hl (k := 3) rfl (Int32.ofInt_add _ _).symm (by decide) rfl (fun ls hl => ?_)
            refine lv_goto (tgt := 4) hx hb dX2_landHere_61 (by decide) ?_
            exact ih_4 (z10) ⟨by omega, by omega⟩ ((x3_4 + 1)) ⟨by omega, by omega⟩ (by omega) _ _ hW  _ (lv_sub hl [3, 1, 0] rfl)
  refine tf_enter (As := [.ref a0, .int (Int32.ofInt x1)]) hargs (Nat.le_of_ble_eq_true rfl) (fun ls hl => ?_)
  have hl : lv_has ls 5 [(0, .ref a0), (1, .int (Int32.ofInt x1))] := hl
  refine lv_iload_n hx hb dX2_landHere_0 rfl (lv_at hl 1 rfl) ?_
  refine lv_istore_n (lv' := [(2, .int (Int32.ofInt x1)), (0, .ref a0), (1, .int (Int32.ofInt x1))]) hx hb dX2_landHere_1 rfl hl (by decide) rfl (fun ls hl => ?_)
  refine tf_iconst hx hb dX2_landHere_2 ?_
  refine lv_istore_n (lv' := [(3, .int (Int32.ofInt 0)), (2, .int (Int32.ofInt x1)), (0, .ref a0), (1, .int (Int32.ofInt x1))]) hx hb dX2_landHere_3 rfl hl (by decide) rfl (fun ls hl => ?_)
  exact j_4 ((401 - 0 + 1 : Int)).toNat (x1) ⟨by omega, by omega⟩ (0) ⟨by omega, by omega⟩ (by omega) _ _ hW  _ (lv_sub hl [2, 1, 0] rfl)

abbrev M_X2_next : List (Nat × Nat) := [(19, 4), (19, 5)]
set_option maxHeartbeats 4000000 in
set_option maxRecDepth 100000 in
theorem c_X2_next (l : Launch) (g : tf_G) (T : tf_T) (a0 : Nat) (ha0 : T a0 = some (19, 0)) (t0 : Nat) (ht0 : T t0 = some (21, 0)) : Met l yX2_next (cd_X2_next :: wsL_law) ({ frames := 1, cells := 0, slots := 0, locals := 40 }) (tf_P g T [.ref a0] (fun H => tf_s H a0 (g.1.2 2 3) = some (.ref t0) ∧ (∃ z : Int, tf_s H t0 (g.1.2 4 2) = some (.int (Int32.ofInt z)) ∧ 1 ≤ z ∧ z ≤ 401))) (tf_Qv g M_X2_next T (fun _ H => True)) 0 0 (fun q => tf_B g ≤ q) := by
  refine Met.ofW (cc := cX2_next) (maxL := 1) (ret := none) (by decide) rfl ?_
  intro p e s m args below meth c s₁ B hml hv
  obtain ⟨hargs, hk, hW0, hB, hpre⟩ := hv
  obtain ⟨he0, ⟨ze1, he1, hze1⟩⟩ := hpre
  have hx := B.exec
  have hb := B.bytes
  have hr := B.returns
  have hts : ∀ w ∈ wsL_law, w.before args s = true := fun w h => atoms_spec (ws := cd_X2_next :: wsL_law) B.pre w (List.mem_cons_of_mem _ h)
  have hown : s.vm.findClass RX2 = some m.cls := findClass_of_methodNamed B.named
  have hlocks := B.notSynchronized
  have hK := hk.1
  have hW := tf_n.start (M := M_X2_next) hW0 hB
  obtain ⟨Q, hQ⟩ : ∃ q, q = MQ below (tf_Qv g M_X2_next T (fun _ H => True)) args s 0 0 (fun q => tf_B g ≤ q) := ⟨_, rfl⟩
  rw [← hQ]
  obtain ⟨R, hR⟩ : ∃ q, q = (headSpec (cd_X2_next :: wsL_law) ({ frames := 1, cells := 0, slots := 0, locals := 40 })).room := ⟨_, rfl⟩
  rw [← hR]
  have hR1 : 1 ≤ R.frames := by rw [hR]; exact Nat.le_refl _
  have hR2 : 40 ≤ R.locals := by rw [hR]; exact Nat.le_refl _
  have hR3 : 0 ≤ R.cells := by rw [hR]; exact Nat.le_refl _
  have hR4 : 0 ≤ R.slots := by rw [hR]; exact Nat.le_refl _
  have hin := (name_of_methodNamed B.named B.method).1
  clear hR B
  refine tf_enter (As := [.ref a0]) hargs (Nat.le_of_ble_eq_true rfl) (fun ls hl => ?_)
  have hl : lv_has ls 1 [(0, .ref a0)] := hl
  refine lv_aload_n hx hb dX2_next_0 rfl (lv_at hl 0 rfl) ?_
  refine lv_aload_n hx hb dX2_next_1 rfl (lv_at hl 0 rfl) ?_
  refine tf_get hx hb hts inlX2 hown hK (ci := 2) rfl hW ha0 rfl 4 rfl (by decide) (hts _ fl_X2_29) dX2_next_2 (fun v1 hv1 hsv1 => ?_)
  obtain ⟨z2, rfl, hz2⟩ := tf_v0 hv1
  refine tf_iconst hx hb dX2_next_5 ?_
  refine tf_iadd hx hb dX2_next_6 ?_
  refine lv_aload_n hx hb dX2_next_7 rfl (lv_at hl 0 rfl) ?_
  refine tf_get hx hb hts inlX2 hown hK (ci := 2) rfl hW ha0 rfl 3 rfl (by decide) (hts _ fl_X2_25) dX2_next_8 (fun v3 hv3 hsv3 => ?_)
  obtain rfl : v3 = .ref t0 := Option.some.inj (hsv3.symm.trans he0)
  refine tf_get hx hb hts inlX4 hown hK (ci := 4) rfl hW ht0 rfl 2 rfl (by decide) (hts _ fl_X2_113) dX2_next_11 (fun v4 hv4 hsv4 => ?_)
  obtain rfl : v4 = .int (Int32.ofInt ze1) := Option.some.inj (hsv4.symm.trans he1)
  refine tf_iconst hx hb dX2_next_14 ?_
  refine tf_isub hx hb dX2_next_15 ?_
  refine tf_mmin hx hb hml hl hown (hts _ (tw24 (i := 13) rfl)) (hts _ (tw18 (i := 17) rfl)) (hts _ (tw10 (i := 2) rfl)) (hts _ (tw18 (i := 18) rfl)) ⟨by omega, by omega⟩ ⟨by omega, by omega⟩ (Nat.le_of_ble_eq_true rfl) (Nat.le_trans (by decide) hR1) (Nat.le_trans (by decide) hR2) (Nat.zero_le _) (Nat.zero_le _) dX2_next_16 (fun z5 hz5 => ?_)
  refine tf_put hx hb hts inlX2 tyX2 tyX2_ok nmX2 hown hK (ci := 2) rfl hW ha0 rfl rfl 4 rfl (by decide) (by decide) (hts _ fl_X2_29) rfl (tf_u0 (by omega) (by omega)) rfl rfl dX2_next_19 (fun H6 locs6 hW hs6 ht6 hq6 => ?_)
  have hs7 := (ht6 3 (by decide) (by decide)).trans he0
  have hs8 := tf_keepQ he1 (hq6 _ (tf_ne ht0 ha0 (by decide)))
  refine lv_aload_n hx hb dX2_next_22 rfl (lv_at hl 0 rfl) ?_
  refine lv_aload_n hx hb dX2_next_23 rfl (lv_at hl 0 rfl) ?_
  refine tf_get hx hb hts inlX2 hown hK (ci := 2) rfl hW ha0 rfl 3 rfl (by decide) (hts _ fl_X2_25) dX2_next_24 (fun v9 hv9 hsv9 => ?_)
  obtain rfl : v9 = .ref t0 := Option.some.inj (hsv9.symm.trans hs7)
  refine tf_get hx hb hts inlX4 hown hK (ci := 4) rfl hW ht0 rfl 0 rfl (by decide) (hts _ fl_X2_45) dX2_next_27 (fun v10 hv10 hsv10 => ?_)
  obtain ⟨ad11, rfl, had11⟩ := tf_v1 hv10
  refine lv_aload_n hx hb dX2_next_30 rfl (lv_at hl 0 rfl) ?_
  refine tf_get hx hb hts inlX2 hown hK (ci := 2) rfl hW ha0 rfl 4 rfl (by decide) (hts _ fl_X2_29) dX2_next_31 (fun v12 hv12 hsv12 => ?_)
  obtain rfl : v12 = .int (Int32.ofInt z5) := Option.some.inj (hsv12.symm.trans hs6)
  refine tf_iald (t0 := 0) hx hb hK hW had11 rfl rfl (by omega) (by omega) dX2_next_34 (fun v13 hv13 hsv13 => ?_)
  obtain ⟨z14, rfl, hz14⟩ := tf_v0 hv13
  refine tf_put hx hb hts inlX2 tyX2 tyX2_ok nmX2 hown hK (ci := 2) rfl hW ha0 rfl rfl 5 rfl (by decide) (by decide) (hts _ fl_X2_32) rfl (tf_u0 (by omega) (by omega)) rfl rfl dX2_next_35 (fun H15 locs15 hW hs15 ht15 hq15 => ?_)
  have hs16 := (ht15 3 (by decide) (by decide)).trans hs7
  have hs17 := tf_keepQ hs8 (hq15 _ (tf_ne ht0 ha0 (by decide)))
  have hs18 := (ht15 4 (by decide) (by decide)).trans hs6
  exact tf_retv hx hb hr hlocks hQ hW trivial dX2_next_38

abbrev M_X2_pass : List (Nat × Nat) := [(19, 4), (19, 5), (19, 7)]
set_option maxHeartbeats 4000000 in
set_option maxRecDepth 100000 in
theorem c_X2_pass (l : Launch) (g : tf_G) (T : tf_T) (a0 : Nat) (ha0 : T a0 = some (19, 0)) (x1 : Int) (hp1 : (-2147483648) ≤ x1 ∧ x1 ≤ 2147483647) (t0 : Nat) (ht0 : T t0 = some (21, 0)) : Met l yX2_pass (cd_X2_pass :: wsL_law) ({ frames := 2, cells := 0, slots := 0, locals := 60 }) (tf_P g T [.ref a0, .int (Int32.ofInt x1)] (fun H => tf_s H a0 (g.1.2 2 3) = some (.ref t0) ∧ (∃ z : Int, tf_s H t0 (g.1.2 4 2) = some (.int (Int32.ofInt z)) ∧ 1 ≤ z ∧ z ≤ 401))) (tf_Qi g M_X2_pass T (fun z _ _ => z = 0 ∨ z = 1)) 0 0 (fun q => tf_B g ≤ q) := by
  refine Met.ofW (cc := cX2_pass) (maxL := 2) (ret := (some .boolean)) (by decide) rfl ?_
  intro p e s m args below meth c s₁ B hml hv
  obtain ⟨hargs, hk, hW0, hB, hpre⟩ := hv
  obtain ⟨he0, ⟨ze1, he1, hze1⟩⟩ := hpre
  have hx := B.exec
  have hb := B.bytes
  have hr := B.returns
  have hts : ∀ w ∈ wsL_law, w.before args s = true := fun w h => atoms_spec (ws := cd_X2_pass :: wsL_law) B.pre w (List.mem_cons_of_mem _ h)
  have hown : s.vm.findClass RX2 = some m.cls := findClass_of_methodNamed B.named
  have hlocks := B.notSynchronized
  have hK := hk.1
  have hW := tf_n.start (M := M_X2_pass) hW0 hB
  obtain ⟨Q, hQ⟩ : ∃ q, q = MQ below (tf_Qi g M_X2_pass T (fun z _ _ => z = 0 ∨ z = 1)) args s 0 0 (fun q => tf_B g ≤ q) := ⟨_, rfl⟩
  rw [← hQ]
  obtain ⟨R, hR⟩ : ∃ q, q = (headSpec (cd_X2_pass :: wsL_law) ({ frames := 2, cells := 0, slots := 0, locals := 60 })).room := ⟨_, rfl⟩
  rw [← hR]
  have hR1 : 2 ≤ R.frames := by rw [hR]; exact Nat.le_refl _
  have hR2 : 60 ≤ R.locals := by rw [hR]; exact Nat.le_refl _
  have hR3 : 0 ≤ R.cells := by rw [hR]; exact Nat.le_refl _
  have hR4 : 0 ≤ R.slots := by rw [hR]; exact Nat.le_refl _
  have hin := (name_of_methodNamed B.named B.method).1
  clear hR B
  refine tf_enter (As := [.ref a0, .int (Int32.ofInt x1)]) hargs (Nat.le_of_ble_eq_true rfl) (fun ls hl => ?_)
  have hl : lv_has ls 2 [(0, .ref a0), (1, .int (Int32.ofInt x1))] := hl
  refine lv_aload_n hx hb dX2_pass_0 rfl (lv_at hl 0 rfl) ?_
  refine tf_get hx hb hts inlX2 hown hK (ci := 2) rfl hW ha0 rfl 5 rfl (by decide) (hts _ fl_X2_32) dX2_pass_1 (fun v1 hv1 hsv1 => ?_)
  obtain ⟨z2, rfl, hz2⟩ := tf_v0 hv1
  refine lv_iload_n hx hb dX2_pass_4 rfl (lv_at hl 1 rfl) ?_
  refine tf_icmp_eq (tgt := 13) hx hb ⟨by omega, by omega⟩ ⟨by omega, by omega⟩ dX2_pass_5 (by decide) (fun h3 => ?_) (fun h3 => ?_)
  · refine lv_aload_n hx hb dX2_pass_13 rfl (lv_at hl 0 rfl) ?_
    refine tf_callv (va_runV (As := []) (rest := []) ⟨hx, hb, hml, hown, hts⟩ (c_X2_next l g T a0 ha0 t0 ht0) (cwV 0 hts gv_X2_73 rfl rfl rfl hd_X2_next ⟨Nat.le_trans (by decide) hR1, Nat.le_trans (by decide) hR2⟩) (tf_preV hk hW ha0 (ci := 2) rfl rfl ⟨he0, ⟨_, he1, by omega, by omega⟩⟩) rfl rfl hl.1 rfl (lv_room (Nat.le_of_ble_eq_true rfl)) dX2_pass_14 ⟨Nat.zero_le _, Nat.zero_le _⟩) hW (by decide) (fun H4 locs4 hW hF4 hp4 => ?_)
    have hs5 := tf_keepF hF4 ha0 rfl rfl (by decide) he0
    have hs6 := tf_keepF hF4 ht0 rfl rfl (by decide) he1
    refine tf_iconst hx hb dX2_pass_17 ?_
    exact tf_retz (z := 1) hx hb hr hlocks hQ hW (by omega) (show (1) = 0 ∨ (1) = 1 by omega) dX2_pass_18
  · refine lv_aload_n hx hb dX2_pass_8 rfl (lv_at hl 0 rfl) ?_
    refine tf_calli (va_runV (As := []) (rest := []) ⟨hx, hb, hml, hown, hts⟩ (c_X2_failHere l g T a0 ha0) (cwV 0 hts gv_X2_66 rfl rfl rfl hd_X2_failHere ⟨Nat.le_trans (by decide) hR1, Nat.le_trans (by decide) hR2⟩) (tf_preV hk hW ha0 (ci := 2) rfl rfl trivial) rfl rfl hl.1 rfl (lv_room (Nat.le_of_ble_eq_true rfl)) dX2_pass_9 ⟨Nat.zero_le _, Nat.zero_le _⟩) hW (by decide) (fun z7 H7 locs7 hW hF7 hp7 => ?_)
    have hs8 := tf_keepF hF7 ha0 rfl rfl (by decide) he0
    have hs9 := tf_keepF hF7 ht0 rfl rfl (by decide) he1
    have hp7 : z7 = 0 ∨ z7 = 1 := hp7
    exact tf_retz (z := z7) hx hb hr hlocks hQ hW (by omega) (show (z7) = 0 ∨ (z7) = 1 by omega) dX2_pass_12


abbrev M_X4_isLetter : List (Nat × Nat) := []
set_option maxHeartbeats 4000000 in
set_option maxRecDepth 100000 in
theorem c_X4_isLetter (l : Launch) (g : tf_G) (T : tf_T) (x0 : Int) (hp0 : (-2147483648) ≤ x0 ∧ x0 ≤ 2147483647) : Met l yX4_isLetter (cd_X4_isLetter :: wsL_law) ({ frames := 1, cells := 0, slots := 0, locals := 24 }) (tf_P g T [.int (Int32.ofInt x0)] (fun H => True)) (tf_Qi g M_X4_isLetter T (fun z _ _ => (z = 1 ∧ 97 ≤ x0 ∧ x0 ≤ 122) ∨ (z = 0 ∧ (x0 < 97 ∨ 122 < x0)))) 0 0 (fun q => tf_B g ≤ q) := by
  refine Met.ofW (cc := cX4_isLetter) (maxL := 1) (ret := (some .boolean)) (by decide) rfl ?_
  intro p e s m args below meth c s₁ B hml hv
  obtain ⟨hargs, hk, hW0, hB, hpre⟩ := hv
  have hx := B.exec
  have hb := B.bytes
  have hr := B.returns
  have hts : ∀ w ∈ wsL_law, w.before args s = true := fun w h => atoms_spec (ws := cd_X4_isLetter :: wsL_law) B.pre w (List.mem_cons_of_mem _ h)
  have hown : s.vm.findClass RX4 = some m.cls := findClass_of_methodNamed B.named
  have hlocks := B.notSynchronized
  have hK := hk.1
  have hW := tf_n.start (M := M_X4_isLetter) hW0 hB
  obtain ⟨Q, hQ⟩ : ∃ q, q = MQ below (tf_Qi g M_X4_isLetter T (fun z _ _ => (z = 1 ∧ 97 ≤ x0 ∧ x0 ≤ 122) ∨ (z = 0 ∧ (x0 < 97 ∨ 122 < x0)))) args s 0 0 (fun q => tf_B g ≤ q) := ⟨_, rfl⟩
  rw [← hQ]
  obtain ⟨R, hR⟩ : ∃ q, q = (headSpec (cd_X4_isLetter :: wsL_law) ({ frames := 1, cells := 0, slots := 0, locals := 24 })).room := ⟨_, rfl⟩
  rw [← hR]
  have hR1 : 1 ≤ R.frames := by rw [hR]; exact Nat.le_refl _
  have hR2 : 24 ≤ R.locals := by rw [hR]; exact Nat.le_refl _
  have hR3 : 0 ≤ R.cells := by rw [hR]; exact Nat.le_refl _
  have hR4 : 0 ≤ R.slots := by rw [hR]; exact Nat.le_refl _
  have hin := (name_of_methodNamed B.named B.method).1
  clear hR B
  refine tf_enter (As := [.int (Int32.ofInt x0)]) hargs (Nat.le_of_ble_eq_true rfl) (fun ls hl => ?_)
  have hl : lv_has ls 1 [(0, .int (Int32.ofInt x0))] := hl
  refine lv_iload_n hx hb dX4_isLetter_0 rfl (lv_at hl 0 rfl) ?_
  refine tf_bipush hx hb dX4_isLetter_1 (by decide) ?_
  refine tf_icmp_lt (tgt := 16) hx hb ⟨by omega, by omega⟩ ⟨by decide, by decide⟩ dX4_isLetter_3 (by decide) (fun h1 => ?_) (fun h1 => ?_)
  · refine tf_iconst hx hb dX4_isLetter_16 ?_
    exact tf_retz (z := 0) hx hb hr hlocks hQ hW (by omega) (show ((0) = 1 ∧ 97 ≤ x0 ∧ x0 ≤ 122) ∨ ((0) = 0 ∧ (x0 < 97 ∨ 122 < x0)) by omega) dX4_isLetter_17
  · refine lv_iload_n hx hb dX4_isLetter_6 rfl (lv_at hl 0 rfl) ?_
    refine tf_bipush hx hb dX4_isLetter_7 (by decide) ?_
    refine tf_icmp_gt (tgt := 16) hx hb ⟨by omega, by omega⟩ ⟨by decide, by decide⟩ dX4_isLetter_9 (by decide) (fun h2 => ?_) (fun h2 => ?_)
    · refine tf_iconst hx hb dX4_isLetter_16 ?_
      exact tf_retz (z := 0) hx hb hr hlocks hQ hW (by omega) (show ((0) = 1 ∧ 97 ≤ x0 ∧ x0 ≤ 122) ∨ ((0) = 0 ∧ (x0 < 97 ∨ 122 < x0)) by omega) dX4_isLetter_17
    · refine tf_iconst hx hb dX4_isLetter_12 ?_
      refine lv_goto (tgt := 17) hx hb dX4_isLetter_13 (by decide) ?_
      exact tf_retz (z := 1) hx hb hr hlocks hQ hW (by omega) (show ((1) = 1 ∧ 97 ≤ x0 ∧ x0 ≤ 122) ∨ ((1) = 0 ∧ (x0 < 97 ∨ 122 < x0)) by omega) dX4_isLetter_17

abbrev M_X4_isDigit : List (Nat × Nat) := []
set_option maxHeartbeats 4000000 in
set_option maxRecDepth 100000 in
theorem c_X4_isDigit (l : Launch) (g : tf_G) (T : tf_T) (x0 : Int) (hp0 : (-2147483648) ≤ x0 ∧ x0 ≤ 2147483647) : Met l yX4_isDigit (cd_X4_isDigit :: wsL_law) ({ frames := 1, cells := 0, slots := 0, locals := 24 }) (tf_P g T [.int (Int32.ofInt x0)] (fun H => True)) (tf_Qi g M_X4_isDigit T (fun z _ _ => (z = 1 ∧ 48 ≤ x0 ∧ x0 ≤ 57) ∨ (z = 0 ∧ (x0 < 48 ∨ 57 < x0)))) 0 0 (fun q => tf_B g ≤ q) := by
  refine Met.ofW (cc := cX4_isDigit) (maxL := 1) (ret := (some .boolean)) (by decide) rfl ?_
  intro p e s m args below meth c s₁ B hml hv
  obtain ⟨hargs, hk, hW0, hB, hpre⟩ := hv
  have hx := B.exec
  have hb := B.bytes
  have hr := B.returns
  have hts : ∀ w ∈ wsL_law, w.before args s = true := fun w h => atoms_spec (ws := cd_X4_isDigit :: wsL_law) B.pre w (List.mem_cons_of_mem _ h)
  have hown : s.vm.findClass RX4 = some m.cls := findClass_of_methodNamed B.named
  have hlocks := B.notSynchronized
  have hK := hk.1
  have hW := tf_n.start (M := M_X4_isDigit) hW0 hB
  obtain ⟨Q, hQ⟩ : ∃ q, q = MQ below (tf_Qi g M_X4_isDigit T (fun z _ _ => (z = 1 ∧ 48 ≤ x0 ∧ x0 ≤ 57) ∨ (z = 0 ∧ (x0 < 48 ∨ 57 < x0)))) args s 0 0 (fun q => tf_B g ≤ q) := ⟨_, rfl⟩
  rw [← hQ]
  obtain ⟨R, hR⟩ : ∃ q, q = (headSpec (cd_X4_isDigit :: wsL_law) ({ frames := 1, cells := 0, slots := 0, locals := 24 })).room := ⟨_, rfl⟩
  rw [← hR]
  have hR1 : 1 ≤ R.frames := by rw [hR]; exact Nat.le_refl _
  have hR2 : 24 ≤ R.locals := by rw [hR]; exact Nat.le_refl _
  have hR3 : 0 ≤ R.cells := by rw [hR]; exact Nat.le_refl _
  have hR4 : 0 ≤ R.slots := by rw [hR]; exact Nat.le_refl _
  have hin := (name_of_methodNamed B.named B.method).1
  clear hR B
  refine tf_enter (As := [.int (Int32.ofInt x0)]) hargs (Nat.le_of_ble_eq_true rfl) (fun ls hl => ?_)
  have hl : lv_has ls 1 [(0, .int (Int32.ofInt x0))] := hl
  refine lv_iload_n hx hb dX4_isDigit_0 rfl (lv_at hl 0 rfl) ?_
  refine tf_bipush hx hb dX4_isDigit_1 (by decide) ?_
  refine tf_icmp_lt (tgt := 16) hx hb ⟨by omega, by omega⟩ ⟨by decide, by decide⟩ dX4_isDigit_3 (by decide) (fun h1 => ?_) (fun h1 => ?_)
  · refine tf_iconst hx hb dX4_isDigit_16 ?_
    exact tf_retz (z := 0) hx hb hr hlocks hQ hW (by omega) (show ((0) = 1 ∧ 48 ≤ x0 ∧ x0 ≤ 57) ∨ ((0) = 0 ∧ (x0 < 48 ∨ 57 < x0)) by omega) dX4_isDigit_17
  · refine lv_iload_n hx hb dX4_isDigit_6 rfl (lv_at hl 0 rfl) ?_
    refine tf_bipush hx hb dX4_isDigit_7 (by decide) ?_
    refine tf_icmp_gt (tgt := 16) hx hb ⟨by omega, by omega⟩ ⟨by decide, by decide⟩ dX4_isDigit_9 (by decide) (fun h2 => ?_) (fun h2 => ?_)
    · refine tf_iconst hx hb dX4_isDigit_16 ?_
      exact tf_retz (z := 0) hx hb hr hlocks hQ hW (by omega) (show ((0) = 1 ∧ 48 ≤ x0 ∧ x0 ≤ 57) ∨ ((0) = 0 ∧ (x0 < 48 ∨ 57 < x0)) by omega) dX4_isDigit_17
    · refine tf_iconst hx hb dX4_isDigit_12 ?_
      refine lv_goto (tgt := 17) hx hb dX4_isDigit_13 (by decide) ?_
      exact tf_retz (z := 1) hx hb hr hlocks hQ hW (by omega) (show ((1) = 1 ∧ 48 ≤ x0 ∧ x0 ≤ 57) ∨ ((1) = 0 ∧ (x0 < 48 ∨ 57 < x0)) by omega) dX4_isDigit_17

abbrev M_X4_add : List (Nat × Nat) := [(24, 0), (25, 0), (34, 2)]
set_option maxHeartbeats 4000000 in
set_option maxRecDepth 100000 in
theorem c_X4_add (l : Launch) (g : tf_G) (T : tf_T) (a0 : Nat) (ha0 : T a0 = some (34, 0)) (x1 : Int) (hp1 : (-2147483648) ≤ x1 ∧ x1 ≤ 2147483647) (x2 : Int) (hp2 : (-2147483648) ≤ x2 ∧ x2 ≤ 2147483647) (so : Nat) (hso : T so = some (24, 401)) (po : Nat) (hpo : T po = some (25, 401)) (mm : Int) (hmm : 0 ≤ mm ∧ mm ≤ 400) (ss : Int → Int) (pp : Int → Int) : Met l yX4_add (cd_X4_add :: wsL_law) ({ frames := 1, cells := 0, slots := 0, locals := 24 }) (tf_P g T [.ref a0, .int (Int32.ofInt x1), .int (Int32.ofInt x2)] (fun H => tf_s H a0 (g.1.2 4 2) = some (.int (Int32.ofInt mm)) ∧ tf_s H a0 (g.1.2 4 0) = some (.ref so) ∧ tf_s H a0 (g.1.2 4 1) = some (.ref po) ∧ tf_rw H so = ss ∧ tf_rw H po = pp)) (tf_Qv g M_X4_add T (fun _ H => tf_s H a0 (g.1.2 4 2) = some (.int (Int32.ofInt (mm + 1))) ∧ tf_rw H so = tf_up ss mm x1 ∧ tf_rw H po = tf_up pp mm x2)) 0 0 (fun q => tf_B g ≤ q) := by
  refine Met.ofW (cc := cX4_add) (maxL := 3) (ret := none) (by decide) rfl ?_
  intro p e s m args below meth c s₁ B hml hv
  obtain ⟨hargs, hk, hW0, hB, hpre⟩ := hv
  obtain ⟨he0, he1, he2, he3, he4⟩ := hpre
  have hx := B.exec
  have hb := B.bytes
  have hr := B.returns
  have hts : ∀ w ∈ wsL_law, w.before args s = true := fun w h => atoms_spec (ws := cd_X4_add :: wsL_law) B.pre w (List.mem_cons_of_mem _ h)
  have hown : s.vm.findClass RX4 = some m.cls := findClass_of_methodNamed B.named
  have hlocks := B.notSynchronized
  have hK := hk.1
  have hW := tf_n.start (M := M_X4_add) hW0 hB
  obtain ⟨Q, hQ⟩ : ∃ q, q = MQ below (tf_Qv g M_X4_add T (fun _ H => tf_s H a0 (g.1.2 4 2) = some (.int (Int32.ofInt (mm + 1))) ∧ tf_rw H so = tf_up ss mm x1 ∧ tf_rw H po = tf_up pp mm x2)) args s 0 0 (fun q => tf_B g ≤ q) := ⟨_, rfl⟩
  rw [← hQ]
  obtain ⟨R, hR⟩ : ∃ q, q = (headSpec (cd_X4_add :: wsL_law) ({ frames := 1, cells := 0, slots := 0, locals := 24 })).room := ⟨_, rfl⟩
  rw [← hR]
  have hR1 : 1 ≤ R.frames := by rw [hR]; exact Nat.le_refl _
  have hR2 : 24 ≤ R.locals := by rw [hR]; exact Nat.le_refl _
  have hR3 : 0 ≤ R.cells := by rw [hR]; exact Nat.le_refl _
  have hR4 : 0 ≤ R.slots := by rw [hR]; exact Nat.le_refl _
  have hin := (name_of_methodNamed B.named B.method).1
  clear hR B
  refine tf_enter (As := [.ref a0, .int (Int32.ofInt x1), .int (Int32.ofInt x2)]) hargs (Nat.le_of_ble_eq_true rfl) (fun ls hl => ?_)
  have hl : lv_has ls 3 [(0, .ref a0), (1, .int (Int32.ofInt x1)), (2, .int (Int32.ofInt x2))] := hl
  refine lv_aload_n hx hb dX4_add_0 rfl (lv_at hl 0 rfl) ?_
  refine tf_get hx hb hts inlX4 hown hK (ci := 4) rfl hW ha0 rfl 2 rfl (by decide) (hts _ fl_X4_18) dX4_add_1 (fun v1 hv1 hsv1 => ?_)
  obtain rfl : v1 = .int (Int32.ofInt mm) := Option.some.inj (hsv1.symm.trans he0)
  refine lv_aload_n hx hb dX4_add_4 rfl (lv_at hl 0 rfl) ?_
  refine tf_get hx hb hts inlX4 hown hK (ci := 4) rfl hW ha0 rfl 0 rfl (by decide) (hts _ fl_X4_9) dX4_add_5 (fun v2 hv2 hsv2 => ?_)
  obtain rfl : v2 = .ref so := Option.some.inj (hsv2.symm.trans he1)
  refine tf_alen (t0 := 0) hx hb hK hW hso rfl rfl dX4_add_8 (fun hn3 => ?_)
  refine tf_icmp_ge (tgt := 42) hx hb ⟨by omega, by omega⟩ ⟨by decide, by decide⟩ dX4_add_9 (by decide) (fun h4 => ?_) (fun h4 => ?_)
  · exfalso; omega
  · refine lv_aload_n hx hb dX4_add_12 rfl (lv_at hl 0 rfl) ?_
    refine tf_get hx hb hts inlX4 hown hK (ci := 4) rfl hW ha0 rfl 0 rfl (by decide) (hts _ fl_X4_9) dX4_add_13 (fun v5 hv5 hsv5 => ?_)
    obtain rfl : v5 = .ref so := Option.some.inj (hsv5.symm.trans he1)
    refine lv_aload_n hx hb dX4_add_16 rfl (lv_at hl 0 rfl) ?_
    refine tf_get hx hb hts inlX4 hown hK (ci := 4) rfl hW ha0 rfl 2 rfl (by decide) (hts _ fl_X4_18) dX4_add_17 (fun v6 hv6 hsv6 => ?_)
    obtain rfl : v6 = .int (Int32.ofInt mm) := Option.some.inj (hsv6.symm.trans he0)
    refine lv_iload_n hx hb dX4_add_20 rfl (lv_at hl 1 rfl) ?_
    refine tf_rwst (t0 := 0) hx hb hK hW hso rfl rfl (by omega) (by omega) (by decide) (tf_u0 (by omega) (by omega)) ⟨by omega, by omega⟩ trivial dX4_add_21 (fun H7 locs7 hW hu7 hq7 => ?_)
    have hs8 := tf_keepQ he0 (hq7 _ (tf_ne ha0 hso (by decide)))
    have hs9 := tf_keepQ he1 (hq7 _ (tf_ne ha0 hso (by decide)))
    have hs10 := tf_keepQ he2 (hq7 _ (tf_ne ha0 hso (by decide)))
    have hs11 := tf_keepCQ he4 (hq7 _ (tf_ne hpo hso (by decide)))
    have hu7 := hu7.trans (congrArg (fun w => tf_up w (mm) (x1)) he3)
    refine lv_aload_n hx hb dX4_add_22 rfl (lv_at hl 0 rfl) ?_
    refine tf_get hx hb hts inlX4 hown hK (ci := 4) rfl hW ha0 rfl 1 rfl (by decide) (hts _ fl_X4_15) dX4_add_23 (fun v12 hv12 hsv12 => ?_)
    obtain rfl : v12 = .ref po := Option.some.inj (hsv12.symm.trans hs10)
    refine lv_aload_n hx hb dX4_add_26 rfl (lv_at hl 0 rfl) ?_
    refine tf_get hx hb hts inlX4 hown hK (ci := 4) rfl hW ha0 rfl 2 rfl (by decide) (hts _ fl_X4_18) dX4_add_27 (fun v13 hv13 hsv13 => ?_)
    obtain rfl : v13 = .int (Int32.ofInt mm) := Option.some.inj (hsv13.symm.trans hs8)
    refine lv_iload_n hx hb dX4_add_30 rfl (lv_at hl 2 rfl) ?_
    refine tf_rwst (t0 := 0) hx hb hK hW hpo rfl rfl (by omega) (by omega) (by decide) (tf_u0 (by omega) (by omega)) ⟨by omega, by omega⟩ trivial dX4_add_31 (fun H14 locs14 hW hu14 hq14 => ?_)
    have hs15 := tf_keepQ hs8 (hq14 _ (tf_ne ha0 hpo (by decide)))
    have hs16 := tf_keepQ hs9 (hq14 _ (tf_ne ha0 hpo (by decide)))
    have hs17 := tf_keepQ hs10 (hq14 _ (tf_ne ha0 hpo (by decide)))
    have hs18 := tf_keepCQ hu7 (hq14 _ (tf_ne hso hpo (by decide)))
    have hu14 := hu14.trans (congrArg (fun w => tf_up w (mm) (x2)) hs11)
    refine lv_aload_n hx hb dX4_add_32 rfl (lv_at hl 0 rfl) ?_
    refine lv_dup hx hb dX4_add_33 rfl ?_
    refine tf_get hx hb hts inlX4 hown hK (ci := 4) rfl hW ha0 rfl 2 rfl (by decide) (hts _ fl_X4_18) dX4_add_34 (fun v19 hv19 hsv19 => ?_)
    obtain rfl : v19 = .int (Int32.ofInt mm) := Option.some.inj (hsv19.symm.trans hs15)
    refine tf_iconst hx hb dX4_add_37 ?_
    refine tf_iadd hx hb dX4_add_38 ?_
    refine tf_put hx hb hts inlX4 tyX4 tyX4_ok nmX4 hown hK (ci := 4) rfl hW ha0 rfl rfl 2 rfl (by decide) (by decide) (hts _ fl_X4_18) rfl (tf_u0 (by omega) (by omega)) rfl rfl dX4_add_39 (fun H20 locs20 hW hs20 ht20 hq20 => ?_)
    have hs21 := (ht20 0 (by decide) (by decide)).trans hs16
    have hs22 := (ht20 1 (by decide) (by decide)).trans hs17
    have hs23 := tf_keepCQ hs18 (hq20 _ (tf_ne hso ha0 (by decide)))
    have hs24 := tf_keepCQ hu14 (hq20 _ (tf_ne hpo ha0 (by decide)))
    exact tf_retv hx hb hr hlocks hQ hW ⟨(tf_eqv hs20 (by omega)), hs23, hs24⟩ dX4_add_42

abbrev M_X4_goesOn : List (Nat × Nat) := []
set_option maxHeartbeats 4000000 in
set_option maxRecDepth 100000 in
theorem c_X4_goesOn (l : Launch) (g : tf_G) (T : tf_T) (a0 : Nat) (ha0 : T a0 = some (34, 0)) (x1 : Int) (hp1 : 0 ≤ x1 ∧ x1 ≤ 399) (b0 : Nat) (hb0 : T b0 = some (3, 400)) (tp : Int → Int) : Met l yX4_goesOn (cd_X4_goesOn :: wsL_law) ({ frames := 2, cells := 0, slots := 0, locals := 44 }) (tf_P g T [.ref a0, .int (Int32.ofInt x1)] (fun H => tf_s H a0 (g.1.2 4 3) = some (.ref b0) ∧ tf_rw H b0 = tp)) (tf_Qi g M_X4_goesOn T (fun z _ _ => (z = 1 ∧ tf_go tp x1) ∨ (z = 0 ∧ ¬ tf_go tp x1))) 0 0 (fun q => tf_B g ≤ q) := by
  refine Met.ofW (cc := cX4_goesOn) (maxL := 2) (ret := (some .boolean)) (by decide) rfl ?_
  intro p e s m args below meth c s₁ B hml hv
  obtain ⟨hargs, hk, hW0, hB, hpre⟩ := hv
  obtain ⟨he0, he1⟩ := hpre
  have hx := B.exec
  have hb := B.bytes
  have hr := B.returns
  have hts : ∀ w ∈ wsL_law, w.before args s = true := fun w h => atoms_spec (ws := cd_X4_goesOn :: wsL_law) B.pre w (List.mem_cons_of_mem _ h)
  have hown : s.vm.findClass RX4 = some m.cls := findClass_of_methodNamed B.named
  have hlocks := B.notSynchronized
  have hK := hk.1
  have hW := tf_n.start (M := M_X4_goesOn) hW0 hB
  obtain ⟨Q, hQ⟩ : ∃ q, q = MQ below (tf_Qi g M_X4_goesOn T (fun z _ _ => (z = 1 ∧ tf_go tp x1) ∨ (z = 0 ∧ ¬ tf_go tp x1))) args s 0 0 (fun q => tf_B g ≤ q) := ⟨_, rfl⟩
  rw [← hQ]
  obtain ⟨R, hR⟩ : ∃ q, q = (headSpec (cd_X4_goesOn :: wsL_law) ({ frames := 2, cells := 0, slots := 0, locals := 44 })).room := ⟨_, rfl⟩
  rw [← hR]
  have hR1 : 2 ≤ R.frames := by rw [hR]; exact Nat.le_refl _
  have hR2 : 44 ≤ R.locals := by rw [hR]; exact Nat.le_refl _
  have hR3 : 0 ≤ R.cells := by rw [hR]; exact Nat.le_refl _
  have hR4 : 0 ≤ R.slots := by rw [hR]; exact Nat.le_refl _
  have hin := (name_of_methodNamed B.named B.method).1
  clear hR B
  refine tf_enter (As := [.ref a0, .int (Int32.ofInt x1)]) hargs (Nat.le_of_ble_eq_true rfl) (fun ls hl => ?_)
  have hl : lv_has ls 2 [(0, .ref a0), (1, .int (Int32.ofInt x1))] := hl
  refine lv_iload_n hx hb dX4_goesOn_0 rfl (lv_at hl 1 rfl) ?_
  refine tf_if_le (tgt := 60) hx hb ⟨by omega, by omega⟩ dX4_goesOn_1 (by decide) (fun h1 => ?_) (fun h1 => ?_)
  · refine tf_iconst hx hb dX4_goesOn_60 ?_
    exact tf_retz (z := 0) hx hb hr hlocks hQ hW (by omega) (by first | exact Or.inl ⟨rfl, by omega, Or.inl ⟨by omega, by omega, by omega, by omega⟩⟩ | exact Or.inl ⟨rfl, by omega, Or.inr ⟨by omega, by omega, by omega, by omega⟩⟩ | exact Or.inr ⟨rfl, fun h => by unfold tf_go at h; omega⟩) dX4_goesOn_61
  · refine lv_aload_n hx hb dX4_goesOn_4 rfl (lv_at hl 0 rfl) ?_
    refine tf_get hx hb hts inlX4 hown hK (ci := 4) rfl hW ha0 rfl 3 rfl (by decide) (hts _ fl_X4_22) dX4_goesOn_5 (fun v2 hv2 hsv2 => ?_)
    obtain rfl : v2 = .ref b0 := Option.some.inj (hsv2.symm.trans he0)
    refine lv_iload_n hx hb dX4_goesOn_8 rfl (lv_at hl 1 rfl) ?_
    refine tf_iald (t0 := 0) hx hb hK hW hb0 rfl rfl (by omega) (by omega) dX4_goesOn_9 (fun v3 hv3 hsv3 => ?_)
    obtain ⟨z4, rfl, hz4⟩ := tf_v0 hv3
    have er5 : tp x1 = z4 := he1 ▸ tf_rw_of (by omega) hsv3 ⟨by omega, by omega⟩
    refine tf_calli (va_runS (As := [.int (Int32.ofInt z4)]) (rest := []) ⟨hx, hb, hml, hown, hts⟩ (c_X4_isLetter l g T (z4) ⟨by omega, by omega⟩) ⟨callB_of 1 hts (gw_ws cm_X4_isLetter) rfl rfl rfl (hts _ (tw6 (i := 0) rfl)) (hts _ (tw20 (i := 16) rfl)) hd_X4_isLetter.2 ⟨Nat.le_trans (by decide) hR1, Nat.le_trans (by decide) hR2⟩, hts _ (tw20 (i := 17) rfl)⟩ (tf_preS hk hW trivial) rfl rfl hl.1 rfl (lv_room (Nat.le_of_ble_eq_true rfl)) dX4_goesOn_10 ⟨Nat.zero_le _, Nat.zero_le _⟩) hW (by decide) (fun z6 H6 locs6 hW hF6 hp6 => ?_)
    have hs7 := tf_keepF hF6 ha0 rfl rfl (by decide) he0
    have hs8 := tf_keepC hF6 hb0 rfl (by decide) he1
    rcases hp6 with ⟨rfl, h9, h10⟩ | ⟨rfl, h11⟩
    · refine tf_if_eq (tgt := 30) hx hb ⟨by decide, by decide⟩ dX4_goesOn_13 (by decide) (fun h12 => ?_) (fun h12 => ?_)
      · exfalso; omega
      · refine lv_aload_n hx hb dX4_goesOn_16 rfl (lv_at hl 0 rfl) ?_
        refine tf_get hx hb hts inlX4 hown hK (ci := 4) rfl hW ha0 rfl 3 rfl (by decide) (hts _ fl_X4_22) dX4_goesOn_17 (fun v13 hv13 hsv13 => ?_)
        obtain rfl : v13 = .ref b0 := Option.some.inj (hsv13.symm.trans hs7)
        refine lv_iload_n hx hb dX4_goesOn_20 rfl (lv_at hl 1 rfl) ?_
        refine tf_iconst hx hb dX4_goesOn_21 ?_
        refine tf_isub hx hb dX4_goesOn_22 ?_
        refine tf_iald (t0 := 0) hx hb hK hW hb0 rfl rfl (by omega) (by omega) dX4_goesOn_23 (fun v14 hv14 hsv14 => ?_)
        obtain ⟨z15, rfl, hz15⟩ := tf_v0 hv14
        have er16 : tp (x1 - 1) = z15 := hs8 ▸ tf_rw_of (by omega) hsv14 ⟨by omega, by omega⟩
        refine tf_calli (va_runS (As := [.int (Int32.ofInt z15)]) (rest := []) ⟨hx, hb, hml, hown, hts⟩ (c_X4_isLetter l g T (z15) ⟨by omega, by omega⟩) ⟨callB_of 1 hts (gw_ws cm_X4_isLetter) rfl rfl rfl (hts _ (tw6 (i := 0) rfl)) (hts _ (tw20 (i := 16) rfl)) hd_X4_isLetter.2 ⟨Nat.le_trans (by decide) hR1, Nat.le_trans (by decide) hR2⟩, hts _ (tw20 (i := 17) rfl)⟩ (tf_preS hk hW trivial) rfl rfl hl.1 rfl (lv_room (Nat.le_of_ble_eq_true rfl)) dX4_goesOn_24 ⟨Nat.zero_le _, Nat.zero_le _⟩) hW (by decide) (fun z17 H17 locs17 hW hF17 hp17 => ?_)
        have hs18 := tf_keepF hF17 ha0 rfl rfl (by decide) hs7
        have hs19 := tf_keepC hF17 hb0 rfl (by decide) hs8
        rcases hp17 with ⟨rfl, h20, h21⟩ | ⟨rfl, h22⟩
        · refine tf_if_ne (tgt := 56) hx hb ⟨by decide, by decide⟩ dX4_goesOn_27 (by decide) (fun h23 => ?_) (fun h23 => ?_)
          · refine tf_iconst hx hb dX4_goesOn_56 ?_
            refine lv_goto (tgt := 61) hx hb dX4_goesOn_57 (by decide) ?_
            exact tf_retz (z := 1) hx hb hr hlocks hQ hW (by omega) (by first | exact Or.inl ⟨rfl, by omega, Or.inl ⟨by omega, by omega, by omega, by omega⟩⟩ | exact Or.inl ⟨rfl, by omega, Or.inr ⟨by omega, by omega, by omega, by omega⟩⟩ | exact Or.inr ⟨rfl, fun h => by unfold tf_go at h; omega⟩) dX4_goesOn_61
          · exfalso; omega
        · refine tf_if_ne (tgt := 56) hx hb ⟨by decide, by decide⟩ dX4_goesOn_27 (by decide) (fun h24 => ?_) (fun h24 => ?_)
          · exfalso; omega
          · refine lv_aload_n hx hb dX4_goesOn_30 rfl (lv_at hl 0 rfl) ?_
            refine tf_get hx hb hts inlX4 hown hK (ci := 4) rfl hW ha0 rfl 3 rfl (by decide) (hts _ fl_X4_22) dX4_goesOn_31 (fun v25 hv25 hsv25 => ?_)
            obtain rfl : v25 = .ref b0 := Option.some.inj (hsv25.symm.trans hs18)
            refine lv_iload_n hx hb dX4_goesOn_34 rfl (lv_at hl 1 rfl) ?_
            refine tf_iald (t0 := 0) hx hb hK hW hb0 rfl rfl (by omega) (by omega) dX4_goesOn_35 (fun v26 hv26 hsv26 => ?_)
            obtain ⟨z27, rfl, hz27⟩ := tf_v0 hv26
            have er28 : tp x1 = z27 := hs19 ▸ tf_rw_of (by omega) hsv26 ⟨by omega, by omega⟩
            refine tf_calli (va_runS (As := [.int (Int32.ofInt z27)]) (rest := []) ⟨hx, hb, hml, hown, hts⟩ (c_X4_isDigit l g T (z27) ⟨by omega, by omega⟩) ⟨callB_of 1 hts (gw_ws cm_X4_isDigit) rfl rfl rfl (hts _ (tw6 (i := 0) rfl)) (hts _ (tw20 (i := 19) rfl)) hd_X4_isDigit.2 ⟨Nat.le_trans (by decide) hR1, Nat.le_trans (by decide) hR2⟩, hts _ (tw20 (i := 20) rfl)⟩ (tf_preS hk hW trivial) rfl rfl hl.1 rfl (lv_room (Nat.le_of_ble_eq_true rfl)) dX4_goesOn_36 ⟨Nat.zero_le _, Nat.zero_le _⟩) hW (by decide) (fun z29 H29 locs29 hW hF29 hp29 => ?_)
            have hs30 := tf_keepF hF29 ha0 rfl rfl (by decide) hs18
            have hs31 := tf_keepC hF29 hb0 rfl (by decide) hs19
            rcases hp29 with ⟨rfl, h32, h33⟩ | ⟨rfl, h34⟩
            · refine tf_if_eq (tgt := 60) hx hb ⟨by decide, by decide⟩ dX4_goesOn_39 (by decide) (fun h35 => ?_) (fun h35 => ?_)
              · exfalso; omega
              · refine lv_aload_n hx hb dX4_goesOn_42 rfl (lv_at hl 0 rfl) ?_
                refine tf_get hx hb hts inlX4 hown hK (ci := 4) rfl hW ha0 rfl 3 rfl (by decide) (hts _ fl_X4_22) dX4_goesOn_43 (fun v36 hv36 hsv36 => ?_)
                obtain rfl : v36 = .ref b0 := Option.some.inj (hsv36.symm.trans hs30)
                refine lv_iload_n hx hb dX4_goesOn_46 rfl (lv_at hl 1 rfl) ?_
                refine tf_iconst hx hb dX4_goesOn_47 ?_
                refine tf_isub hx hb dX4_goesOn_48 ?_
                refine tf_iald (t0 := 0) hx hb hK hW hb0 rfl rfl (by omega) (by omega) dX4_goesOn_49 (fun v37 hv37 hsv37 => ?_)
                obtain ⟨z38, rfl, hz38⟩ := tf_v0 hv37
                have er39 : tp (x1 - 1) = z38 := hs31 ▸ tf_rw_of (by omega) hsv37 ⟨by omega, by omega⟩
                refine tf_calli (va_runS (As := [.int (Int32.ofInt z38)]) (rest := []) ⟨hx, hb, hml, hown, hts⟩ (c_X4_isDigit l g T (z38) ⟨by omega, by omega⟩) ⟨callB_of 1 hts (gw_ws cm_X4_isDigit) rfl rfl rfl (hts _ (tw6 (i := 0) rfl)) (hts _ (tw20 (i := 19) rfl)) hd_X4_isDigit.2 ⟨Nat.le_trans (by decide) hR1, Nat.le_trans (by decide) hR2⟩, hts _ (tw20 (i := 20) rfl)⟩ (tf_preS hk hW trivial) rfl rfl hl.1 rfl (lv_room (Nat.le_of_ble_eq_true rfl)) dX4_goesOn_50 ⟨Nat.zero_le _, Nat.zero_le _⟩) hW (by decide) (fun z40 H40 locs40 hW hF40 hp40 => ?_)
                have hs41 := tf_keepF hF40 ha0 rfl rfl (by decide) hs30
                have hs42 := tf_keepC hF40 hb0 rfl (by decide) hs31
                rcases hp40 with ⟨rfl, h43, h44⟩ | ⟨rfl, h45⟩
                · refine tf_if_eq (tgt := 60) hx hb ⟨by decide, by decide⟩ dX4_goesOn_53 (by decide) (fun h46 => ?_) (fun h46 => ?_)
                  · exfalso; omega
                  · refine tf_iconst hx hb dX4_goesOn_56 ?_
                    refine lv_goto (tgt := 61) hx hb dX4_goesOn_57 (by decide) ?_
                    exact tf_retz (z := 1) hx hb hr hlocks hQ hW (by omega) (by first | exact Or.inl ⟨rfl, by omega, Or.inl ⟨by omega, by omega, by omega, by omega⟩⟩ | exact Or.inl ⟨rfl, by omega, Or.inr ⟨by omega, by omega, by omega, by omega⟩⟩ | exact Or.inr ⟨rfl, fun h => by unfold tf_go at h; omega⟩) dX4_goesOn_61
                · refine tf_if_eq (tgt := 60) hx hb ⟨by decide, by decide⟩ dX4_goesOn_53 (by decide) (fun h47 => ?_) (fun h47 => ?_)
                  · refine tf_iconst hx hb dX4_goesOn_60 ?_
                    exact tf_retz (z := 0) hx hb hr hlocks hQ hW (by omega) (by first | exact Or.inl ⟨rfl, by omega, Or.inl ⟨by omega, by omega, by omega, by omega⟩⟩ | exact Or.inl ⟨rfl, by omega, Or.inr ⟨by omega, by omega, by omega, by omega⟩⟩ | exact Or.inr ⟨rfl, fun h => by unfold tf_go at h; omega⟩) dX4_goesOn_61
                  · exfalso; omega
            · refine tf_if_eq (tgt := 60) hx hb ⟨by decide, by decide⟩ dX4_goesOn_39 (by decide) (fun h48 => ?_) (fun h48 => ?_)
              · refine tf_iconst hx hb dX4_goesOn_60 ?_
                exact tf_retz (z := 0) hx hb hr hlocks hQ hW (by omega) (by first | exact Or.inl ⟨rfl, by omega, Or.inl ⟨by omega, by omega, by omega, by omega⟩⟩ | exact Or.inl ⟨rfl, by omega, Or.inr ⟨by omega, by omega, by omega, by omega⟩⟩ | exact Or.inr ⟨rfl, fun h => by unfold tf_go at h; omega⟩) dX4_goesOn_61
              · exfalso; omega
    · refine tf_if_eq (tgt := 30) hx hb ⟨by decide, by decide⟩ dX4_goesOn_13 (by decide) (fun h49 => ?_) (fun h49 => ?_)
      · refine lv_aload_n hx hb dX4_goesOn_30 rfl (lv_at hl 0 rfl) ?_
        refine tf_get hx hb hts inlX4 hown hK (ci := 4) rfl hW ha0 rfl 3 rfl (by decide) (hts _ fl_X4_22) dX4_goesOn_31 (fun v50 hv50 hsv50 => ?_)
        obtain rfl : v50 = .ref b0 := Option.some.inj (hsv50.symm.trans hs7)
        refine lv_iload_n hx hb dX4_goesOn_34 rfl (lv_at hl 1 rfl) ?_
        refine tf_iald (t0 := 0) hx hb hK hW hb0 rfl rfl (by omega) (by omega) dX4_goesOn_35 (fun v51 hv51 hsv51 => ?_)
        obtain ⟨z52, rfl, hz52⟩ := tf_v0 hv51
        have er53 : tp x1 = z52 := hs8 ▸ tf_rw_of (by omega) hsv51 ⟨by omega, by omega⟩
        refine tf_calli (va_runS (As := [.int (Int32.ofInt z52)]) (rest := []) ⟨hx, hb, hml, hown, hts⟩ (c_X4_isDigit l g T (z52) ⟨by omega, by omega⟩) ⟨callB_of 1 hts (gw_ws cm_X4_isDigit) rfl rfl rfl (hts _ (tw6 (i := 0) rfl)) (hts _ (tw20 (i := 19) rfl)) hd_X4_isDigit.2 ⟨Nat.le_trans (by decide) hR1, Nat.le_trans (by decide) hR2⟩, hts _ (tw20 (i := 20) rfl)⟩ (tf_preS hk hW trivial) rfl rfl hl.1 rfl (lv_room (Nat.le_of_ble_eq_true rfl)) dX4_goesOn_36 ⟨Nat.zero_le _, Nat.zero_le _⟩) hW (by decide) (fun z54 H54 locs54 hW hF54 hp54 => ?_)
        have hs55 := tf_keepF hF54 ha0 rfl rfl (by decide) hs7
        have hs56 := tf_keepC hF54 hb0 rfl (by decide) hs8
        rcases hp54 with ⟨rfl, h57, h58⟩ | ⟨rfl, h59⟩
        · refine tf_if_eq (tgt := 60) hx hb ⟨by decide, by decide⟩ dX4_goesOn_39 (by decide) (fun h60 => ?_) (fun h60 => ?_)
          · exfalso; omega
          · refine lv_aload_n hx hb dX4_goesOn_42 rfl (lv_at hl 0 rfl) ?_
            refine tf_get hx hb hts inlX4 hown hK (ci := 4) rfl hW ha0 rfl 3 rfl (by decide) (hts _ fl_X4_22) dX4_goesOn_43 (fun v61 hv61 hsv61 => ?_)
            obtain rfl : v61 = .ref b0 := Option.some.inj (hsv61.symm.trans hs55)
            refine lv_iload_n hx hb dX4_goesOn_46 rfl (lv_at hl 1 rfl) ?_
            refine tf_iconst hx hb dX4_goesOn_47 ?_
            refine tf_isub hx hb dX4_goesOn_48 ?_
            refine tf_iald (t0 := 0) hx hb hK hW hb0 rfl rfl (by omega) (by omega) dX4_goesOn_49 (fun v62 hv62 hsv62 => ?_)
            obtain ⟨z63, rfl, hz63⟩ := tf_v0 hv62
            have er64 : tp (x1 - 1) = z63 := hs56 ▸ tf_rw_of (by omega) hsv62 ⟨by omega, by omega⟩
            refine tf_calli (va_runS (As := [.int (Int32.ofInt z63)]) (rest := []) ⟨hx, hb, hml, hown, hts⟩ (c_X4_isDigit l g T (z63) ⟨by omega, by omega⟩) ⟨callB_of 1 hts (gw_ws cm_X4_isDigit) rfl rfl rfl (hts _ (tw6 (i := 0) rfl)) (hts _ (tw20 (i := 19) rfl)) hd_X4_isDigit.2 ⟨Nat.le_trans (by decide) hR1, Nat.le_trans (by decide) hR2⟩, hts _ (tw20 (i := 20) rfl)⟩ (tf_preS hk hW trivial) rfl rfl hl.1 rfl (lv_room (Nat.le_of_ble_eq_true rfl)) dX4_goesOn_50 ⟨Nat.zero_le _, Nat.zero_le _⟩) hW (by decide) (fun z65 H65 locs65 hW hF65 hp65 => ?_)
            have hs66 := tf_keepF hF65 ha0 rfl rfl (by decide) hs55
            have hs67 := tf_keepC hF65 hb0 rfl (by decide) hs56
            rcases hp65 with ⟨rfl, h68, h69⟩ | ⟨rfl, h70⟩
            · refine tf_if_eq (tgt := 60) hx hb ⟨by decide, by decide⟩ dX4_goesOn_53 (by decide) (fun h71 => ?_) (fun h71 => ?_)
              · exfalso; omega
              · refine tf_iconst hx hb dX4_goesOn_56 ?_
                refine lv_goto (tgt := 61) hx hb dX4_goesOn_57 (by decide) ?_
                exact tf_retz (z := 1) hx hb hr hlocks hQ hW (by omega) (by first | exact Or.inl ⟨rfl, by omega, Or.inl ⟨by omega, by omega, by omega, by omega⟩⟩ | exact Or.inl ⟨rfl, by omega, Or.inr ⟨by omega, by omega, by omega, by omega⟩⟩ | exact Or.inr ⟨rfl, fun h => by unfold tf_go at h; omega⟩) dX4_goesOn_61
            · refine tf_if_eq (tgt := 60) hx hb ⟨by decide, by decide⟩ dX4_goesOn_53 (by decide) (fun h72 => ?_) (fun h72 => ?_)
              · refine tf_iconst hx hb dX4_goesOn_60 ?_
                exact tf_retz (z := 0) hx hb hr hlocks hQ hW (by omega) (by first | exact Or.inl ⟨rfl, by omega, Or.inl ⟨by omega, by omega, by omega, by omega⟩⟩ | exact Or.inl ⟨rfl, by omega, Or.inr ⟨by omega, by omega, by omega, by omega⟩⟩ | exact Or.inr ⟨rfl, fun h => by unfold tf_go at h; omega⟩) dX4_goesOn_61
              · exfalso; omega
        · refine tf_if_eq (tgt := 60) hx hb ⟨by decide, by decide⟩ dX4_goesOn_39 (by decide) (fun h73 => ?_) (fun h73 => ?_)
          · refine tf_iconst hx hb dX4_goesOn_60 ?_
            exact tf_retz (z := 0) hx hb hr hlocks hQ hW (by omega) (by first | exact Or.inl ⟨rfl, by omega, Or.inl ⟨by omega, by omega, by omega, by omega⟩⟩ | exact Or.inl ⟨rfl, by omega, Or.inr ⟨by omega, by omega, by omega, by omega⟩⟩ | exact Or.inr ⟨rfl, fun h => by unfold tf_go at h; omega⟩) dX4_goesOn_61
          · exfalso; omega
      · exfalso; omega

abbrev M_X4_numberFrom : List (Nat × Nat) := []
set_option maxHeartbeats 4000000 in
set_option maxRecDepth 100000 in
theorem c_X4_numberFrom (l : Launch) (g : tf_G) (T : tf_T) (a0 : Nat) (ha0 : T a0 = some (34, 0)) (x1 : Int) (hp1 : 0 ≤ x1 ∧ x1 ≤ 399) (b0 : Nat) (hb0 : T b0 = some (3, 400)) (tp : Int → Int) (n9 : Int) (hn9 : 0 ≤ n9 ∧ n9 ≤ 400) (hq0 : 48 ≤ tp x1 ∧ tp x1 ≤ 57) (hq1 : x1 < n9) : Met l yX4_numberFrom (cd_X4_numberFrom :: wsL_law) ({ frames := 2, cells := 0, slots := 0, locals := 44 }) (tf_P g T [.ref a0, .int (Int32.ofInt x1)] (fun H => tf_s H a0 (g.1.2 4 3) = some (.ref b0) ∧ tf_rw H b0 = tp ∧ tf_s H a0 (g.1.2 4 4) = some (.int (Int32.ofInt n9)))) (tf_Qi g M_X4_numberFrom T (fun z _ _ => 2000 ≤ z ∧ z ≤ 3001 ∧ ∃ m : Nat, tf_rd tp n9 x1 m ∧ z = 2000 + tf_nv tp x1 m)) 0 0 (fun q => tf_B g ≤ q) := by
  refine Met.ofW (cc := cX4_numberFrom) (maxL := 4) (ret := (some .int)) (by decide) rfl ?_
  intro p e s m args below meth c s₁ B hml hv
  obtain ⟨hargs, hk, hW0, hB, hpre⟩ := hv
  obtain ⟨he0, he1, he2⟩ := hpre
  have hx := B.exec
  have hb := B.bytes
  have hr := B.returns
  have hts : ∀ w ∈ wsL_law, w.before args s = true := fun w h => atoms_spec (ws := cd_X4_numberFrom :: wsL_law) B.pre w (List.mem_cons_of_mem _ h)
  have hown : s.vm.findClass RX4 = some m.cls := findClass_of_methodNamed B.named
  have hlocks := B.notSynchronized
  have hK := hk.1
  have hW := tf_n.start (M := M_X4_numberFrom) hW0 hB
  obtain ⟨Q, hQ⟩ : ∃ q, q = MQ below (tf_Qi g M_X4_numberFrom T (fun z _ _ => 2000 ≤ z ∧ z ≤ 3001 ∧ ∃ m : Nat, tf_rd tp n9 x1 m ∧ z = 2000 + tf_nv tp x1 m)) args s 0 0 (fun q => tf_B g ≤ q) := ⟨_, rfl⟩
  rw [← hQ]
  obtain ⟨R, hR⟩ : ∃ q, q = (headSpec (cd_X4_numberFrom :: wsL_law) ({ frames := 2, cells := 0, slots := 0, locals := 44 })).room := ⟨_, rfl⟩
  rw [← hR]
  have hR1 : 2 ≤ R.frames := by rw [hR]; exact Nat.le_refl _
  have hR2 : 44 ≤ R.locals := by rw [hR]; exact Nat.le_refl _
  have hR3 : 0 ≤ R.cells := by rw [hR]; exact Nat.le_refl _
  have hR4 : 0 ≤ R.slots := by rw [hR]; exact Nat.le_refl _
  have hin := (name_of_methodNamed B.named B.method).1
  clear hR B
  have j_4 : ∀ (n_4 : Nat), ∀ (x2_4 : Int), 0 ≤ x2_4 ∧ x2_4 ≤ 1001 → ∀ (x3_4 : Int), 0 ≤ x3_4 ∧ x3_4 ≤ 400 → (tf_DN tp n9 x1 x2_4 x3_4) → (400 - x3_4 + 1 ≤ (n_4 : Int)) → ∀ (H : Heap) (locs : List Loc), tf_n tf_kt g M_X4_numberFrom T s.heap T H locs → tf_s H a0 (g.1.2 4 3) = some (.ref b0) → tf_rw H b0 = tp → tf_s H a0 (g.1.2 4 4) = some (.int (Int32.ofInt n9)) → ∀ (ls : Array Slot), lv_has ls 4 [(0, .ref a0), (2, .int (Int32.ofInt x2_4)), (3, .int (Int32.ofInt x3_4))] → W p l e R s m args below meth c H locs 0 0 Q (F0 m 4 ls []) := by
    intro n_4
    induction n_4 with
    | zero =>
      intro x2_4 hx2_4 x3_4 hx3_4 hi0_4 hm_4
      exfalso; omega
    | succ n_4 ih_4 =>
      intro x2_4 hx2_4 x3_4 hx3_4 hi0_4 hm_4 H locs hW hs3_4 hcTAPE_4 hs4_4 ls hl
      have hcg : x3_4 = x1 → tp x3_4 = tp x1 := fun h => by rw [h]
      have hDi := id hi0_4
      unfold tf_DN at hDi
      have hDb := tf_DN_b hi0_4
      refine lv_iload_n hx hb dX4_numberFrom_4 rfl (lv_at hl 2 rfl) ?_
      refine lv_aload_n hx hb dX4_numberFrom_5 rfl (lv_at hl 0 rfl) ?_
      refine tf_get hx hb hts inlX4 hown hK (ci := 4) rfl hW ha0 rfl 4 rfl (by decide) (hts _ fl_X4_25) dX4_numberFrom_6 (fun v1 hv1 hsv1 => ?_)
      obtain rfl : v1 = .int (Int32.ofInt n9) := Option.some.inj (hsv1.symm.trans hs4_4)
      refine tf_icmp_ge (tgt := 51) hx hb ⟨by omega, by omega⟩ ⟨by omega, by omega⟩ dX4_numberFrom_9 (by decide) (fun h2 => ?_) (fun h2 => ?_)
      · refine tf_sipush hx hb dX4_numberFrom_51 (by decide) ?_
        refine lv_iload_n hx hb dX4_numberFrom_54 rfl (lv_at hl 1 rfl) ?_
        refine tf_iadd hx hb dX4_numberFrom_55 ?_
        exact tf_reti (z := (2000 + x2_4)) hx hb hr hlocks hQ hW (by first | exact ⟨by omega, by omega, tf_DN_end hi0_4 (by omega) (by omega) (by omega)⟩) dX4_numberFrom_56
      · refine lv_aload_n hx hb dX4_numberFrom_12 rfl (lv_at hl 0 rfl) ?_
        refine tf_get hx hb hts inlX4 hown hK (ci := 4) rfl hW ha0 rfl 3 rfl (by decide) (hts _ fl_X4_22) dX4_numberFrom_13 (fun v3 hv3 hsv3 => ?_)
        obtain rfl : v3 = .ref b0 := Option.some.inj (hsv3.symm.trans hs3_4)
        refine lv_iload_n hx hb dX4_numberFrom_16 rfl (lv_at hl 2 rfl) ?_
        refine tf_iald (t0 := 0) hx hb hK hW hb0 rfl rfl (by omega) (by omega) dX4_numberFrom_17 (fun v4 hv4 hsv4 => ?_)
        obtain ⟨z5, rfl, hz5⟩ := tf_v0 hv4
        have er6 : tp x3_4 = z5 := hcTAPE_4 ▸ tf_rw_of (by omega) hsv4 ⟨by omega, by omega⟩
        refine tf_calli (va_runS (As := [.int (Int32.ofInt z5)]) (rest := []) ⟨hx, hb, hml, hown, hts⟩ (c_X4_isDigit l g T (z5) ⟨by omega, by omega⟩) ⟨callB_of 1 hts (gw_ws cm_X4_isDigit) rfl rfl rfl (hts _ (tw6 (i := 0) rfl)) (hts _ (tw20 (i := 19) rfl)) hd_X4_isDigit.2 ⟨Nat.le_trans (by decide) hR1, Nat.le_trans (by decide) hR2⟩, hts _ (tw20 (i := 20) rfl)⟩ (tf_preS hk hW trivial) rfl rfl hl.1 rfl (lv_room (Nat.le_of_ble_eq_true rfl)) dX4_numberFrom_18 ⟨Nat.zero_le _, Nat.zero_le _⟩) hW (by decide) (fun z7 H7 locs7 hW hF7 hp7 => ?_)
        have hs8 := tf_keepF hF7 ha0 rfl rfl (by decide) hs3_4
        have hs9 := tf_keepC hF7 hb0 rfl (by decide) hcTAPE_4
        have hs10 := tf_keepF hF7 ha0 rfl rfl (by decide) hs4_4
        rcases hp7 with ⟨rfl, h11, h12⟩ | ⟨rfl, h13⟩
        · refine tf_if_eq (tgt := 51) hx hb ⟨by decide, by decide⟩ dX4_numberFrom_21 (by decide) (fun h14 => ?_) (fun h14 => ?_)
          · exfalso; omega
          · refine tf_sipush hx hb dX4_numberFrom_24 (by decide) ?_
            refine lv_iload_n hx hb dX4_numberFrom_27 rfl (lv_at hl 1 rfl) ?_
            refine tf_bipush hx hb dX4_numberFrom_28 (by decide) ?_
            refine tf_imul hx hb dX4_numberFrom_30 ?_
            refine lv_aload_n hx hb dX4_numberFrom_31 rfl (lv_at hl 0 rfl) ?_
            refine tf_get hx hb hts inlX4 hown hK (ci := 4) rfl hW ha0 rfl 3 rfl (by decide) (hts _ fl_X4_22) dX4_numberFrom_32 (fun v15 hv15 hsv15 => ?_)
            obtain rfl : v15 = .ref b0 := Option.some.inj (hsv15.symm.trans hs8)
            refine lv_iload_n hx hb dX4_numberFrom_35 rfl (lv_at hl 2 rfl) ?_
            refine tf_iald (t0 := 0) hx hb hK hW hb0 rfl rfl (by omega) (by omega) dX4_numberFrom_36 (fun v16 hv16 hsv16 => ?_)
            obtain ⟨z17, rfl, hz17⟩ := tf_v0 hv16
            have er18 : tp x3_4 = z17 := hs9 ▸ tf_rw_of (by omega) hsv16 ⟨by omega, by omega⟩
            refine tf_iadd hx hb dX4_numberFrom_37 ?_
            refine tf_bipush hx hb dX4_numberFrom_38 (by decide) ?_
            refine tf_isub hx hb dX4_numberFrom_40 ?_
            refine tf_mmin hx hb hml hl hown (hts _ (tw20 (i := 10) rfl)) (hts _ (tw18 (i := 17) rfl)) (hts _ (tw10 (i := 2) rfl)) (hts _ (tw18 (i := 18) rfl)) ⟨by decide, by decide⟩ ⟨by omega, by omega⟩ (Nat.le_of_ble_eq_true rfl) (Nat.le_trans (by decide) hR1) (Nat.le_trans (by decide) hR2) (Nat.zero_le _) (Nat.zero_le _) dX4_numberFrom_41 (fun z19 hz19 => ?_)
            refine lv_istore_n (lv' := [(2, .int (Int32.ofInt z19)), (0, .ref a0), (3, .int (Int32.ofInt x3_4))]) hx hb dX4_numberFrom_44 rfl hl (by decide) rfl (fun ls hl => ?_)
            refine lv_iinc (v := Int32.ofInt ((x3_4 + 1))) (lv' := [(3, .int (Int32.ofInt ((x3_4 + 1)))), (2, .int (Int32.ofInt z19)), (0, .ref a0)]) hx hb dX4_numberFrom_45 hl (k := 2) rfl (Int32.ofInt_add _ _).symm (by decide) rfl (fun ls hl => ?_)
            refine lv_goto (tgt := 4) hx hb dX4_numberFrom_48 (by decide) ?_
            exact ih_4 (z19) ⟨by omega, by omega⟩ ((x3_4 + 1)) ⟨by omega, by omega⟩ (by first | exact tf_DN_0 (by omega) | exact tf_DN_st hi0_4 er18 (by omega) (by omega) (by omega)) (by omega) _ _ hW hs8 hs9 hs10 _ (lv_sub hl [2, 1, 0] rfl)
        · refine tf_if_eq (tgt := 51) hx hb ⟨by decide, by decide⟩ dX4_numberFrom_21 (by decide) (fun h20 => ?_) (fun h20 => ?_)
          · refine tf_sipush hx hb dX4_numberFrom_51 (by decide) ?_
            refine lv_iload_n hx hb dX4_numberFrom_54 rfl (lv_at hl 1 rfl) ?_
            refine tf_iadd hx hb dX4_numberFrom_55 ?_
            exact tf_reti (z := (2000 + x2_4)) hx hb hr hlocks hQ hW (by first | exact ⟨by omega, by omega, tf_DN_end hi0_4 (by omega) (by omega) (by omega)⟩) dX4_numberFrom_56
          · exfalso; omega
  refine tf_enter (As := [.ref a0, .int (Int32.ofInt x1)]) hargs (Nat.le_of_ble_eq_true rfl) (fun ls hl => ?_)
  have hl : lv_has ls 4 [(0, .ref a0), (1, .int (Int32.ofInt x1))] := hl
  refine tf_iconst hx hb dX4_numberFrom_0 ?_
  refine lv_istore_n (lv' := [(2, .int (Int32.ofInt 0)), (0, .ref a0), (1, .int (Int32.ofInt x1))]) hx hb dX4_numberFrom_1 rfl hl (by decide) rfl (fun ls hl => ?_)
  refine lv_iload_n hx hb dX4_numberFrom_2 rfl (lv_at hl 2 rfl) ?_
  refine lv_istore_n (lv' := [(3, .int (Int32.ofInt x1)), (2, .int (Int32.ofInt 0)), (0, .ref a0), (1, .int (Int32.ofInt x1))]) hx hb dX4_numberFrom_3 rfl hl (by decide) rfl (fun ls hl => ?_)
  exact j_4 ((400 - x1 + 1 : Int)).toNat (0) ⟨by omega, by omega⟩ (x1) ⟨by omega, by omega⟩ (by first | exact tf_DN_0 (by omega) | exact tf_DN_st hi0_4 hno_ (by omega) (by omega) (by omega)) (by omega) _ _ hW he0 he1 he2 _ (lv_sub hl [2, 1, 0] rfl)

abbrev M_X2_failHere : List (Nat × Nat) := [(30, 7)]
set_option maxHeartbeats 4000000 in
set_option maxRecDepth 100000 in
theorem c_X2_failHere (l : Launch) (g : tf_G) (T : tf_T) (a0 : Nat) (ha0 : T a0 = some (30, 0)) (t0 : Nat) (ht0 : T t0 = some (34, 0)) (po : Nat) (hpo : T po = some (25, 401)) (pp : Int → Int) (k0 : Int) (hk0 : 0 ≤ k0 ∧ k0 ≤ 400) : Met l yX2_failHere (cd_X2_failHere :: wsL_law) ({ frames := 1, cells := 0, slots := 0, locals := 24 }) (tf_P g T [.ref a0] (fun H => tf_s H a0 (g.1.2 2 3) = some (.ref t0) ∧ tf_s H t0 (g.1.2 4 1) = some (.ref po) ∧ tf_rw H po = pp ∧ tf_s H a0 (g.1.2 2 4) = some (.int (Int32.ofInt k0)))) (tf_Qi g M_X2_failHere T (fun z _ H => (z = 0 ∨ z = 1) ∧ (∃ (fp1 : Int) , tf_s H a0 (g.1.2 2 7) = some (.int (Int32.ofInt fp1)) ∧ ((-2147483648) ≤ fp1 ∧ fp1 ≤ 2147483647) ∧ (z = 0) ∧ (fp1 = pp k0)))) 0 0 (fun q => tf_B g ≤ q) := by
  refine Met.ofW (cc := cX2_failHere) (maxL := 1) (ret := (some .boolean)) (by decide) rfl ?_
  intro p e s m args below meth c s₁ B hml hv
  obtain ⟨hargs, hk, hW0, hB, hpre⟩ := hv
  obtain ⟨he0, he1, he2, he3⟩ := hpre
  have hx := B.exec
  have hb := B.bytes
  have hr := B.returns
  have hts : ∀ w ∈ wsL_law, w.before args s = true := fun w h => atoms_spec (ws := cd_X2_failHere :: wsL_law) B.pre w (List.mem_cons_of_mem _ h)
  have hown : s.vm.findClass RX2 = some m.cls := findClass_of_methodNamed B.named
  have hlocks := B.notSynchronized
  have hK := hk.1
  have hW := tf_n.start (M := M_X2_failHere) hW0 hB
  obtain ⟨Q, hQ⟩ : ∃ q, q = MQ below (tf_Qi g M_X2_failHere T (fun z _ H => (z = 0 ∨ z = 1) ∧ (∃ (fp1 : Int) , tf_s H a0 (g.1.2 2 7) = some (.int (Int32.ofInt fp1)) ∧ ((-2147483648) ≤ fp1 ∧ fp1 ≤ 2147483647) ∧ (z = 0) ∧ (fp1 = pp k0)))) args s 0 0 (fun q => tf_B g ≤ q) := ⟨_, rfl⟩
  rw [← hQ]
  obtain ⟨R, hR⟩ : ∃ q, q = (headSpec (cd_X2_failHere :: wsL_law) ({ frames := 1, cells := 0, slots := 0, locals := 24 })).room := ⟨_, rfl⟩
  rw [← hR]
  have hR1 : 1 ≤ R.frames := by rw [hR]; exact Nat.le_refl _
  have hR2 : 24 ≤ R.locals := by rw [hR]; exact Nat.le_refl _
  have hR3 : 0 ≤ R.cells := by rw [hR]; exact Nat.le_refl _
  have hR4 : 0 ≤ R.slots := by rw [hR]; exact Nat.le_refl _
  have hin := (name_of_methodNamed B.named B.method).1
  clear hR B
  refine tf_enter (As := [.ref a0]) hargs (Nat.le_of_ble_eq_true rfl) (fun ls hl => ?_)
  have hl : lv_has ls 1 [(0, .ref a0)] := hl
  refine lv_aload_n hx hb dX2_failHere_0 rfl (lv_at hl 0 rfl) ?_
  refine lv_aload_n hx hb dX2_failHere_1 rfl (lv_at hl 0 rfl) ?_
  refine tf_get hx hb hts inlX2 hown hK (ci := 2) rfl hW ha0 rfl 3 rfl (by decide) (hts _ fl_X2_25) dX2_failHere_2 (fun v1 hv1 hsv1 => ?_)
  obtain rfl : v1 = .ref t0 := Option.some.inj (hsv1.symm.trans he0)
  refine tf_get hx hb hts inlX4 hown hK (ci := 4) rfl hW ht0 rfl 1 rfl (by decide) (hts _ fl_X2_110) dX2_failHere_5 (fun v2 hv2 hsv2 => ?_)
  obtain rfl : v2 = .ref po := Option.some.inj (hsv2.symm.trans he1)
  refine lv_aload_n hx hb dX2_failHere_8 rfl (lv_at hl 0 rfl) ?_
  refine tf_get hx hb hts inlX2 hown hK (ci := 2) rfl hW ha0 rfl 4 rfl (by decide) (hts _ fl_X2_29) dX2_failHere_9 (fun v3 hv3 hsv3 => ?_)
  obtain rfl : v3 = .int (Int32.ofInt k0) := Option.some.inj (hsv3.symm.trans he3)
  refine tf_iald (t0 := 0) hx hb hK hW hpo rfl rfl (by omega) (by omega) dX2_failHere_12 (fun v4 hv4 hsv4 => ?_)
  obtain ⟨z5, rfl, hz5⟩ := tf_v0 hv4
  have er6 : pp k0 = z5 := he2 ▸ tf_rw_of (by omega) hsv4 ⟨by omega, by omega⟩
  refine tf_put hx hb hts inlX2 tyX2 tyX2_ok nmX2 hown hK (ci := 2) rfl hW ha0 rfl rfl 7 rfl (by decide) (by decide) (hts _ fl_X2_38) rfl (tf_u0 (by omega) (by omega)) rfl rfl dX2_failHere_13 (fun H7 locs7 hW hs7 ht7 hq7 => ?_)
  have hs8 := (ht7 3 (by decide) (by decide)).trans he0
  have hs9 := tf_keepQ he1 (hq7 _ (tf_ne ht0 ha0 (by decide)))
  have hs10 := tf_keepCQ he2 (hq7 _ (tf_ne hpo ha0 (by decide)))
  have hs11 := (ht7 4 (by decide) (by decide)).trans he3
  refine tf_iconst hx hb dX2_failHere_16 ?_
  exact tf_retz (z := 0) hx hb hr hlocks hQ hW (by omega) ⟨by omega, ⟨(z5), hs7, ⟨by omega, by omega⟩, (by first | assumption | omega), (by first | assumption | omega)⟩⟩ dX2_failHere_17

abbrev M_X2_add : List (Nat × Nat) := [(0, 0), (30, 1)]
set_option maxHeartbeats 4000000 in
set_option maxRecDepth 100000 in
theorem c_X2_add (l : Launch) (g : tf_G) (T : tf_T) (a0 : Nat) (ha0 : T a0 = some (30, 0)) (x1 : Int) (hp1 : (-2147483648) ≤ x1 ∧ x1 ≤ 2147483647) (x2 : Int) (hp2 : (-2147483648) ≤ x2 ∧ x2 ≤ 2147483647) : Met l yX2_add (cd_X2_add :: wsL_law) ({ frames := 1, cells := 0, slots := 0, locals := 24 }) (tf_P g T [.ref a0, .int (Int32.ofInt x1), .int (Int32.ofInt x2)] (fun H => True)) (tf_Qv g M_X2_add T (fun _ H => True)) 0 0 (fun q => tf_B g ≤ q) := by
  refine Met.ofW (cc := cX2_add) (maxL := 3) (ret := none) (by decide) rfl ?_
  intro p e s m args below meth c s₁ B hml hv
  obtain ⟨hargs, hk, hW0, hB, hpre⟩ := hv
  have hx := B.exec
  have hb := B.bytes
  have hr := B.returns
  have hts : ∀ w ∈ wsL_law, w.before args s = true := fun w h => atoms_spec (ws := cd_X2_add :: wsL_law) B.pre w (List.mem_cons_of_mem _ h)
  have hown : s.vm.findClass RX2 = some m.cls := findClass_of_methodNamed B.named
  have hlocks := B.notSynchronized
  have hK := hk.1
  have hW := tf_n.start (M := M_X2_add) hW0 hB
  obtain ⟨Q, hQ⟩ : ∃ q, q = MQ below (tf_Qv g M_X2_add T (fun _ H => True)) args s 0 0 (fun q => tf_B g ≤ q) := ⟨_, rfl⟩
  rw [← hQ]
  obtain ⟨R, hR⟩ : ∃ q, q = (headSpec (cd_X2_add :: wsL_law) ({ frames := 1, cells := 0, slots := 0, locals := 24 })).room := ⟨_, rfl⟩
  rw [← hR]
  have hR1 : 1 ≤ R.frames := by rw [hR]; exact Nat.le_refl _
  have hR2 : 24 ≤ R.locals := by rw [hR]; exact Nat.le_refl _
  have hR3 : 0 ≤ R.cells := by rw [hR]; exact Nat.le_refl _
  have hR4 : 0 ≤ R.slots := by rw [hR]; exact Nat.le_refl _
  have hin := (name_of_methodNamed B.named B.method).1
  clear hR B
  refine tf_enter (As := [.ref a0, .int (Int32.ofInt x1), .int (Int32.ofInt x2)]) hargs (Nat.le_of_ble_eq_true rfl) (fun ls hl => ?_)
  have hl : lv_has ls 3 [(0, .ref a0), (1, .int (Int32.ofInt x1)), (2, .int (Int32.ofInt x2))] := hl
  refine lv_aload_n hx hb dX2_add_0 rfl (lv_at hl 0 rfl) ?_
  refine tf_get hx hb hts inlX2 hown hK (ci := 2) rfl hW ha0 rfl 1 rfl (by decide) (hts _ fl_X2_15) dX2_add_1 (fun v1 hv1 hsv1 => ?_)
  obtain ⟨z2, rfl, hz2⟩ := tf_v0 hv1
  refine lv_aload_n hx hb dX2_add_4 rfl (lv_at hl 0 rfl) ?_
  refine tf_get hx hb hts inlX2 hown hK (ci := 2) rfl hW ha0 rfl 0 rfl (by decide) (hts _ fl_X2_9) dX2_add_5 (fun v3 hv3 hsv3 => ?_)
  obtain ⟨ad4, rfl, had4⟩ := tf_v1 hv3
  refine tf_alen (t0 := 0) hx hb hK hW had4 rfl rfl dX2_add_8 (fun hn5 => ?_)
  refine tf_icmp_ge (tgt := 36) hx hb ⟨by omega, by omega⟩ ⟨by decide, by decide⟩ dX2_add_9 (by decide) (fun h6 => ?_) (fun h6 => ?_)
  · exact tf_retv hx hb hr hlocks hQ hW trivial dX2_add_36
  · refine lv_aload_n hx hb dX2_add_12 rfl (lv_at hl 0 rfl) ?_
    refine tf_get hx hb hts inlX2 hown hK (ci := 2) rfl hW ha0 rfl 0 rfl (by decide) (hts _ fl_X2_9) dX2_add_13 (fun v7 hv7 hsv7 => ?_)
    obtain rfl : v7 = .ref ad4 := Option.some.inj (hsv7.symm.trans hsv3)
    refine lv_aload_n hx hb dX2_add_16 rfl (lv_at hl 0 rfl) ?_
    refine tf_get hx hb hts inlX2 hown hK (ci := 2) rfl hW ha0 rfl 1 rfl (by decide) (hts _ fl_X2_15) dX2_add_17 (fun v8 hv8 hsv8 => ?_)
    obtain rfl : v8 = .int (Int32.ofInt z2) := Option.some.inj (hsv8.symm.trans hsv1)
    refine lv_iload_n hx hb dX2_add_20 rfl (lv_at hl 1 rfl) ?_
    refine lv_iload_n hx hb dX2_add_21 rfl (lv_at hl 2 rfl) ?_
    refine tf_iconst hx hb dX2_add_22 ?_
    refine tf_ishl_any hx hb dX2_add_23 (fun z9 hz9 => ?_)
    refine tf_ior_any hx hb dX2_add_24 (fun z10 hz10 => ?_)
    refine tf_iast (t0 := 0) hx hb hK hW had4 rfl rfl (by omega) (by omega) (by decide) (tf_u0 (by omega) (by omega)) dX2_add_25 (fun H11 locs11 hW hs11 ht11 hq11 => ?_)
    have hs12 := tf_keepQ hsv1 (hq11 _ (tf_ne ha0 had4 (by decide)))
    have hs13 := tf_keepQ hsv3 (hq11 _ (tf_ne ha0 had4 (by decide)))
    refine lv_aload_n hx hb dX2_add_26 rfl (lv_at hl 0 rfl) ?_
    refine lv_dup hx hb dX2_add_27 rfl ?_
    refine tf_get hx hb hts inlX2 hown hK (ci := 2) rfl hW ha0 rfl 1 rfl (by decide) (hts _ fl_X2_15) dX2_add_28 (fun v14 hv14 hsv14 => ?_)
    obtain rfl : v14 = .int (Int32.ofInt z2) := Option.some.inj (hsv14.symm.trans hs12)
    refine tf_iconst hx hb dX2_add_31 ?_
    refine tf_iadd hx hb dX2_add_32 ?_
    refine tf_put hx hb hts inlX2 tyX2 tyX2_ok nmX2 hown hK (ci := 2) rfl hW ha0 rfl rfl 1 rfl (by decide) (by decide) (hts _ fl_X2_15) rfl (tf_u0 (by omega) (by omega)) rfl rfl dX2_add_33 (fun H15 locs15 hW hs15 ht15 hq15 => ?_)
    have hs16 := (ht15 0 (by decide) (by decide)).trans hs13
    exact tf_retv hx hb hr hlocks hQ hW trivial dX2_add_36

abbrev M_X2_addJump : List (Nat × Nat) := [(0, 0), (30, 1)]
set_option maxHeartbeats 4000000 in
set_option maxRecDepth 100000 in
theorem c_X2_addJump (l : Launch) (g : tf_G) (T : tf_T) (a0 : Nat) (ha0 : T a0 = some (30, 0)) (x1 : Int) (hp1 : (-2147483648) ≤ x1 ∧ x1 ≤ 2147483647) (x2 : Int) (hp2 : (-2147483648) ≤ x2 ∧ x2 ≤ 2147483647) : Met l yX2_addJump (cd_X2_addJump :: wsL_law) ({ frames := 2, cells := 0, slots := 0, locals := 46 }) (tf_P g T [.ref a0, .int (Int32.ofInt x1), .int (Int32.ofInt x2)] (fun H => True)) (tf_Qi g M_X2_addJump T (fun z _ _ => (-2147483648) ≤ z ∧ z ≤ 2147483647)) 0 0 (fun q => tf_B g ≤ q) := by
  refine Met.ofW (cc := cX2_addJump) (maxL := 3) (ret := (some .int)) (by decide) rfl ?_
  intro p e s m args below meth c s₁ B hml hv
  obtain ⟨hargs, hk, hW0, hB, hpre⟩ := hv
  have hx := B.exec
  have hb := B.bytes
  have hr := B.returns
  have hts : ∀ w ∈ wsL_law, w.before args s = true := fun w h => atoms_spec (ws := cd_X2_addJump :: wsL_law) B.pre w (List.mem_cons_of_mem _ h)
  have hown : s.vm.findClass RX2 = some m.cls := findClass_of_methodNamed B.named
  have hlocks := B.notSynchronized
  have hK := hk.1
  have hW := tf_n.start (M := M_X2_addJump) hW0 hB
  obtain ⟨Q, hQ⟩ : ∃ q, q = MQ below (tf_Qi g M_X2_addJump T (fun z _ _ => (-2147483648) ≤ z ∧ z ≤ 2147483647)) args s 0 0 (fun q => tf_B g ≤ q) := ⟨_, rfl⟩
  rw [← hQ]
  obtain ⟨R, hR⟩ : ∃ q, q = (headSpec (cd_X2_addJump :: wsL_law) ({ frames := 2, cells := 0, slots := 0, locals := 46 })).room := ⟨_, rfl⟩
  rw [← hR]
  have hR1 : 2 ≤ R.frames := by rw [hR]; exact Nat.le_refl _
  have hR2 : 46 ≤ R.locals := by rw [hR]; exact Nat.le_refl _
  have hR3 : 0 ≤ R.cells := by rw [hR]; exact Nat.le_refl _
  have hR4 : 0 ≤ R.slots := by rw [hR]; exact Nat.le_refl _
  have hin := (name_of_methodNamed B.named B.method).1
  clear hR B
  refine tf_enter (As := [.ref a0, .int (Int32.ofInt x1), .int (Int32.ofInt x2)]) hargs (Nat.le_of_ble_eq_true rfl) (fun ls hl => ?_)
  have hl : lv_has ls 3 [(0, .ref a0), (1, .int (Int32.ofInt x1)), (2, .int (Int32.ofInt x2))] := hl
  refine lv_aload_n hx hb dX2_addJump_0 rfl (lv_at hl 0 rfl) ?_
  refine lv_iload_n hx hb dX2_addJump_1 rfl (lv_at hl 1 rfl) ?_
  refine lv_iload_n hx hb dX2_addJump_2 rfl (lv_at hl 2 rfl) ?_
  refine tf_callv (va_runV (As := [.int (Int32.ofInt x1), .int (Int32.ofInt x2)]) (rest := []) ⟨hx, hb, hml, hown, hts⟩ (c_X2_add l g T a0 ha0 (x1) ⟨by omega, by omega⟩ (x2) ⟨by omega, by omega⟩) (cwV 2 hts gv_X2_93 rfl rfl rfl hd_X2_add ⟨Nat.le_trans (by decide) hR1, Nat.le_trans (by decide) hR2⟩) (tf_preV hk hW ha0 (ci := 2) rfl rfl trivial) rfl rfl hl.1 rfl (lv_room (Nat.le_of_ble_eq_true rfl)) dX2_addJump_3 ⟨Nat.zero_le _, Nat.zero_le _⟩) hW (by decide) (fun H1 locs1 hW hF1 hp1 => ?_)
  refine lv_aload_n hx hb dX2_addJump_6 rfl (lv_at hl 0 rfl) ?_
  refine tf_get hx hb hts inlX2 hown hK (ci := 2) rfl hW ha0 rfl 1 rfl (by decide) (hts _ fl_X2_15) dX2_addJump_7 (fun v2 hv2 hsv2 => ?_)
  obtain ⟨z3, rfl, hz3⟩ := tf_v0 hv2
  refine tf_iconst hx hb dX2_addJump_10 ?_
  refine tf_isub hx hb dX2_addJump_11 ?_
  exact tf_reti (z := (z3 - 1)) hx hb hr hlocks hQ hW (show (-2147483648) ≤ ((z3 - 1)) ∧ ((z3 - 1)) ≤ 2147483647 by omega) dX2_addJump_12

abbrev M_X2_landHere : List (Nat × Nat) := [(0, 0)]
set_option maxHeartbeats 4000000 in
set_option maxRecDepth 100000 in
theorem c_X2_landHere (l : Launch) (g : tf_G) (T : tf_T) (a0 : Nat) (ha0 : T a0 = some (30, 0)) (x1 : Int) (hp1 : (-2147483648) ≤ x1 ∧ x1 ≤ 2147483647) : Met l yX2_landHere (cd_X2_landHere :: wsL_law) ({ frames := 1, cells := 0, slots := 0, locals := 24 }) (tf_P g T [.ref a0, .int (Int32.ofInt x1)] (fun H => True)) (tf_Qv g M_X2_landHere T (fun _ H => True)) 0 0 (fun q => tf_B g ≤ q) := by
  refine Met.ofW (cc := cX2_landHere) (maxL := 5) (ret := none) (by decide) rfl ?_
  intro p e s m args below meth c s₁ B hml hv
  obtain ⟨hargs, hk, hW0, hB, hpre⟩ := hv
  have hx := B.exec
  have hb := B.bytes
  have hr := B.returns
  have hts : ∀ w ∈ wsL_law, w.before args s = true := fun w h => atoms_spec (ws := cd_X2_landHere :: wsL_law) B.pre w (List.mem_cons_of_mem _ h)
  have hown : s.vm.findClass RX2 = some m.cls := findClass_of_methodNamed B.named
  have hlocks := B.notSynchronized
  have hK := hk.1
  have hW := tf_n.start (M := M_X2_landHere) hW0 hB
  obtain ⟨Q, hQ⟩ : ∃ q, q = MQ below (tf_Qv g M_X2_landHere T (fun _ H => True)) args s 0 0 (fun q => tf_B g ≤ q) := ⟨_, rfl⟩
  rw [← hQ]
  obtain ⟨R, hR⟩ : ∃ q, q = (headSpec (cd_X2_landHere :: wsL_law) ({ frames := 1, cells := 0, slots := 0, locals := 24 })).room := ⟨_, rfl⟩
  rw [← hR]
  have hR1 : 1 ≤ R.frames := by rw [hR]; exact Nat.le_refl _
  have hR2 : 24 ≤ R.locals := by rw [hR]; exact Nat.le_refl _
  have hR3 : 0 ≤ R.cells := by rw [hR]; exact Nat.le_refl _
  have hR4 : 0 ≤ R.slots := by rw [hR]; exact Nat.le_refl _
  have hin := (name_of_methodNamed B.named B.method).1
  clear hR B
  have j_4 : ∀ (n_4 : Nat), ∀ (x2_4 : Int), (-2147483648) ≤ x2_4 ∧ x2_4 ≤ 2147483647 → ∀ (x3_4 : Int), 0 ≤ x3_4 ∧ x3_4 ≤ 401 → (401 - x3_4 + 1 ≤ (n_4 : Int)) → ∀ (H : Heap) (locs : List Loc), tf_n tf_kt g M_X2_landHere T s.heap T H locs → ∀ (ls : Array Slot), lv_has ls 5 [(0, .ref a0), (2, .int (Int32.ofInt x2_4)), (3, .int (Int32.ofInt x3_4))] → W p l e R s m args below meth c H locs 0 0 Q (F0 m 4 ls []) := by
    intro n_4
    induction n_4 with
    | zero =>
      intro x2_4 hx2_4 x3_4 hx3_4 hm_4
      exfalso; omega
    | succ n_4 ih_4 =>
      intro x2_4 hx2_4 x3_4 hx3_4 hm_4 H locs hW  ls hl
      refine lv_iload_n hx hb dX2_landHere_4 rfl (lv_at hl 2 rfl) ?_
      refine tf_sipush hx hb dX2_landHere_5 (by decide) ?_
      refine tf_icmp_gt (tgt := 64) hx hb ⟨by omega, by omega⟩ ⟨by decide, by decide⟩ dX2_landHere_8 (by decide) (fun h1 => ?_) (fun h1 => ?_)
      · exact tf_retv hx hb hr hlocks hQ hW trivial dX2_landHere_64
      · refine lv_iload_n hx hb dX2_landHere_11 rfl (lv_at hl 1 rfl) ?_
        refine tf_if_lt (tgt := 64) hx hb ⟨by omega, by omega⟩ dX2_landHere_12 (by decide) (fun h2 => ?_) (fun h2 => ?_)
        · exact tf_retv hx hb hr hlocks hQ hW trivial dX2_landHere_64
        · refine lv_iload_n hx hb dX2_landHere_15 rfl (lv_at hl 1 rfl) ?_
          refine lv_aload_n hx hb dX2_landHere_16 rfl (lv_at hl 0 rfl) ?_
          refine tf_get hx hb hts inlX2 hown hK (ci := 2) rfl hW ha0 rfl 1 rfl (by decide) (hts _ fl_X2_15) dX2_landHere_17 (fun v3 hv3 hsv3 => ?_)
          obtain ⟨z4, rfl, hz4⟩ := tf_v0 hv3
          refine tf_icmp_ge (tgt := 64) hx hb ⟨by omega, by omega⟩ ⟨by omega, by omega⟩ dX2_landHere_20 (by decide) (fun h5 => ?_) (fun h5 => ?_)
          · exact tf_retv hx hb hr hlocks hQ hW trivial dX2_landHere_64
          · refine lv_aload_n hx hb dX2_landHere_23 rfl (lv_at hl 0 rfl) ?_
            refine tf_get hx hb hts inlX2 hown hK (ci := 2) rfl hW ha0 rfl 0 rfl (by decide) (hts _ fl_X2_9) dX2_landHere_24 (fun v6 hv6 hsv6 => ?_)
            obtain ⟨ad7, rfl, had7⟩ := tf_v1 hv6
            refine lv_iload_n hx hb dX2_landHere_27 rfl (lv_at hl 1 rfl) ?_
            refine tf_iald (t0 := 0) hx hb hK hW had7 rfl rfl (by omega) (by omega) dX2_landHere_28 (fun v8 hv8 hsv8 => ?_)
            obtain ⟨z9, rfl, hz9⟩ := tf_v0 hv8
            refine tf_iconst hx hb dX2_landHere_29 ?_
            refine tf_ishr_k hx hb 4 134217728 (by decide) (by decide +kernel) (by decide) dX2_landHere_30 (fun z10 hz10 => ?_)
            refine lv_istore (lv' := [(4, .int (Int32.ofInt z10)), (0, .ref a0), (2, .int (Int32.ofInt x2_4)), (3, .int (Int32.ofInt x3_4))]) hx hb dX2_landHere_31 hl (by decide) rfl (fun ls hl => ?_)
            refine lv_aload_n hx hb dX2_landHere_33 rfl (lv_at hl 1 rfl) ?_
            refine tf_get hx hb hts inlX2 hown hK (ci := 2) rfl hW ha0 rfl 0 rfl (by decide) (hts _ fl_X2_9) dX2_landHere_34 (fun v11 hv11 hsv11 => ?_)
            obtain rfl : v11 = .ref ad7 := Option.some.inj (hsv11.symm.trans hsv6)
            refine lv_iload_n hx hb dX2_landHere_37 rfl (lv_at hl 2 rfl) ?_
            refine lv_aload_n hx hb dX2_landHere_38 rfl (lv_at hl 1 rfl) ?_
            refine tf_get hx hb hts inlX2 hown hK (ci := 2) rfl hW ha0 rfl 0 rfl (by decide) (hts _ fl_X2_9) dX2_landHere_39 (fun v12 hv12 hsv12 => ?_)
            obtain rfl : v12 = .ref ad7 := Option.some.inj (hsv12.symm.trans hsv6)
            refine lv_iload_n hx hb dX2_landHere_42 rfl (lv_at hl 2 rfl) ?_
            refine tf_iald (t0 := 0) hx hb hK hW had7 rfl rfl (by omega) (by omega) dX2_landHere_43 (fun v13 hv13 hsv13 => ?_)
            obtain ⟨z14, rfl, hz14⟩ := tf_v0 hv13
            refine tf_bipush hx hb dX2_landHere_44 (by decide) ?_
            refine tf_iand_mask hx hb 4 (by decide) (by decide +kernel) dX2_landHere_46 (fun z15 hz15 kz15 => ?_)
            refine lv_aload_n hx hb dX2_landHere_47 rfl (lv_at hl 1 rfl) ?_
            refine tf_get hx hb hts inlX2 hown hK (ci := 2) rfl hW ha0 rfl 1 rfl (by decide) (hts _ fl_X2_15) dX2_landHere_48 (fun v16 hv16 hsv16 => ?_)
            obtain rfl : v16 = .int (Int32.ofInt z4) := Option.some.inj (hsv16.symm.trans hsv3)
            refine tf_iconst hx hb dX2_landHere_51 ?_
            refine tf_ishl_any hx hb dX2_landHere_52 (fun z17 hz17 => ?_)
            refine tf_ior_any hx hb dX2_landHere_53 (fun z18 hz18 => ?_)
            refine tf_iast (t0 := 0) hx hb hK hW had7 rfl rfl (by omega) (by omega) (by decide) (tf_u0 (by omega) (by omega)) dX2_landHere_54 (fun H19 locs19 hW hs19 ht19 hq19 => ?_)
            have hs20 := tf_keepQ hsv3 (hq19 _ (tf_ne ha0 had7 (by decide)))
            have hs21 := tf_keepQ hsv6 (hq19 _ (tf_ne ha0 had7 (by decide)))
            refine lv_iload hx hb dX2_landHere_55 (lv_at hl 0 rfl) ?_
            refine lv_istore_n (lv' := [(2, .int (Int32.ofInt z10)), (4, .int (Int32.ofInt z10)), (0, .ref a0), (3, .int (Int32.ofInt x3_4))]) hx hb dX2_landHere_57 rfl hl (by decide) rfl (fun ls hl => ?_)
            refine lv_iinc (v := Int32.ofInt ((x3_4 + 1))) (lv' := [(3, .int (Int32.ofInt ((x3_4 + 1)))), (2, .int (Int32.ofInt z10)), (4, .int (Int32.ofInt z10)), (0, .ref a0)]) hx hb dX2_landHere_58 hl (k := 3) rfl (Int32.ofInt_add _ _).symm (by decide) rfl (fun ls hl => ?_)
            refine lv_goto (tgt := 4) hx hb dX2_landHere_61 (by decide) ?_
            exact ih_4 (z10) ⟨by omega, by omega⟩ ((x3_4 + 1)) ⟨by omega, by omega⟩ (by omega) _ _ hW  _ (lv_sub hl [3, 1, 0] rfl)
  refine tf_enter (As := [.ref a0, .int (Int32.ofInt x1)]) hargs (Nat.le_of_ble_eq_true rfl) (fun ls hl => ?_)
  have hl : lv_has ls 5 [(0, .ref a0), (1, .int (Int32.ofInt x1))] := hl
  refine lv_iload_n hx hb dX2_landHere_0 rfl (lv_at hl 1 rfl) ?_
  refine lv_istore_n (lv' := [(2, .int (Int32.ofInt x1)), (0, .ref a0), (1, .int (Int32.ofInt x1))]) hx hb dX2_landHere_1 rfl hl (by decide) rfl (fun ls hl => ?_)
  refine tf_iconst hx hb dX2_landHere_2 ?_
  refine lv_istore_n (lv' := [(3, .int (Int32.ofInt 0)), (2, .int (Int32.ofInt x1)), (0, .ref a0), (1, .int (Int32.ofInt x1))]) hx hb dX2_landHere_3 rfl hl (by decide) rfl (fun ls hl => ?_)
  exact j_4 ((401 - 0 + 1 : Int)).toNat (x1) ⟨by omega, by omega⟩ (0) ⟨by omega, by omega⟩ (by omega) _ _ hW  _ (lv_sub hl [2, 1, 0] rfl)

abbrev M_X2_next : List (Nat × Nat) := [(30, 4), (30, 5)]
set_option maxHeartbeats 4000000 in
set_option maxRecDepth 100000 in
theorem c_X2_next (l : Launch) (g : tf_G) (T : tf_T) (a0 : Nat) (ha0 : T a0 = some (30, 0)) (t0 : Nat) (ht0 : T t0 = some (34, 0)) (so : Nat) (hso : T so = some (24, 401)) (mm : Int) (hmm : 1 ≤ mm ∧ mm ≤ 401) (ss : Int → Int) (k0 : Int) (hk0 : 0 ≤ k0 ∧ k0 ≤ 400) (hq0 : (k0 < mm)) (hq1 : (ss (mm - 1) = 0)) : Met l yX2_next (cd_X2_next :: wsL_law) ({ frames := 1, cells := 0, slots := 0, locals := 40 }) (tf_P g T [.ref a0] (fun H => tf_s H a0 (g.1.2 2 3) = some (.ref t0) ∧ tf_s H t0 (g.1.2 4 2) = some (.int (Int32.ofInt mm)) ∧ tf_s H t0 (g.1.2 4 0) = some (.ref so) ∧ tf_rw H so = ss ∧ tf_s H a0 (g.1.2 2 4) = some (.int (Int32.ofInt k0)))) (tf_Qv g M_X2_next T (fun _ H => (∃ (k1 t1 : Int) , tf_s H a0 (g.1.2 2 4) = some (.int (Int32.ofInt k1)) ∧ tf_s H a0 (g.1.2 2 5) = some (.int (Int32.ofInt t1)) ∧ (0 ≤ k1 ∧ k1 ≤ 400) ∧ ((-2147483648) ≤ t1 ∧ t1 ≤ 2147483647) ∧ (k1 = tf_nx mm k0) ∧ (t1 = ss k1) ∧ (k1 < mm) ∧ (k1 = k0 + 1 ∨ (k1 = k0 ∧ ss k0 = 0))))) 0 0 (fun q => tf_B g ≤ q) := by
  refine Met.ofW (cc := cX2_next) (maxL := 1) (ret := none) (by decide) rfl ?_
  intro p e s m args below meth c s₁ B hml hv
  obtain ⟨hargs, hk, hW0, hB, hpre⟩ := hv
  obtain ⟨he0, he1, he2, he3, he4⟩ := hpre
  have hx := B.exec
  have hb := B.bytes
  have hr := B.returns
  have hts : ∀ w ∈ wsL_law, w.before args s = true := fun w h => atoms_spec (ws := cd_X2_next :: wsL_law) B.pre w (List.mem_cons_of_mem _ h)
  have hown : s.vm.findClass RX2 = some m.cls := findClass_of_methodNamed B.named
  have hlocks := B.notSynchronized
  have hK := hk.1
  have hW := tf_n.start (M := M_X2_next) hW0 hB
  obtain ⟨Q, hQ⟩ : ∃ q, q = MQ below (tf_Qv g M_X2_next T (fun _ H => (∃ (k1 t1 : Int) , tf_s H a0 (g.1.2 2 4) = some (.int (Int32.ofInt k1)) ∧ tf_s H a0 (g.1.2 2 5) = some (.int (Int32.ofInt t1)) ∧ (0 ≤ k1 ∧ k1 ≤ 400) ∧ ((-2147483648) ≤ t1 ∧ t1 ≤ 2147483647) ∧ (k1 = tf_nx mm k0) ∧ (t1 = ss k1) ∧ (k1 < mm) ∧ (k1 = k0 + 1 ∨ (k1 = k0 ∧ ss k0 = 0))))) args s 0 0 (fun q => tf_B g ≤ q) := ⟨_, rfl⟩
  rw [← hQ]
  obtain ⟨R, hR⟩ : ∃ q, q = (headSpec (cd_X2_next :: wsL_law) ({ frames := 1, cells := 0, slots := 0, locals := 40 })).room := ⟨_, rfl⟩
  rw [← hR]
  have hR1 : 1 ≤ R.frames := by rw [hR]; exact Nat.le_refl _
  have hR2 : 40 ≤ R.locals := by rw [hR]; exact Nat.le_refl _
  have hR3 : 0 ≤ R.cells := by rw [hR]; exact Nat.le_refl _
  have hR4 : 0 ≤ R.slots := by rw [hR]; exact Nat.le_refl _
  have hin := (name_of_methodNamed B.named B.method).1
  clear hR B
  have hnx := tf_nx_eq mm k0
  have hce : k0 = mm - 1 → ss k0 = ss (mm - 1) := fun h => by rw [h]
  refine tf_enter (As := [.ref a0]) hargs (Nat.le_of_ble_eq_true rfl) (fun ls hl => ?_)
  have hl : lv_has ls 1 [(0, .ref a0)] := hl
  refine lv_aload_n hx hb dX2_next_0 rfl (lv_at hl 0 rfl) ?_
  refine lv_aload_n hx hb dX2_next_1 rfl (lv_at hl 0 rfl) ?_
  refine tf_get hx hb hts inlX2 hown hK (ci := 2) rfl hW ha0 rfl 4 rfl (by decide) (hts _ fl_X2_29) dX2_next_2 (fun v1 hv1 hsv1 => ?_)
  obtain rfl : v1 = .int (Int32.ofInt k0) := Option.some.inj (hsv1.symm.trans he4)
  refine tf_iconst hx hb dX2_next_5 ?_
  refine tf_iadd hx hb dX2_next_6 ?_
  refine lv_aload_n hx hb dX2_next_7 rfl (lv_at hl 0 rfl) ?_
  refine tf_get hx hb hts inlX2 hown hK (ci := 2) rfl hW ha0 rfl 3 rfl (by decide) (hts _ fl_X2_25) dX2_next_8 (fun v2 hv2 hsv2 => ?_)
  obtain rfl : v2 = .ref t0 := Option.some.inj (hsv2.symm.trans he0)
  refine tf_get hx hb hts inlX4 hown hK (ci := 4) rfl hW ht0 rfl 2 rfl (by decide) (hts _ fl_X2_113) dX2_next_11 (fun v3 hv3 hsv3 => ?_)
  obtain rfl : v3 = .int (Int32.ofInt mm) := Option.some.inj (hsv3.symm.trans he1)
  refine tf_iconst hx hb dX2_next_14 ?_
  refine tf_isub hx hb dX2_next_15 ?_
  refine tf_mmin hx hb hml hl hown (hts _ (tw24 (i := 13) rfl)) (hts _ (tw18 (i := 17) rfl)) (hts _ (tw10 (i := 2) rfl)) (hts _ (tw18 (i := 18) rfl)) ⟨by omega, by omega⟩ ⟨by omega, by omega⟩ (Nat.le_of_ble_eq_true rfl) (Nat.le_trans (by decide) hR1) (Nat.le_trans (by decide) hR2) (Nat.zero_le _) (Nat.zero_le _) dX2_next_16 (fun z4 hz4 => ?_)
  refine tf_put hx hb hts inlX2 tyX2 tyX2_ok nmX2 hown hK (ci := 2) rfl hW ha0 rfl rfl 4 rfl (by decide) (by decide) (hts _ fl_X2_29) rfl (tf_u0 (by omega) (by omega)) rfl rfl dX2_next_19 (fun H5 locs5 hW hs5 ht5 hq5 => ?_)
  have hs6 := (ht5 3 (by decide) (by decide)).trans he0
  have hs7 := tf_keepQ he1 (hq5 _ (tf_ne ht0 ha0 (by decide)))
  have hs8 := tf_keepQ he2 (hq5 _ (tf_ne ht0 ha0 (by decide)))
  have hs9 := tf_keepCQ he3 (hq5 _ (tf_ne hso ha0 (by decide)))
  refine lv_aload_n hx hb dX2_next_22 rfl (lv_at hl 0 rfl) ?_
  refine lv_aload_n hx hb dX2_next_23 rfl (lv_at hl 0 rfl) ?_
  refine tf_get hx hb hts inlX2 hown hK (ci := 2) rfl hW ha0 rfl 3 rfl (by decide) (hts _ fl_X2_25) dX2_next_24 (fun v10 hv10 hsv10 => ?_)
  obtain rfl : v10 = .ref t0 := Option.some.inj (hsv10.symm.trans hs6)
  refine tf_get hx hb hts inlX4 hown hK (ci := 4) rfl hW ht0 rfl 0 rfl (by decide) (hts _ fl_X2_45) dX2_next_27 (fun v11 hv11 hsv11 => ?_)
  obtain rfl : v11 = .ref so := Option.some.inj (hsv11.symm.trans hs8)
  refine lv_aload_n hx hb dX2_next_30 rfl (lv_at hl 0 rfl) ?_
  refine tf_get hx hb hts inlX2 hown hK (ci := 2) rfl hW ha0 rfl 4 rfl (by decide) (hts _ fl_X2_29) dX2_next_31 (fun v12 hv12 hsv12 => ?_)
  obtain rfl : v12 = .int (Int32.ofInt z4) := Option.some.inj (hsv12.symm.trans hs5)
  refine tf_iald (t0 := 0) hx hb hK hW hso rfl rfl (by omega) (by omega) dX2_next_34 (fun v13 hv13 hsv13 => ?_)
  obtain ⟨z14, rfl, hz14⟩ := tf_v0 hv13
  have er15 : ss z4 = z14 := hs9 ▸ tf_rw_of (by omega) hsv13 ⟨by omega, by omega⟩
  refine tf_put hx hb hts inlX2 tyX2 tyX2_ok nmX2 hown hK (ci := 2) rfl hW ha0 rfl rfl 5 rfl (by decide) (by decide) (hts _ fl_X2_32) rfl (tf_u0 (by omega) (by omega)) rfl rfl dX2_next_35 (fun H16 locs16 hW hs16 ht16 hq16 => ?_)
  have hs17 := (ht16 3 (by decide) (by decide)).trans hs6
  have hs18 := tf_keepQ hs7 (hq16 _ (tf_ne ht0 ha0 (by decide)))
  have hs19 := tf_keepQ hs8 (hq16 _ (tf_ne ht0 ha0 (by decide)))
  have hs20 := tf_keepCQ hs9 (hq16 _ (tf_ne hso ha0 (by decide)))
  have hs21 := (ht16 4 (by decide) (by decide)).trans hs5
  exact tf_retv hx hb hr hlocks hQ hW ⟨(z4), (z14), hs21, hs16, ⟨by omega, by omega⟩, ⟨by omega, by omega⟩, (by first | assumption | omega), (by first | assumption | omega), (by first | assumption | omega), (by first | assumption | omega)⟩ dX2_next_38

abbrev M_X2_pass : List (Nat × Nat) := [(30, 4), (30, 5), (30, 7)]
set_option maxHeartbeats 4000000 in
set_option maxRecDepth 100000 in
theorem c_X2_pass (l : Launch) (g : tf_G) (T : tf_T) (a0 : Nat) (ha0 : T a0 = some (30, 0)) (x1 : Int) (hp1 : (-2147483648) ≤ x1 ∧ x1 ≤ 2147483647) (t0 : Nat) (ht0 : T t0 = some (34, 0)) (so : Nat) (hso : T so = some (24, 401)) (po : Nat) (hpo : T po = some (25, 401)) (mm : Int) (hmm : 1 ≤ mm ∧ mm ≤ 401) (ss : Int → Int) (pp : Int → Int) (k0 : Int) (hk0 : 0 ≤ k0 ∧ k0 ≤ 400) (tk : Int) (htk : (-2147483648) ≤ tk ∧ tk ≤ 2147483647) (fp0 : Int) (hfp0 : (-2147483648) ≤ fp0 ∧ fp0 ≤ 2147483647) (hq0 : (k0 < mm)) (hq1 : (tk = ss k0)) (hq2 : (ss (mm - 1) = 0)) : Met l yX2_pass (cd_X2_pass :: wsL_law) ({ frames := 2, cells := 0, slots := 0, locals := 60 }) (tf_P g T [.ref a0, .int (Int32.ofInt x1)] (fun H => tf_s H a0 (g.1.2 2 3) = some (.ref t0) ∧ tf_s H t0 (g.1.2 4 2) = some (.int (Int32.ofInt mm)) ∧ tf_s H t0 (g.1.2 4 0) = some (.ref so) ∧ tf_s H t0 (g.1.2 4 1) = some (.ref po) ∧ tf_rw H so = ss ∧ tf_rw H po = pp ∧ tf_s H a0 (g.1.2 2 4) = some (.int (Int32.ofInt k0)) ∧ tf_s H a0 (g.1.2 2 5) = some (.int (Int32.ofInt tk)) ∧ tf_s H a0 (g.1.2 2 7) = some (.int (Int32.ofInt fp0)))) (tf_Qi g M_X2_pass T (fun z _ H => (z = 0 ∨ z = 1) ∧ (∃ (k1 t1 fp1 : Int) , tf_s H a0 (g.1.2 2 4) = some (.int (Int32.ofInt k1)) ∧ tf_s H a0 (g.1.2 2 5) = some (.int (Int32.ofInt t1)) ∧ tf_s H a0 (g.1.2 2 7) = some (.int (Int32.ofInt fp1)) ∧ (0 ≤ k1 ∧ k1 ≤ 400) ∧ ((-2147483648) ≤ t1 ∧ t1 ≤ 2147483647) ∧ ((-2147483648) ≤ fp1 ∧ fp1 ≤ 2147483647) ∧ (k1 < mm) ∧ (t1 = ss k1) ∧ ((z = 1 ∧ ss k0 = x1 ∧ k1 = tf_nx mm k0 ∧ (k1 = k0 + 1 ∨ ss k0 = 0) ∧ fp1 = fp0) ∨ (z = 0 ∧ ss k0 ≠ x1 ∧ k1 = k0 ∧ fp1 = pp k0))))) 0 0 (fun q => tf_B g ≤ q) := by
  refine Met.ofW (cc := cX2_pass) (maxL := 2) (ret := (some .boolean)) (by decide) rfl ?_
  intro p e s m args below meth c s₁ B hml hv
  obtain ⟨hargs, hk, hW0, hB, hpre⟩ := hv
  obtain ⟨he0, he1, he2, he3, he4, he5, he6, he7, he8⟩ := hpre
  have hx := B.exec
  have hb := B.bytes
  have hr := B.returns
  have hts : ∀ w ∈ wsL_law, w.before args s = true := fun w h => atoms_spec (ws := cd_X2_pass :: wsL_law) B.pre w (List.mem_cons_of_mem _ h)
  have hown : s.vm.findClass RX2 = some m.cls := findClass_of_methodNamed B.named
  have hlocks := B.notSynchronized
  have hK := hk.1
  have hW := tf_n.start (M := M_X2_pass) hW0 hB
  obtain ⟨Q, hQ⟩ : ∃ q, q = MQ below (tf_Qi g M_X2_pass T (fun z _ H => (z = 0 ∨ z = 1) ∧ (∃ (k1 t1 fp1 : Int) , tf_s H a0 (g.1.2 2 4) = some (.int (Int32.ofInt k1)) ∧ tf_s H a0 (g.1.2 2 5) = some (.int (Int32.ofInt t1)) ∧ tf_s H a0 (g.1.2 2 7) = some (.int (Int32.ofInt fp1)) ∧ (0 ≤ k1 ∧ k1 ≤ 400) ∧ ((-2147483648) ≤ t1 ∧ t1 ≤ 2147483647) ∧ ((-2147483648) ≤ fp1 ∧ fp1 ≤ 2147483647) ∧ (k1 < mm) ∧ (t1 = ss k1) ∧ ((z = 1 ∧ ss k0 = x1 ∧ k1 = tf_nx mm k0 ∧ (k1 = k0 + 1 ∨ ss k0 = 0) ∧ fp1 = fp0) ∨ (z = 0 ∧ ss k0 ≠ x1 ∧ k1 = k0 ∧ fp1 = pp k0))))) args s 0 0 (fun q => tf_B g ≤ q) := ⟨_, rfl⟩
  rw [← hQ]
  obtain ⟨R, hR⟩ : ∃ q, q = (headSpec (cd_X2_pass :: wsL_law) ({ frames := 2, cells := 0, slots := 0, locals := 60 })).room := ⟨_, rfl⟩
  rw [← hR]
  have hR1 : 2 ≤ R.frames := by rw [hR]; exact Nat.le_refl _
  have hR2 : 60 ≤ R.locals := by rw [hR]; exact Nat.le_refl _
  have hR3 : 0 ≤ R.cells := by rw [hR]; exact Nat.le_refl _
  have hR4 : 0 ≤ R.slots := by rw [hR]; exact Nat.le_refl _
  have hin := (name_of_methodNamed B.named B.method).1
  clear hR B
  refine tf_enter (As := [.ref a0, .int (Int32.ofInt x1)]) hargs (Nat.le_of_ble_eq_true rfl) (fun ls hl => ?_)
  have hl : lv_has ls 2 [(0, .ref a0), (1, .int (Int32.ofInt x1))] := hl
  refine lv_aload_n hx hb dX2_pass_0 rfl (lv_at hl 0 rfl) ?_
  refine tf_get hx hb hts inlX2 hown hK (ci := 2) rfl hW ha0 rfl 5 rfl (by decide) (hts _ fl_X2_32) dX2_pass_1 (fun v1 hv1 hsv1 => ?_)
  obtain rfl : v1 = .int (Int32.ofInt tk) := Option.some.inj (hsv1.symm.trans he7)
  refine lv_iload_n hx hb dX2_pass_4 rfl (lv_at hl 1 rfl) ?_
  refine tf_icmp_eq (tgt := 13) hx hb ⟨by omega, by omega⟩ ⟨by omega, by omega⟩ dX2_pass_5 (by decide) (fun h2 => ?_) (fun h2 => ?_)
  · refine lv_aload_n hx hb dX2_pass_13 rfl (lv_at hl 0 rfl) ?_
    refine tf_callv (va_runV (As := []) (rest := []) ⟨hx, hb, hml, hown, hts⟩ (c_X2_next l g T a0 ha0 t0 ht0 so hso (mm) ⟨by omega, by omega⟩ ss (k0) ⟨by omega, by omega⟩ (by first | assumption | omega) (by first | assumption | omega)) (cwV 0 hts gv_X2_73 rfl rfl rfl hd_X2_next ⟨Nat.le_trans (by decide) hR1, Nat.le_trans (by decide) hR2⟩) (tf_preV hk hW ha0 (ci := 2) rfl rfl ⟨he0, he1, he2, he4, he6⟩) rfl rfl hl.1 rfl (lv_room (Nat.le_of_ble_eq_true rfl)) dX2_pass_14 ⟨Nat.zero_le _, Nat.zero_le _⟩) hW (by decide) (fun H3 locs3 hW hF3 hp3 => ?_)
    have hs4 := tf_keepF hF3 ha0 rfl rfl (by decide) he0
    have hs5 := tf_keepF hF3 ht0 rfl rfl (by decide) he1
    have hs6 := tf_keepF hF3 ht0 rfl rfl (by decide) he2
    have hs7 := tf_keepF hF3 ht0 rfl rfl (by decide) he3
    have hs8 := tf_keepC hF3 hso rfl (by decide) he4
    have hs9 := tf_keepC hF3 hpo rfl (by decide) he5
    have hs10 := tf_keepF hF3 ha0 rfl rfl (by decide) he8
    obtain ⟨k1_3, t1_3, hX3_0, hX3_1, hB3_0, hB3_1, hR3_0, hR3_1, hR3_2, hR3_3⟩ := hp3
    refine tf_iconst hx hb dX2_pass_17 ?_
    exact tf_retz (z := 1) hx hb hr hlocks hQ hW (by omega) ⟨by omega, ⟨(k1_3), (t1_3), (fp0), hX3_0, hX3_1, hs10, ⟨by omega, by omega⟩, ⟨by omega, by omega⟩, ⟨by omega, by omega⟩, (by first | assumption | omega), (by first | assumption | omega), (by first | assumption | omega)⟩⟩ dX2_pass_18
  · refine lv_aload_n hx hb dX2_pass_8 rfl (lv_at hl 0 rfl) ?_
    refine tf_calli (va_runV (As := []) (rest := []) ⟨hx, hb, hml, hown, hts⟩ (c_X2_failHere l g T a0 ha0 t0 ht0 po hpo pp (k0) ⟨by omega, by omega⟩) (cwV 0 hts gv_X2_66 rfl rfl rfl hd_X2_failHere ⟨Nat.le_trans (by decide) hR1, Nat.le_trans (by decide) hR2⟩) (tf_preV hk hW ha0 (ci := 2) rfl rfl ⟨he0, he3, he5, he6⟩) rfl rfl hl.1 rfl (lv_room (Nat.le_of_ble_eq_true rfl)) dX2_pass_9 ⟨Nat.zero_le _, Nat.zero_le _⟩) hW (by decide) (fun z11 H11 locs11 hW hF11 hp11 => ?_)
    have hs12 := tf_keepF hF11 ha0 rfl rfl (by decide) he0
    have hs13 := tf_keepF hF11 ht0 rfl rfl (by decide) he1
    have hs14 := tf_keepF hF11 ht0 rfl rfl (by decide) he2
    have hs15 := tf_keepF hF11 ht0 rfl rfl (by decide) he3
    have hs16 := tf_keepC hF11 hso rfl (by decide) he4
    have hs17 := tf_keepC hF11 hpo rfl (by decide) he5
    have hs18 := tf_keepF hF11 ha0 rfl rfl (by decide) he6
    have hs19 := tf_keepF hF11 ha0 rfl rfl (by decide) he7
    obtain ⟨hp11_0, hp11_1⟩ := hp11
    obtain ⟨fp1_11, hX11_0, hB11_0, hR11_0, hR11_1⟩ := hp11_1
    exact tf_retz (z := z11) hx hb hr hlocks hQ hW (by omega) ⟨by omega, ⟨(k0), (tk), (fp1_11), hs18, hs19, hX11_0, ⟨by omega, by omega⟩, ⟨by omega, by omega⟩, ⟨by omega, by omega⟩, (by first | assumption | omega), (by first | assumption | omega), (by first | assumption | omega)⟩⟩ dX2_pass_12

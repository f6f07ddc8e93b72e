
abbrev M_X10_isWord : List (Nat × Nat) := []
set_option maxHeartbeats 4000000 in
set_option maxRecDepth 100000 in
theorem c_X10_isWord (l : Launch) (g : tf_G) (T : tf_T) (a0 : Nat) (ha0 : T a0 = some (50, 0)) (x1 : Int) (hp1 : (-9223372036854775808) ≤ x1 ∧ x1 ≤ 9223372036854775807) (gs : Int) (hgs : 0 ≤ gs ∧ gs ≤ 3) (gw : Int) (hgw : (-9223372036854775808) ≤ gw ∧ gw ≤ 9223372036854775807) : Met l yX10_isWord (cd_X10_isWord :: wsL_law) ({ frames := 1, cells := 0, slots := 0, locals := 24 }) (tf_P g T [.ref a0, .long (Int64.ofInt x1)] (fun H => tf_s H a0 (g.1.2 10 11) = some (.int (Int32.ofInt gs)) ∧ tf_s H a0 (g.1.2 10 12) = some (.long (Int64.ofInt gw)))) (tf_Qi g M_X10_isWord T (fun z _ _ => (z = 1 ∧ ((gs = 1 ∧ gw = x1))) ∨ (z = 0))) 0 0 (fun q => tf_B g ≤ q) := by
  refine Met.ofW (cc := cX10_isWord) (maxL := 3) (ret := (some .boolean)) (by decide) rfl ?_
  intro p e s m args below meth c s₁ B hml hv
  obtain ⟨hargs, hk, hW0, hB, hpre⟩ := hv
  obtain ⟨he0, he1⟩ := hpre
  have hx := B.exec
  have hb := B.bytes
  have hr := B.returns
  have hts : ∀ w ∈ wsL_law, w.before args s = true := fun w h => atoms_spec (ws := cd_X10_isWord :: wsL_law) B.pre w (List.mem_cons_of_mem _ h)
  have hown : s.vm.findClass RX10 = some m.cls := findClass_of_methodNamed B.named
  have hlocks := B.notSynchronized
  have hK := hk.1
  have hW := tf_n.start (M := M_X10_isWord) hW0 hB
  obtain ⟨Q, hQ⟩ : ∃ q, q = MQ below (tf_Qi g M_X10_isWord T (fun z _ _ => (z = 1 ∧ ((gs = 1 ∧ gw = x1))) ∨ (z = 0))) args s 0 0 (fun q => tf_B g ≤ q) := ⟨_, rfl⟩
  rw [← hQ]
  obtain ⟨R, hR⟩ : ∃ q, q = (headSpec (cd_X10_isWord :: wsL_law) ({ frames := 1, cells := 0, slots := 0, locals := 24 })).room := ⟨_, rfl⟩
  rw [← hR]
  have hR1 : 1 ≤ R.frames := by rw [hR]; exact Nat.le_refl _
  have hR2 : 24 ≤ R.locals := by rw [hR]; exact Nat.le_refl _
  have hR3 : 0 ≤ R.cells := by rw [hR]; exact Nat.le_refl _
  have hR4 : 0 ≤ R.slots := by rw [hR]; exact Nat.le_refl _
  have hin := (name_of_methodNamed B.named B.method).1
  clear hR B
  refine tf_enter (As := [.ref a0, .long (Int64.ofInt x1)]) hargs (Nat.le_of_ble_eq_true rfl) (fun ls hl => ?_)
  have hl : lv_has ls 3 [(0, .ref a0), (1, .long (Int64.ofInt x1))] := hl
  refine lv_aload_n hx hb dX10_isWord_0 rfl (lv_at hl 0 rfl) ?_
  refine tf_get hx hb hts inlX10 hown hK (ci := 10) rfl hW ha0 rfl 11 rfl (by decide) (hts _ fl_X10_220) dX10_isWord_1 (fun v1 hv1 hsv1 => ?_)
  obtain rfl : v1 = .int (Int32.ofInt gs) := Option.some.inj (hsv1.symm.trans he0)
  refine tf_iconst hx hb dX10_isWord_4 ?_
  refine tf_icmp_ne (tgt := 21) hx hb ⟨by omega, by omega⟩ ⟨by decide, by decide⟩ dX10_isWord_5 (by decide) (fun h2 => ?_) (fun h2 => ?_)
  · refine tf_iconst hx hb dX10_isWord_21 ?_
    exact tf_retz (z := 0) hx hb hr hlocks hQ hW (by omega) (show ((0) = 1 ∧ ((gs = 1 ∧ gw = x1))) ∨ ((0) = 0) by omega) dX10_isWord_22
  · refine lv_aload_n hx hb dX10_isWord_8 rfl (lv_at hl 0 rfl) ?_
    refine tf_get hx hb hts inlX10 hown hK (ci := 10) rfl hW ha0 rfl 12 rfl (by decide) (hts _ fl_X10_210) dX10_isWord_9 (fun v3 hv3 hsv3 => ?_)
    obtain rfl : v3 = .long (Int64.ofInt gw) := Option.some.inj (hsv3.symm.trans he1)
    refine lv_lload_n hx hb dX10_isWord_12 rfl (lv_at hl 1 rfl) ?_
    refine tf_lcmp hx hb ⟨by omega, by omega⟩ ⟨by omega, by omega⟩ dX10_isWord_13 (fun z4 hz4 => ?_)
    refine tf_if_ne (tgt := 21) hx hb ⟨by omega, by omega⟩ dX10_isWord_14 (by decide) (fun h5 => ?_) (fun h5 => ?_)
    · refine tf_iconst hx hb dX10_isWord_21 ?_
      exact tf_retz (z := 0) hx hb hr hlocks hQ hW (by omega) (show ((0) = 1 ∧ ((gs = 1 ∧ gw = x1))) ∨ ((0) = 0) by omega) dX10_isWord_22
    · refine tf_iconst hx hb dX10_isWord_17 ?_
      refine lv_goto (tgt := 22) hx hb dX10_isWord_18 (by decide) ?_
      exact tf_retz (z := 1) hx hb hr hlocks hQ hW (by omega) (show ((1) = 1 ∧ ((gs = 1 ∧ gw = x1))) ∨ ((1) = 0) by omega) dX10_isWord_22

abbrev M_X10_isSign : List (Nat × Nat) := []
set_option maxHeartbeats 4000000 in
set_option maxRecDepth 100000 in
theorem c_X10_isSign (l : Launch) (g : tf_G) (T : tf_T) (a0 : Nat) (ha0 : T a0 = some (50, 0)) (x1 : Int) (hp1 : (-2147483648) ≤ x1 ∧ x1 ≤ 2147483647) (gs : Int) (hgs : 0 ≤ gs ∧ gs ≤ 3) (gw : Int) (hgw : (-9223372036854775808) ≤ gw ∧ gw ≤ 9223372036854775807) : Met l yX10_isSign (cd_X10_isSign :: wsL_law) ({ frames := 1, cells := 0, slots := 0, locals := 24 }) (tf_P g T [.ref a0, .int (Int32.ofInt x1)] (fun H => tf_s H a0 (g.1.2 10 11) = some (.int (Int32.ofInt gs)) ∧ tf_s H a0 (g.1.2 10 12) = some (.long (Int64.ofInt gw)))) (tf_Qi g M_X10_isSign T (fun z _ _ => (z = 1 ∧ (gs = 3)) ∨ (z = 0))) 0 0 (fun q => tf_B g ≤ q) := by
  refine Met.ofW (cc := cX10_isSign) (maxL := 2) (ret := (some .boolean)) (by decide) rfl ?_
  intro p e s m args below meth c s₁ B hml hv
  obtain ⟨hargs, hk, hW0, hB, hpre⟩ := hv
  obtain ⟨he0, he1⟩ := hpre
  have hx := B.exec
  have hb := B.bytes
  have hr := B.returns
  have hts : ∀ w ∈ wsL_law, w.before args s = true := fun w h => atoms_spec (ws := cd_X10_isSign :: wsL_law) B.pre w (List.mem_cons_of_mem _ h)
  have hown : s.vm.findClass RX10 = some m.cls := findClass_of_methodNamed B.named
  have hlocks := B.notSynchronized
  have hK := hk.1
  have hW := tf_n.start (M := M_X10_isSign) hW0 hB
  obtain ⟨Q, hQ⟩ : ∃ q, q = MQ below (tf_Qi g M_X10_isSign T (fun z _ _ => (z = 1 ∧ (gs = 3)) ∨ (z = 0))) args s 0 0 (fun q => tf_B g ≤ q) := ⟨_, rfl⟩
  rw [← hQ]
  obtain ⟨R, hR⟩ : ∃ q, q = (headSpec (cd_X10_isSign :: wsL_law) ({ frames := 1, cells := 0, slots := 0, locals := 24 })).room := ⟨_, rfl⟩
  rw [← hR]
  have hR1 : 1 ≤ R.frames := by rw [hR]; exact Nat.le_refl _
  have hR2 : 24 ≤ R.locals := by rw [hR]; exact Nat.le_refl _
  have hR3 : 0 ≤ R.cells := by rw [hR]; exact Nat.le_refl _
  have hR4 : 0 ≤ R.slots := by rw [hR]; exact Nat.le_refl _
  have hin := (name_of_methodNamed B.named B.method).1
  clear hR B
  refine tf_enter (As := [.ref a0, .int (Int32.ofInt x1)]) hargs (Nat.le_of_ble_eq_true rfl) (fun ls hl => ?_)
  have hl : lv_has ls 2 [(0, .ref a0), (1, .int (Int32.ofInt x1))] := hl
  refine lv_aload_n hx hb dX10_isSign_0 rfl (lv_at hl 0 rfl) ?_
  refine tf_get hx hb hts inlX10 hown hK (ci := 10) rfl hW ha0 rfl 11 rfl (by decide) (hts _ fl_X10_220) dX10_isSign_1 (fun v1 hv1 hsv1 => ?_)
  obtain rfl : v1 = .int (Int32.ofInt gs) := Option.some.inj (hsv1.symm.trans he0)
  refine tf_iconst hx hb dX10_isSign_4 ?_
  refine tf_icmp_ne (tgt := 22) hx hb ⟨by omega, by omega⟩ ⟨by decide, by decide⟩ dX10_isSign_5 (by decide) (fun h2 => ?_) (fun h2 => ?_)
  · refine tf_iconst hx hb dX10_isSign_22 ?_
    exact tf_retz (z := 0) hx hb hr hlocks hQ hW (by omega) (show ((0) = 1 ∧ (gs = 3)) ∨ ((0) = 0) by omega) dX10_isSign_23
  · refine lv_aload_n hx hb dX10_isSign_8 rfl (lv_at hl 0 rfl) ?_
    refine tf_get hx hb hts inlX10 hown hK (ci := 10) rfl hW ha0 rfl 12 rfl (by decide) (hts _ fl_X10_210) dX10_isSign_9 (fun v3 hv3 hsv3 => ?_)
    obtain rfl : v3 = .long (Int64.ofInt gw) := Option.some.inj (hsv3.symm.trans he1)
    refine lv_iload_n hx hb dX10_isSign_12 rfl (lv_at hl 1 rfl) ?_
    refine tf_i2l hx hb ⟨by omega, by omega⟩ dX10_isSign_13 ?_
    refine tf_lcmp hx hb ⟨by omega, by omega⟩ ⟨by omega, by omega⟩ dX10_isSign_14 (fun z4 hz4 => ?_)
    refine tf_if_ne (tgt := 22) hx hb ⟨by omega, by omega⟩ dX10_isSign_15 (by decide) (fun h5 => ?_) (fun h5 => ?_)
    · refine tf_iconst hx hb dX10_isSign_22 ?_
      exact tf_retz (z := 0) hx hb hr hlocks hQ hW (by omega) (show ((0) = 1 ∧ (gs = 3)) ∨ ((0) = 0) by omega) dX10_isSign_23
    · refine tf_iconst hx hb dX10_isSign_18 ?_
      refine lv_goto (tgt := 23) hx hb dX10_isSign_19 (by decide) ?_
      exact tf_retz (z := 1) hx hb hr hlocks hQ hW (by omega) (show ((1) = 1 ∧ (gs = 3)) ∨ ((1) = 0) by omega) dX10_isSign_23

abbrev M_X10_partAt : List (Nat × Nat) := []
set_option maxHeartbeats 4000000 in
set_option maxRecDepth 100000 in
theorem c_X10_partAt (l : Launch) (g : tf_G) (T : tf_T) (a0 : Nat) (ha0 : T a0 = some (50, 0)) (gs : Int) (hgs : 0 ≤ gs ∧ gs ≤ 3) (gw : Int) (hgw : (-9223372036854775808) ≤ gw ∧ gw ≤ 9223372036854775807) : Met l yX10_partAt (cd_X10_partAt :: wsL_law) ({ frames := 2, cells := 0, slots := 0, locals := 46 }) (tf_P g T [.ref a0] (fun H => tf_s H a0 (g.1.2 10 11) = some (.int (Int32.ofInt gs)) ∧ tf_s H a0 (g.1.2 10 12) = some (.long (Int64.ofInt gw)))) (tf_Qi g M_X10_partAt T (fun z _ _ => (-1) ≤ z ∧ z ≤ 9 ∧ (z = -1 ∨ gs = 1))) 0 0 (fun q => tf_B g ≤ q) := by
  refine Met.ofW (cc := cX10_partAt) (maxL := 3) (ret := (some .int)) (by decide) rfl ?_
  intro p e s m args below meth c s₁ B hml hv
  obtain ⟨hargs, hk, hW0, hB, hpre⟩ := hv
  obtain ⟨he0, he1⟩ := hpre
  have hx := B.exec
  have hb := B.bytes
  have hr := B.returns
  have hts : ∀ w ∈ wsL_law, w.before args s = true := fun w h => atoms_spec (ws := cd_X10_partAt :: wsL_law) B.pre w (List.mem_cons_of_mem _ h)
  have hown : s.vm.findClass RX10 = some m.cls := findClass_of_methodNamed B.named
  have hlocks := B.notSynchronized
  have hK := hk.1
  have hW := tf_n.start (M := M_X10_partAt) hW0 hB
  obtain ⟨Q, hQ⟩ : ∃ q, q = MQ below (tf_Qi g M_X10_partAt T (fun z _ _ => (-1) ≤ z ∧ z ≤ 9 ∧ (z = -1 ∨ gs = 1))) args s 0 0 (fun q => tf_B g ≤ q) := ⟨_, rfl⟩
  rw [← hQ]
  obtain ⟨R, hR⟩ : ∃ q, q = (headSpec (cd_X10_partAt :: wsL_law) ({ frames := 2, cells := 0, slots := 0, locals := 46 })).room := ⟨_, rfl⟩
  rw [← hR]
  have hR1 : 2 ≤ R.frames := by rw [hR]; exact Nat.le_refl _
  have hR2 : 46 ≤ R.locals := by rw [hR]; exact Nat.le_refl _
  have hR3 : 0 ≤ R.cells := by rw [hR]; exact Nat.le_refl _
  have hR4 : 0 ≤ R.slots := by rw [hR]; exact Nat.le_refl _
  have hin := (name_of_methodNamed B.named B.method).1
  clear hR B
  have j_4 : ∀ (n_4 : Nat), ∀ (x1_4 : Int), (-1) ≤ x1_4 ∧ x1_4 ≤ 9 → ∀ (x2_4 : Int), 0 ≤ x2_4 ∧ x2_4 ≤ 9 → (x1_4 = -1 ∨ gs = 1) → (9 - x2_4 + 1 ≤ (n_4 : Int)) → ∀ (H : Heap) (locs : List Loc), tf_n tf_kt g M_X10_partAt T s.heap T H locs → tf_s H a0 (g.1.2 10 11) = some (.int (Int32.ofInt gs)) → tf_s H a0 (g.1.2 10 12) = some (.long (Int64.ofInt gw)) → ∀ (ls : Array Slot), lv_has ls 3 [(0, .ref a0), (1, .int (Int32.ofInt x1_4)), (2, .int (Int32.ofInt x2_4))] → W p l e R s m args below meth c H locs 0 0 Q (F0 m 4 ls []) := by
    intro n_4
    induction n_4 with
    | zero =>
      intro x1_4 hx1_4 x2_4 hx2_4 hi0_4 hm_4
      exfalso; omega
    | succ n_4 ih_4 =>
      intro x1_4 hx1_4 x2_4 hx2_4 hi0_4 hm_4 H locs hW hs11_4 hs12_4 ls hl
      have j_30 : 0 ≤ x2_4 ∧ x2_4 ≤ 8 → ∀ (y0_30 : Int), (-1) ≤ y0_30 ∧ y0_30 ≤ 9 → (y0_30 = -1 ∨ gs = 1) → ∀ (H : Heap) (locs : List Loc), tf_n tf_kt g M_X10_partAt T s.heap T H locs → tf_s H a0 (g.1.2 10 11) = some (.int (Int32.ofInt gs)) → tf_s H a0 (g.1.2 10 12) = some (.long (Int64.ofInt gw)) → ∀ (ls : Array Slot), lv_has ls 3 [(0, .ref a0), (2, .int (Int32.ofInt x2_4))] → W p l e R s m args below meth c H locs 0 0 Q (F0 m 30 ls [.int (Int32.ofInt y0_30)]) := by
        intro hx2_30 y0_30 hy0_30 hi0_30 H locs hW hs11_30 hs12_30 ls hl
        refine lv_istore_n (lv' := [(1, .int (Int32.ofInt y0_30)), (0, .ref a0), (2, .int (Int32.ofInt x2_4))]) hx hb dX10_partAt_30 rfl hl (by decide) rfl (fun ls hl => ?_)
        refine lv_iinc (v := Int32.ofInt ((x2_4 + 1))) (lv' := [(2, .int (Int32.ofInt ((x2_4 + 1)))), (1, .int (Int32.ofInt y0_30)), (0, .ref a0)]) hx hb dX10_partAt_31 hl (k := 2) rfl (Int32.ofInt_add _ _).symm (by decide) rfl (fun ls hl => ?_)
        refine lv_goto (tgt := 4) hx hb dX10_partAt_34 (by decide) ?_
        exact ih_4 (y0_30) ⟨by omega, by omega⟩ ((x2_4 + 1)) ⟨by omega, by omega⟩ (by omega) (by omega) _ _ hW hs11_30 hs12_30 _ (lv_sub hl [2, 1, 0] rfl)
      refine lv_iload_n hx hb dX10_partAt_4 rfl (lv_at hl 2 rfl) ?_
      refine tf_bipush hx hb dX10_partAt_5 (by decide) ?_
      refine tf_icmp_ge (tgt := 37) hx hb ⟨by omega, by omega⟩ ⟨by decide, by decide⟩ dX10_partAt_7 (by decide) (fun h1 => ?_) (fun h1 => ?_)
      · refine lv_iload_n hx hb dX10_partAt_37 rfl (lv_at hl 1 rfl) ?_
        exact tf_reti (z := x1_4) hx hb hr hlocks hQ hW (show (-1) ≤ (x1_4) ∧ (x1_4) ≤ 9 ∧ ((x1_4) = -1 ∨ gs = 1) by omega) dX10_partAt_38
      · refine lv_aload_n hx hb dX10_partAt_10 rfl (lv_at hl 0 rfl) ?_
        refine lv_aload_n hx hb dX10_partAt_11 rfl (lv_at hl 0 rfl) ?_
        refine tf_get hx hb hts inlX10 hown hK (ci := 10) rfl hW ha0 rfl 25 rfl (by decide) (hts _ fl_X10_63) dX10_partAt_12 (fun v2 hv2 hsv2 => ?_)
        obtain ⟨ad3, rfl, had3⟩ := tf_v1 hv2
        refine lv_iload_n hx hb dX10_partAt_15 rfl (lv_at hl 2 rfl) ?_
        refine tf_lald (t0 := 1) hx hb hK hW had3 rfl rfl (by omega) (by omega) dX10_partAt_16 (fun v4 hv4 hsv4 => ?_)
        obtain ⟨z5, rfl, hz5⟩ := tf_v5 hv4
        refine tf_calli (va_runV (As := [.long (Int64.ofInt z5)]) (rest := []) ⟨hx, hb, hml, hown, hts⟩ (c_X10_isWord l g T a0 ha0 (z5) ⟨by omega, by omega⟩ (gs) ⟨by omega, by omega⟩ (gw) ⟨by omega, by omega⟩) (cwV 1 hts gv_X10_258 rfl rfl rfl hd_X10_isWord ⟨Nat.le_trans (by decide) hR1, Nat.le_trans (by decide) hR2⟩) (tf_preV hk hW ha0 (ci := 10) rfl rfl ⟨hs11_4, hs12_4⟩) rfl rfl hl.1 rfl (lv_room (Nat.le_of_ble_eq_true rfl)) dX10_partAt_17 ⟨Nat.zero_le _, Nat.zero_le _⟩) hW (by decide) (fun z6 H6 locs6 hW hF6 hp6 => ?_)
        have hs7 := tf_keepF hF6 ha0 rfl rfl (by decide) hs11_4
        have hs8 := tf_keepF hF6 ha0 rfl rfl (by decide) hs12_4
        rcases hp6 with ⟨rfl, h9⟩ | ⟨rfl⟩
        · refine tf_if_eq (tgt := 29) hx hb ⟨by decide, by decide⟩ dX10_partAt_20 (by decide) (fun h10 => ?_) (fun h10 => ?_)
          · exfalso; omega
          · refine lv_iload_n hx hb dX10_partAt_23 rfl (lv_at hl 2 rfl) ?_
            refine tf_iconst hx hb dX10_partAt_24 ?_
            refine tf_iadd hx hb dX10_partAt_25 ?_
            refine lv_goto (tgt := 30) hx hb dX10_partAt_26 (by decide) ?_
            exact j_30 ⟨by omega, by omega⟩ ((x2_4 + 1)) ⟨by omega, by omega⟩ (by omega) _ _ hW hs7 hs8 _ (lv_sub hl [0, 2] rfl)
        · refine tf_if_eq (tgt := 29) hx hb ⟨by decide, by decide⟩ dX10_partAt_20 (by decide) (fun h11 => ?_) (fun h11 => ?_)
          · refine lv_iload_n hx hb dX10_partAt_29 rfl (lv_at hl 1 rfl) ?_
            exact j_30 ⟨by omega, by omega⟩ (x1_4) ⟨by omega, by omega⟩ (by omega) _ _ hW hs7 hs8 _ (lv_sub hl [0, 2] rfl)
          · exfalso; omega
  refine tf_enter (As := [.ref a0]) hargs (Nat.le_of_ble_eq_true rfl) (fun ls hl => ?_)
  have hl : lv_has ls 3 [(0, .ref a0)] := hl
  refine tf_iconst hx hb dX10_partAt_0 ?_
  refine lv_istore_n (lv' := [(1, .int (Int32.ofInt ((-1)))), (0, .ref a0)]) hx hb dX10_partAt_1 rfl hl (by decide) rfl (fun ls hl => ?_)
  refine tf_iconst hx hb dX10_partAt_2 ?_
  refine lv_istore_n (lv' := [(2, .int (Int32.ofInt 0)), (1, .int (Int32.ofInt ((-1)))), (0, .ref a0)]) hx hb dX10_partAt_3 rfl hl (by decide) rfl (fun ls hl => ?_)
  exact j_4 ((9 - 0 + 1 : Int)).toNat ((-1)) ⟨by omega, by omega⟩ (0) ⟨by omega, by omega⟩ (by omega) (by omega) _ _ hW he0 he1 _ (lv_sub hl [2, 1, 0] rfl)

abbrev M_X10_next : List (Nat × Nat) := [(50, 9), (50, 10), (50, 11), (50, 12)]
set_option maxHeartbeats 4000000 in
set_option maxRecDepth 100000 in
theorem c_X10_next (l : Launch) (g : tf_G) (T : tf_T) (a0 : Nat) (ha0 : T a0 = some (50, 0)) (gn : Int) (hgn : 0 ≤ gn ∧ gn ≤ 400) (gt : Int) (hgt : 0 ≤ gt ∧ gt ≤ 400) (hq0 : (gt ≤ gn)) : Met l yX10_next (cd_X10_next :: wsL_law) ({ frames := 2, cells := 0, slots := 0, locals := 44 }) (tf_P g T [.ref a0] (fun H => tf_s H a0 (g.1.2 10 8) = some (.int (Int32.ofInt gn)) ∧ tf_s H a0 (g.1.2 10 10) = some (.int (Int32.ofInt gt)))) (tf_Qv g M_X10_next T (fun _ H => (∃ (gf1 gt1 gs1 gw1 : Int) , tf_s H a0 (g.1.2 10 9) = some (.int (Int32.ofInt gf1)) ∧ tf_s H a0 (g.1.2 10 10) = some (.int (Int32.ofInt gt1)) ∧ tf_s H a0 (g.1.2 10 11) = some (.int (Int32.ofInt gs1)) ∧ tf_s H a0 (g.1.2 10 12) = some (.long (Int64.ofInt gw1)) ∧ (0 ≤ gf1 ∧ gf1 ≤ 400) ∧ (0 ≤ gt1 ∧ gt1 ≤ 400) ∧ (0 ≤ gs1 ∧ gs1 ≤ 3) ∧ ((-9223372036854775808) ≤ gw1 ∧ gw1 ≤ 9223372036854775807) ∧ (gt ≤ gf1) ∧ (gf1 ≤ gt1 ∧ gt1 ≤ gn ∧ (gs1 = 0 → gf1 = gn) ∧ (gs1 ≠ 0 → gf1 < gt1) ∧ (gs1 = 1 → 26 < gw1 → gf1 + 2 ≤ gt1))))) 0 0 (fun q => tf_B g ≤ q) := by
  refine Met.ofW (cc := cX10_next) (maxL := 1) (ret := none) (by decide) rfl ?_
  intro p e s m args below meth c s₁ B hml hv
  obtain ⟨hargs, hk, hW0, hB, hpre⟩ := hv
  obtain ⟨he0, he1⟩ := hpre
  have hx := B.exec
  have hb := B.bytes
  have hr := B.returns
  have hts : ∀ w ∈ wsL_law, w.before args s = true := fun w h => atoms_spec (ws := cd_X10_next :: wsL_law) B.pre w (List.mem_cons_of_mem _ h)
  have hown : s.vm.findClass RX10 = some m.cls := findClass_of_methodNamed B.named
  have hlocks := B.notSynchronized
  have hK := hk.1
  have hW := tf_n.start (M := M_X10_next) hW0 hB
  obtain ⟨Q, hQ⟩ : ∃ q, q = MQ below (tf_Qv g M_X10_next T (fun _ H => (∃ (gf1 gt1 gs1 gw1 : Int) , tf_s H a0 (g.1.2 10 9) = some (.int (Int32.ofInt gf1)) ∧ tf_s H a0 (g.1.2 10 10) = some (.int (Int32.ofInt gt1)) ∧ tf_s H a0 (g.1.2 10 11) = some (.int (Int32.ofInt gs1)) ∧ tf_s H a0 (g.1.2 10 12) = some (.long (Int64.ofInt gw1)) ∧ (0 ≤ gf1 ∧ gf1 ≤ 400) ∧ (0 ≤ gt1 ∧ gt1 ≤ 400) ∧ (0 ≤ gs1 ∧ gs1 ≤ 3) ∧ ((-9223372036854775808) ≤ gw1 ∧ gw1 ≤ 9223372036854775807) ∧ (gt ≤ gf1) ∧ (gf1 ≤ gt1 ∧ gt1 ≤ gn ∧ (gs1 = 0 → gf1 = gn) ∧ (gs1 ≠ 0 → gf1 < gt1) ∧ (gs1 = 1 → 26 < gw1 → gf1 + 2 ≤ gt1))))) args s 0 0 (fun q => tf_B g ≤ q) := ⟨_, rfl⟩
  rw [← hQ]
  obtain ⟨R, hR⟩ : ∃ q, q = (headSpec (cd_X10_next :: wsL_law) ({ frames := 2, cells := 0, slots := 0, locals := 44 })).room := ⟨_, rfl⟩
  rw [← hR]
  have hR1 : 2 ≤ R.frames := by rw [hR]; exact Nat.le_refl _
  have hR2 : 44 ≤ R.locals := by rw [hR]; exact Nat.le_refl _
  have hR3 : 0 ≤ R.cells := by rw [hR]; exact Nat.le_refl _
  have hR4 : 0 ≤ R.slots := by rw [hR]; exact Nat.le_refl _
  have hin := (name_of_methodNamed B.named B.method).1
  clear hR B
  obtain ⟨vtp, hftp, hoktp⟩ := tf_peek hW ha0 (ci := 10) rfl 7 rfl
  obtain ⟨tp, rfl, htp⟩ := tf_v1 hoktp
  obtain ⟨rt, hrt⟩ := tf_rname hW tp
  have j_243 : ∀ (n_243 : Nat), ∀ (f9_243 : Int), 0 ≤ f9_243 ∧ f9_243 ≤ 400 → ∀ (f10_243 : Int), 0 ≤ f10_243 ∧ f10_243 ≤ 400 → ∀ (f12_243 : Int), (-9223372036854775808) ≤ f12_243 ∧ f12_243 ≤ 9223372036854775807 → ∀ (f11_243 : Int), 0 ≤ f11_243 ∧ f11_243 ≤ 3 → (gt ≤ f9_243) → (f9_243 ≤ f10_243) → (f10_243 ≤ gn) → (f11_243 = 0 → f9_243 = gn) → (f11_243 ≠ 0 → f9_243 < gn) → (f11_243 = 1 → f9_243 < f10_243 ∧ (26 < f12_243 → f9_243 + 2 ≤ f10_243)) → (f11_243 = 3 → f9_243 < f10_243) → (f11_243 = 2 → 48 ≤ rt f9_243 ∧ rt f9_243 ≤ 57) → (gn - f10_243 + 1 ≤ (n_243 : Int)) → ∀ (H : Heap) (locs : List Loc), tf_n tf_kt g M_X10_next T s.heap T H locs → tf_s H a0 (g.1.2 10 8) = some (.int (Int32.ofInt gn)) → tf_s H a0 (g.1.2 10 7) = some (.ref tp) → tf_rw H tp = rt → tf_s H a0 (g.1.2 10 9) = some (.int (Int32.ofInt f9_243)) → tf_s H a0 (g.1.2 10 10) = some (.int (Int32.ofInt f10_243)) → tf_s H a0 (g.1.2 10 12) = some (.long (Int64.ofInt f12_243)) → tf_s H a0 (g.1.2 10 11) = some (.int (Int32.ofInt f11_243)) → ∀ (ls : Array Slot), lv_has ls 1 [(0, .ref a0)] → W p l e R s m args below meth c H locs 0 0 Q (F0 m 243 ls []) := by
    intro n_243
    induction n_243 with
    | zero =>
      intro f9_243 hf9_243 f10_243 hf10_243 f12_243 hf12_243 f11_243 hf11_243 hi0_243 hi1_243 hi2_243 hi3_243 hi4_243 hi5_243 hi6_243 hi7_243 hm_243
      exfalso; omega
    | succ n_243 ih_243 =>
      intro f9_243 hf9_243 f10_243 hf10_243 f12_243 hf12_243 f11_243 hf11_243 hi0_243 hi1_243 hi2_243 hi3_243 hi4_243 hi5_243 hi6_243 hi7_243 hm_243 H locs hW hs8_243 hs7_243 hcTPM_243 hs9_243 hs10_243 hs12_243 hs11_243 ls hl
      have j_319 : ∀ (y1_319 : Int), (-9223372036854775808) ≤ y1_319 ∧ y1_319 ≤ 9223372036854775807 → ∀ (f9_319 : Int), 0 ≤ f9_319 ∧ f9_319 ≤ 400 → ∀ (f10_319 : Int), 0 ≤ f10_319 ∧ f10_319 ≤ 399 → ∀ (f11_319 : Int), 2 ≤ f11_319 ∧ f11_319 ≤ 2 → (gt ≤ f9_319) → (f9_319 = f9_243) → (f10_319 = f10_243) → (f10_319 < gn) → (f11_319 = 2) → (f9_319 ≤ f10_319) → (48 ≤ rt f9_319 ∧ rt f9_319 ≤ 57) → ∀ (H : Heap) (locs : List Loc), tf_n tf_kt g M_X10_next T s.heap T H locs → tf_s H a0 (g.1.2 10 8) = some (.int (Int32.ofInt gn)) → tf_s H a0 (g.1.2 10 7) = some (.ref tp) → tf_rw H tp = rt → tf_s H a0 (g.1.2 10 9) = some (.int (Int32.ofInt f9_319)) → tf_s H a0 (g.1.2 10 10) = some (.int (Int32.ofInt f10_319)) → tf_s H a0 (g.1.2 10 11) = some (.int (Int32.ofInt f11_319)) → ∀ (ls : Array Slot), lv_has ls 1 [(0, .ref a0)] → W p l e R s m args below meth c H locs 0 0 Q (F0 m 319 ls [.long (Int64.ofInt y1_319), .ref a0]) := by
        intro y1_319 hy1_319 f9_319 hf9_319 f10_319 hf10_319 f11_319 hf11_319 hi0_319 hi1_319 hi2_319 hi3_319 hi4_319 hi5_319 hi6_319 H locs hW hs8_319 hs7_319 hcTPM_319 hs9_319 hs10_319 hs11_319 ls hl
        refine tf_put hx hb hts inlX10 tyX10 tyX10_ok nmX10 hown hK (ci := 10) rfl hW ha0 rfl rfl 12 rfl (by decide) (by decide) (hts _ fl_X10_210) rfl (tf_u5 (by omega) (by omega)) rfl rfl dX10_next_319 (fun H1 locs1 hW hs1 ht1 hq1 => ?_)
        have hs2 := (ht1 8 (by decide) (by decide)).trans hs8_319
        have hs3 := (ht1 7 (by decide) (by decide)).trans hs7_319
        have hs4 := tf_keepCQ hcTPM_319 (hq1 _ (tf_ne htp ha0 (by decide)))
        have hs5 := (ht1 9 (by decide) (by decide)).trans hs9_319
        have hs6 := (ht1 10 (by decide) (by decide)).trans hs10_319
        have hs7 := (ht1 11 (by decide) (by decide)).trans hs11_319
        refine lv_aload_n hx hb dX10_next_322 rfl (lv_at hl 0 rfl) ?_
        refine lv_dup hx hb dX10_next_323 rfl ?_
        refine tf_get hx hb hts inlX10 hown hK (ci := 10) rfl hW ha0 rfl 10 rfl (by decide) (hts _ fl_X10_197) dX10_next_324 (fun v8 hv8 hsv8 => ?_)
        obtain rfl : v8 = .int (Int32.ofInt f10_319) := Option.some.inj (hsv8.symm.trans hs6)
        refine tf_iconst hx hb dX10_next_327 ?_
        refine tf_iadd hx hb dX10_next_328 ?_
        refine tf_put hx hb hts inlX10 tyX10 tyX10_ok nmX10 hown hK (ci := 10) rfl hW ha0 rfl rfl 10 rfl (by decide) (by decide) (hts _ fl_X10_197) rfl (tf_u0 (by omega) (by omega)) rfl rfl dX10_next_329 (fun H9 locs9 hW hs9 ht9 hq9 => ?_)
        have hs10 := (ht9 8 (by decide) (by decide)).trans hs2
        have hs11 := (ht9 7 (by decide) (by decide)).trans hs3
        have hs12 := tf_keepCQ hs4 (hq9 _ (tf_ne htp ha0 (by decide)))
        have hs13 := (ht9 9 (by decide) (by decide)).trans hs5
        have hs14 := (ht9 11 (by decide) (by decide)).trans hs7
        have hs15 := (ht9 12 (by decide) (by decide)).trans hs1
        refine lv_goto (tgt := 243) hx hb dX10_next_332 (by decide) ?_
        exact ih_243 (f9_319) ⟨by omega, by omega⟩ ((f10_319 + 1)) ⟨by omega, by omega⟩ (y1_319) ⟨by omega, by omega⟩ (f11_319) ⟨by omega, by omega⟩ (by first | omega | assumption) (by first | omega | assumption) (by first | omega | assumption) (by first | omega | assumption) (by first | omega | assumption) (by first | omega | assumption) (by first | omega | assumption) (by first | omega | assumption) (by omega) _ _ hW hs10 hs11 hs12 hs13 hs9 hs15 hs14 _ (lv_sub hl [0] rfl)
      refine lv_aload_n hx hb dX10_next_243 rfl (lv_at hl 0 rfl) ?_
      refine tf_get hx hb hts inlX10 hown hK (ci := 10) rfl hW ha0 rfl 11 rfl (by decide) (hts _ fl_X10_220) dX10_next_244 (fun v16 hv16 hsv16 => ?_)
      obtain rfl : v16 = .int (Int32.ofInt f11_243) := Option.some.inj (hsv16.symm.trans hs11_243)
      refine tf_iconst hx hb dX10_next_247 ?_
      refine tf_icmp_ne (tgt := 335) hx hb ⟨by omega, by omega⟩ ⟨by decide, by decide⟩ dX10_next_248 (by decide) (fun h17 => ?_) (fun h17 => ?_)
      · exact tf_retv hx hb hr hlocks hQ hW ⟨(f9_243), (f10_243), (f11_243), (f12_243), hs9_243, hs10_243, hs11_243, hs12_243, ⟨by omega, by omega⟩, ⟨by omega, by omega⟩, ⟨by omega, by omega⟩, ⟨by omega, by omega⟩, (by first | omega | assumption), (by first | omega | assumption)⟩ dX10_next_335
      · refine lv_aload_n hx hb dX10_next_251 rfl (lv_at hl 0 rfl) ?_
        refine tf_get hx hb hts inlX10 hown hK (ci := 10) rfl hW ha0 rfl 10 rfl (by decide) (hts _ fl_X10_197) dX10_next_252 (fun v18 hv18 hsv18 => ?_)
        obtain rfl : v18 = .int (Int32.ofInt f10_243) := Option.some.inj (hsv18.symm.trans hs10_243)
        refine lv_aload_n hx hb dX10_next_255 rfl (lv_at hl 0 rfl) ?_
        refine tf_get hx hb hts inlX10 hown hK (ci := 10) rfl hW ha0 rfl 8 rfl (by decide) (hts _ fl_X10_183) dX10_next_256 (fun v19 hv19 hsv19 => ?_)
        obtain rfl : v19 = .int (Int32.ofInt gn) := Option.some.inj (hsv19.symm.trans hs8_243)
        refine tf_icmp_ge (tgt := 335) hx hb ⟨by omega, by omega⟩ ⟨by omega, by omega⟩ dX10_next_259 (by decide) (fun h20 => ?_) (fun h20 => ?_)
        · exact tf_retv hx hb hr hlocks hQ hW ⟨(f9_243), (f10_243), (f11_243), (f12_243), hs9_243, hs10_243, hs11_243, hs12_243, ⟨by omega, by omega⟩, ⟨by omega, by omega⟩, ⟨by omega, by omega⟩, ⟨by omega, by omega⟩, (by first | omega | assumption), (by first | omega | assumption)⟩ dX10_next_335
        · refine lv_aload_n hx hb dX10_next_262 rfl (lv_at hl 0 rfl) ?_
          refine tf_get hx hb hts inlX10 hown hK (ci := 10) rfl hW ha0 rfl 7 rfl (by decide) (hts _ fl_X10_23) dX10_next_263 (fun v21 hv21 hsv21 => ?_)
          obtain rfl : v21 = .ref tp := Option.some.inj (hsv21.symm.trans hs7_243)
          refine lv_aload_n hx hb dX10_next_266 rfl (lv_at hl 0 rfl) ?_
          refine tf_get hx hb hts inlX10 hown hK (ci := 10) rfl hW ha0 rfl 10 rfl (by decide) (hts _ fl_X10_197) dX10_next_267 (fun v22 hv22 hsv22 => ?_)
          obtain rfl : v22 = .int (Int32.ofInt f10_243) := Option.some.inj (hsv22.symm.trans hs10_243)
          refine tf_iald (t0 := 0) hx hb hK hW htp rfl rfl (by omega) (by omega) dX10_next_270 (fun v23 hv23 hsv23 => ?_)
          obtain ⟨z24, rfl, hz24⟩ := tf_v0 hv23
          have er25 : rt f10_243 = z24 := hcTPM_243 ▸ tf_rw_of (by omega) hsv23 ⟨by omega, by omega⟩
          have hcg : f10_243 = f9_243 → rt f10_243 = rt f9_243 := fun h => by rw [h]
          refine tf_calli (va_runS (As := [.int (Int32.ofInt z24)]) (rest := []) ⟨hx, hb, hml, hown, hts⟩ (c_X10_isDigit l g T (z24) ⟨by omega, by omega⟩) ⟨callB_of 1 hts (gw_ws cm_X10_isDigit) rfl rfl rfl (hts _ (tw1 (i := 5) rfl)) (hts _ (tw28 (i := 12) rfl)) hd_X10_isDigit.2 ⟨Nat.le_trans (by decide) hR1, Nat.le_trans (by decide) hR2⟩, hts _ (tw28 (i := 13) rfl)⟩ (tf_preS hk hW trivial) rfl rfl hl.1 rfl (lv_room (Nat.le_of_ble_eq_true rfl)) dX10_next_271 ⟨Nat.zero_le _, Nat.zero_le _⟩) hW (by decide) (fun z26 H26 locs26 hW hF26 hp26 => ?_)
          have hs27 := tf_keepF hF26 ha0 rfl rfl (by decide) hs8_243
          have hs28 := tf_keepF hF26 ha0 rfl rfl (by decide) hs7_243
          have hs29 := tf_keepC hF26 htp rfl (by decide) hcTPM_243
          have hs30 := tf_keepF hF26 ha0 rfl rfl (by decide) hs9_243
          have hs31 := tf_keepF hF26 ha0 rfl rfl (by decide) hs10_243
          have hs32 := tf_keepF hF26 ha0 rfl rfl (by decide) hs12_243
          have hs33 := tf_keepF hF26 ha0 rfl rfl (by decide) hs11_243
          rcases hp26 with ⟨rfl, h34, h35⟩ | ⟨rfl, h36⟩
          · refine tf_if_eq (tgt := 335) hx hb ⟨by decide, by decide⟩ dX10_next_274 (by decide) (fun h37 => ?_) (fun h37 => ?_)
            · exfalso; omega
            · refine lv_aload_n hx hb dX10_next_277 rfl (lv_at hl 0 rfl) ?_
              refine lv_aload_n hx hb dX10_next_278 rfl (lv_at hl 0 rfl) ?_
              refine tf_get hx hb hts inlX10 hown hK (ci := 10) rfl hW ha0 rfl 12 rfl (by decide) (hts _ fl_X10_210) dX10_next_279 (fun v38 hv38 hsv38 => ?_)
              obtain rfl : v38 = .long (Int64.ofInt f12_243) := Option.some.inj (hsv38.symm.trans hs32)
              refine tf_ldc2 (z := 1000000) hx hb hown (hts _ kl_X10_229) (by decide) dX10_next_282 ?_
              refine tf_lcmp hx hb ⟨by omega, by omega⟩ ⟨by omega, by omega⟩ dX10_next_285 (fun z39 hz39 => ?_)
              refine tf_if_le (tgt := 296) hx hb ⟨by omega, by omega⟩ dX10_next_286 (by decide) (fun h40 => ?_) (fun h40 => ?_)
              · refine lv_aload_n hx hb dX10_next_296 rfl (lv_at hl 0 rfl) ?_
                refine tf_get hx hb hts inlX10 hown hK (ci := 10) rfl hW ha0 rfl 12 rfl (by decide) (hts _ fl_X10_210) dX10_next_297 (fun v41 hv41 hsv41 => ?_)
                obtain rfl : v41 = .long (Int64.ofInt f12_243) := Option.some.inj (hsv41.symm.trans hs32)
                refine tf_ldc2 (z := 10) hx hb hown (hts _ kl_X10_231) (by decide) dX10_next_300 ?_
                refine tf_lmul_c hx hb dX10_next_303 (fun z42 hz42 kz42 => ?_)
                refine lv_aload_n hx hb dX10_next_304 rfl (lv_at hl 0 rfl) ?_
                refine tf_get hx hb hts inlX10 hown hK (ci := 10) rfl hW ha0 rfl 7 rfl (by decide) (hts _ fl_X10_23) dX10_next_305 (fun v43 hv43 hsv43 => ?_)
                obtain rfl : v43 = .ref tp := Option.some.inj (hsv43.symm.trans hs28)
                refine lv_aload_n hx hb dX10_next_308 rfl (lv_at hl 0 rfl) ?_
                refine tf_get hx hb hts inlX10 hown hK (ci := 10) rfl hW ha0 rfl 10 rfl (by decide) (hts _ fl_X10_197) dX10_next_309 (fun v44 hv44 hsv44 => ?_)
                obtain rfl : v44 = .int (Int32.ofInt f10_243) := Option.some.inj (hsv44.symm.trans hs31)
                refine tf_iald (t0 := 0) hx hb hK hW htp rfl rfl (by omega) (by omega) dX10_next_312 (fun v45 hv45 hsv45 => ?_)
                obtain ⟨z46, rfl, hz46⟩ := tf_v0 hv45
                have er47 : rt f10_243 = z46 := hs29 ▸ tf_rw_of (by omega) hsv45 ⟨by omega, by omega⟩
                refine tf_i2l hx hb ⟨by omega, by omega⟩ dX10_next_313 ?_
                refine tf_ladd_c hx hb dX10_next_314 (fun z48 hz48 kz48 => ?_)
                refine tf_ldc2 (z := 48) hx hb hown (hts _ kl_X10_233) (by decide) dX10_next_315 ?_
                refine tf_lsub_c hx hb dX10_next_318 (fun z49 hz49 kz49 => ?_)
                exact j_319 (z49) ⟨by omega, by omega⟩ (f9_243) ⟨by omega, by omega⟩ (f10_243) ⟨by omega, by omega⟩ (f11_243) ⟨by omega, by omega⟩ (by first | omega | assumption) (by first | omega | assumption) (by first | omega | assumption) (by first | omega | assumption) (by first | omega | assumption) (by first | omega | assumption) (by first | omega | assumption) _ _ hW hs27 hs28 hs29 hs30 hs31 hs33 _ (lv_sub hl [0] rfl)
              · refine lv_aload_n hx hb dX10_next_289 rfl (lv_at hl 0 rfl) ?_
                refine tf_get hx hb hts inlX10 hown hK (ci := 10) rfl hW ha0 rfl 12 rfl (by decide) (hts _ fl_X10_210) dX10_next_290 (fun v50 hv50 hsv50 => ?_)
                obtain rfl : v50 = .long (Int64.ofInt f12_243) := Option.some.inj (hsv50.symm.trans hs32)
                refine lv_goto (tgt := 319) hx hb dX10_next_293 (by decide) ?_
                exact j_319 (f12_243) ⟨by omega, by omega⟩ (f9_243) ⟨by omega, by omega⟩ (f10_243) ⟨by omega, by omega⟩ (f11_243) ⟨by omega, by omega⟩ (by first | omega | assumption) (by first | omega | assumption) (by first | omega | assumption) (by first | omega | assumption) (by first | omega | assumption) (by first | omega | assumption) (by first | omega | assumption) _ _ hW hs27 hs28 hs29 hs30 hs31 hs33 _ (lv_sub hl [0] rfl)
          · refine tf_if_eq (tgt := 335) hx hb ⟨by decide, by decide⟩ dX10_next_274 (by decide) (fun h51 => ?_) (fun h51 => ?_)
            · exact tf_retv hx hb hr hlocks hQ hW ⟨(f9_243), (f10_243), (f11_243), (f12_243), hs30, hs31, hs33, hs32, ⟨by omega, by omega⟩, ⟨by omega, by omega⟩, ⟨by omega, by omega⟩, ⟨by omega, by omega⟩, (by first | omega | assumption), (by first | omega | assumption)⟩ dX10_next_335
            · exfalso; omega
  have j_149 : ∀ (n_149 : Nat), ∀ (f9_149 : Int), 0 ≤ f9_149 ∧ f9_149 ≤ 400 → ∀ (f10_149 : Int), 0 ≤ f10_149 ∧ f10_149 ≤ 400 → ∀ (f12_149 : Int), (-9223372036854775808) ≤ f12_149 ∧ f12_149 ≤ 9223372036854775807 → ∀ (f11_149 : Int), 0 ≤ f11_149 ∧ f11_149 ≤ 3 → (gt ≤ f9_149) → (f9_149 ≤ f10_149) → (f10_149 ≤ gn) → (f11_149 = 0 → f9_149 = gn) → (f11_149 ≠ 0 → f9_149 < gn) → (f11_149 = 3 → f9_149 < f10_149) → (f11_149 = 1 → 97 ≤ rt f9_149 ∧ rt f9_149 ≤ 122) → (f11_149 = 2 → 48 ≤ rt f9_149 ∧ rt f9_149 ≤ 57) → (f11_149 = 1 → (f10_149 = f9_149 ∧ f12_149 = 0) ∨ (f10_149 = f9_149 + 1 ∧ f12_149 ≤ 26) ∨ f9_149 + 2 ≤ f10_149) → (gn - f10_149 + 1 ≤ (n_149 : Int)) → ∀ (H : Heap) (locs : List Loc), tf_n tf_kt g M_X10_next T s.heap T H locs → tf_s H a0 (g.1.2 10 8) = some (.int (Int32.ofInt gn)) → tf_s H a0 (g.1.2 10 7) = some (.ref tp) → tf_rw H tp = rt → tf_s H a0 (g.1.2 10 9) = some (.int (Int32.ofInt f9_149)) → tf_s H a0 (g.1.2 10 10) = some (.int (Int32.ofInt f10_149)) → tf_s H a0 (g.1.2 10 12) = some (.long (Int64.ofInt f12_149)) → tf_s H a0 (g.1.2 10 11) = some (.int (Int32.ofInt f11_149)) → ∀ (ls : Array Slot), lv_has ls 1 [(0, .ref a0)] → W p l e R s m args below meth c H locs 0 0 Q (F0 m 149 ls []) := by
    intro n_149
    induction n_149 with
    | zero =>
      intro f9_149 hf9_149 f10_149 hf10_149 f12_149 hf12_149 f11_149 hf11_149 hi0_149 hi1_149 hi2_149 hi3_149 hi4_149 hi5_149 hi6_149 hi7_149 hi8_149 hm_149
      exfalso; omega
    | succ n_149 ih_149 =>
      intro f9_149 hf9_149 f10_149 hf10_149 f12_149 hf12_149 f11_149 hf11_149 hi0_149 hi1_149 hi2_149 hi3_149 hi4_149 hi5_149 hi6_149 hi7_149 hi8_149 hm_149 H locs hW hs8_149 hs7_149 hcTPM_149 hs9_149 hs10_149 hs12_149 hs11_149 ls hl
      have j_227 : ∀ (y1_227 : Int), (-9223372036854775808) ≤ y1_227 ∧ y1_227 ≤ 9223372036854775807 → ∀ (f9_227 : Int), 0 ≤ f9_227 ∧ f9_227 ≤ 400 → ∀ (f10_227 : Int), 0 ≤ f10_227 ∧ f10_227 ≤ 399 → ∀ (f11_227 : Int), 1 ≤ f11_227 ∧ f11_227 ≤ 1 → (gt ≤ f9_227) → (f9_227 = f9_149) → (f10_227 = f10_149) → (f10_227 < gn) → (f11_227 = 1) → (f10_227 = f9_227 → y1_227 ≤ 26) → (97 ≤ rt f9_227 ∧ rt f9_227 ≤ 122) → (f9_227 ≤ f10_227) → ∀ (H : Heap) (locs : List Loc), tf_n tf_kt g M_X10_next T s.heap T H locs → tf_s H a0 (g.1.2 10 8) = some (.int (Int32.ofInt gn)) → tf_s H a0 (g.1.2 10 7) = some (.ref tp) → tf_rw H tp = rt → tf_s H a0 (g.1.2 10 9) = some (.int (Int32.ofInt f9_227)) → tf_s H a0 (g.1.2 10 10) = some (.int (Int32.ofInt f10_227)) → tf_s H a0 (g.1.2 10 11) = some (.int (Int32.ofInt f11_227)) → ∀ (ls : Array Slot), lv_has ls 1 [(0, .ref a0)] → W p l e R s m args below meth c H locs 0 0 Q (F0 m 227 ls [.long (Int64.ofInt y1_227), .ref a0]) := by
        intro y1_227 hy1_227 f9_227 hf9_227 f10_227 hf10_227 f11_227 hf11_227 hi0_227 hi1_227 hi2_227 hi3_227 hi4_227 hi5_227 hi6_227 hi7_227 H locs hW hs8_227 hs7_227 hcTPM_227 hs9_227 hs10_227 hs11_227 ls hl
        refine tf_put hx hb hts inlX10 tyX10 tyX10_ok nmX10 hown hK (ci := 10) rfl hW ha0 rfl rfl 12 rfl (by decide) (by decide) (hts _ fl_X10_210) rfl (tf_u5 (by omega) (by omega)) rfl rfl dX10_next_227 (fun H52 locs52 hW hs52 ht52 hq52 => ?_)
        have hs53 := (ht52 8 (by decide) (by decide)).trans hs8_227
        have hs54 := (ht52 7 (by decide) (by decide)).trans hs7_227
        have hs55 := tf_keepCQ hcTPM_227 (hq52 _ (tf_ne htp ha0 (by decide)))
        have hs56 := (ht52 9 (by decide) (by decide)).trans hs9_227
        have hs57 := (ht52 10 (by decide) (by decide)).trans hs10_227
        have hs58 := (ht52 11 (by decide) (by decide)).trans hs11_227
        refine lv_aload_n hx hb dX10_next_230 rfl (lv_at hl 0 rfl) ?_
        refine lv_dup hx hb dX10_next_231 rfl ?_
        refine tf_get hx hb hts inlX10 hown hK (ci := 10) rfl hW ha0 rfl 10 rfl (by decide) (hts _ fl_X10_197) dX10_next_232 (fun v59 hv59 hsv59 => ?_)
        obtain rfl : v59 = .int (Int32.ofInt f10_227) := Option.some.inj (hsv59.symm.trans hs57)
        refine tf_iconst hx hb dX10_next_235 ?_
        refine tf_iadd hx hb dX10_next_236 ?_
        refine tf_put hx hb hts inlX10 tyX10 tyX10_ok nmX10 hown hK (ci := 10) rfl hW ha0 rfl rfl 10 rfl (by decide) (by decide) (hts _ fl_X10_197) rfl (tf_u0 (by omega) (by omega)) rfl rfl dX10_next_237 (fun H60 locs60 hW hs60 ht60 hq60 => ?_)
        have hs61 := (ht60 8 (by decide) (by decide)).trans hs53
        have hs62 := (ht60 7 (by decide) (by decide)).trans hs54
        have hs63 := tf_keepCQ hs55 (hq60 _ (tf_ne htp ha0 (by decide)))
        have hs64 := (ht60 9 (by decide) (by decide)).trans hs56
        have hs65 := (ht60 11 (by decide) (by decide)).trans hs58
        have hs66 := (ht60 12 (by decide) (by decide)).trans hs52
        refine lv_goto (tgt := 149) hx hb dX10_next_240 (by decide) ?_
        exact ih_149 (f9_227) ⟨by omega, by omega⟩ ((f10_227 + 1)) ⟨by omega, by omega⟩ (y1_227) ⟨by omega, by omega⟩ (f11_227) ⟨by omega, by omega⟩ (by first | omega | assumption) (by first | omega | assumption) (by first | omega | assumption) (by first | omega | assumption) (by first | omega | assumption) (by first | omega | assumption) (by first | omega | assumption) (by first | omega | assumption) (by first | omega | assumption) (by omega) _ _ hW hs61 hs62 hs63 hs64 hs60 hs66 hs65 _ (lv_sub hl [0] rfl)
      refine lv_aload_n hx hb dX10_next_149 rfl (lv_at hl 0 rfl) ?_
      refine tf_get hx hb hts inlX10 hown hK (ci := 10) rfl hW ha0 rfl 11 rfl (by decide) (hts _ fl_X10_220) dX10_next_150 (fun v67 hv67 hsv67 => ?_)
      obtain rfl : v67 = .int (Int32.ofInt f11_149) := Option.some.inj (hsv67.symm.trans hs11_149)
      refine tf_iconst hx hb dX10_next_153 ?_
      refine tf_icmp_ne (tgt := 243) hx hb ⟨by omega, by omega⟩ ⟨by decide, by decide⟩ dX10_next_154 (by decide) (fun h68 => ?_) (fun h68 => ?_)
      · exact j_243 ((gn - f10_149 + 1 : Int)).toNat (f9_149) ⟨by omega, by omega⟩ (f10_149) ⟨by omega, by omega⟩ (f12_149) ⟨by omega, by omega⟩ (f11_149) ⟨by omega, by omega⟩ (by first | omega | assumption) (by first | omega | assumption) (by first | omega | assumption) (by first | omega | assumption) (by first | omega | assumption) (by first | omega | assumption) (by first | omega | assumption) (by first | omega | assumption) (by omega) _ _ hW hs8_149 hs7_149 hcTPM_149 hs9_149 hs10_149 hs12_149 hs11_149 _ (lv_sub hl [0] rfl)
      · refine lv_aload_n hx hb dX10_next_157 rfl (lv_at hl 0 rfl) ?_
        refine tf_get hx hb hts inlX10 hown hK (ci := 10) rfl hW ha0 rfl 10 rfl (by decide) (hts _ fl_X10_197) dX10_next_158 (fun v69 hv69 hsv69 => ?_)
        obtain rfl : v69 = .int (Int32.ofInt f10_149) := Option.some.inj (hsv69.symm.trans hs10_149)
        refine lv_aload_n hx hb dX10_next_161 rfl (lv_at hl 0 rfl) ?_
        refine tf_get hx hb hts inlX10 hown hK (ci := 10) rfl hW ha0 rfl 8 rfl (by decide) (hts _ fl_X10_183) dX10_next_162 (fun v70 hv70 hsv70 => ?_)
        obtain rfl : v70 = .int (Int32.ofInt gn) := Option.some.inj (hsv70.symm.trans hs8_149)
        refine tf_icmp_ge (tgt := 243) hx hb ⟨by omega, by omega⟩ ⟨by omega, by omega⟩ dX10_next_165 (by decide) (fun h71 => ?_) (fun h71 => ?_)
        · exact j_243 ((gn - f10_149 + 1 : Int)).toNat (f9_149) ⟨by omega, by omega⟩ (f10_149) ⟨by omega, by omega⟩ (f12_149) ⟨by omega, by omega⟩ (f11_149) ⟨by omega, by omega⟩ (by first | omega | assumption) (by first | omega | assumption) (by first | omega | assumption) (by first | omega | assumption) (by first | omega | assumption) (by first | omega | assumption) (by first | omega | assumption) (by first | omega | assumption) (by omega) _ _ hW hs8_149 hs7_149 hcTPM_149 hs9_149 hs10_149 hs12_149 hs11_149 _ (lv_sub hl [0] rfl)
        · refine lv_aload_n hx hb dX10_next_168 rfl (lv_at hl 0 rfl) ?_
          refine tf_get hx hb hts inlX10 hown hK (ci := 10) rfl hW ha0 rfl 7 rfl (by decide) (hts _ fl_X10_23) dX10_next_169 (fun v72 hv72 hsv72 => ?_)
          obtain rfl : v72 = .ref tp := Option.some.inj (hsv72.symm.trans hs7_149)
          refine lv_aload_n hx hb dX10_next_172 rfl (lv_at hl 0 rfl) ?_
          refine tf_get hx hb hts inlX10 hown hK (ci := 10) rfl hW ha0 rfl 10 rfl (by decide) (hts _ fl_X10_197) dX10_next_173 (fun v73 hv73 hsv73 => ?_)
          obtain rfl : v73 = .int (Int32.ofInt f10_149) := Option.some.inj (hsv73.symm.trans hs10_149)
          refine tf_iald (t0 := 0) hx hb hK hW htp rfl rfl (by omega) (by omega) dX10_next_176 (fun v74 hv74 hsv74 => ?_)
          obtain ⟨z75, rfl, hz75⟩ := tf_v0 hv74
          have er76 : rt f10_149 = z75 := hcTPM_149 ▸ tf_rw_of (by omega) hsv74 ⟨by omega, by omega⟩
          have hcg : f10_149 = f9_149 → rt f10_149 = rt f9_149 := fun h => by rw [h]
          refine tf_calli (va_runS (As := [.int (Int32.ofInt z75)]) (rest := []) ⟨hx, hb, hml, hown, hts⟩ (c_X10_isSmall l g T (z75) ⟨by omega, by omega⟩) ⟨callB_of 1 hts (gw_ws cm_X10_isSmall) rfl rfl rfl (hts _ (tw1 (i := 5) rfl)) (hts _ (tw28 (i := 9) rfl)) hd_X10_isSmall.2 ⟨Nat.le_trans (by decide) hR1, Nat.le_trans (by decide) hR2⟩, hts _ (tw28 (i := 10) rfl)⟩ (tf_preS hk hW trivial) rfl rfl hl.1 rfl (lv_room (Nat.le_of_ble_eq_true rfl)) dX10_next_177 ⟨Nat.zero_le _, Nat.zero_le _⟩) hW (by decide) (fun z77 H77 locs77 hW hF77 hp77 => ?_)
          have hs78 := tf_keepF hF77 ha0 rfl rfl (by decide) hs8_149
          have hs79 := tf_keepF hF77 ha0 rfl rfl (by decide) hs7_149
          have hs80 := tf_keepC hF77 htp rfl (by decide) hcTPM_149
          have hs81 := tf_keepF hF77 ha0 rfl rfl (by decide) hs9_149
          have hs82 := tf_keepF hF77 ha0 rfl rfl (by decide) hs10_149
          have hs83 := tf_keepF hF77 ha0 rfl rfl (by decide) hs12_149
          have hs84 := tf_keepF hF77 ha0 rfl rfl (by decide) hs11_149
          rcases hp77 with ⟨rfl, h85, h86⟩ | ⟨rfl, h87⟩
          · refine tf_if_eq (tgt := 243) hx hb ⟨by decide, by decide⟩ dX10_next_180 (by decide) (fun h88 => ?_) (fun h88 => ?_)
            · exfalso; omega
            · refine lv_aload_n hx hb dX10_next_183 rfl (lv_at hl 0 rfl) ?_
              refine lv_aload_n hx hb dX10_next_184 rfl (lv_at hl 0 rfl) ?_
              refine tf_get hx hb hts inlX10 hown hK (ci := 10) rfl hW ha0 rfl 10 rfl (by decide) (hts _ fl_X10_197) dX10_next_185 (fun v89 hv89 hsv89 => ?_)
              obtain rfl : v89 = .int (Int32.ofInt f10_149) := Option.some.inj (hsv89.symm.trans hs82)
              refine lv_aload_n hx hb dX10_next_188 rfl (lv_at hl 0 rfl) ?_
              refine tf_get hx hb hts inlX10 hown hK (ci := 10) rfl hW ha0 rfl 9 rfl (by decide) (hts _ fl_X10_207) dX10_next_189 (fun v90 hv90 hsv90 => ?_)
              obtain rfl : v90 = .int (Int32.ofInt f9_149) := Option.some.inj (hsv90.symm.trans hs81)
              refine tf_isub hx hb dX10_next_192 ?_
              refine tf_bipush hx hb dX10_next_193 (by decide) ?_
              refine tf_icmp_ge (tgt := 224) hx hb ⟨by omega, by omega⟩ ⟨by decide, by decide⟩ dX10_next_195 (by decide) (fun h91 => ?_) (fun h91 => ?_)
              · refine tf_ldc2 (z := -1) hx hb hown (hts _ kl_X10_227) (by decide) dX10_next_224 ?_
                exact j_227 ((-1)) ⟨by omega, by omega⟩ (f9_149) ⟨by omega, by omega⟩ (f10_149) ⟨by omega, by omega⟩ (f11_149) ⟨by omega, by omega⟩ (by first | omega | assumption) (by first | omega | assumption) (by first | omega | assumption) (by first | omega | assumption) (by first | omega | assumption) (by first | omega | assumption) (by first | omega | assumption) (by first | omega | assumption) _ _ hW hs78 hs79 hs80 hs81 hs82 hs84 _ (lv_sub hl [0] rfl)
              · refine lv_aload_n hx hb dX10_next_198 rfl (lv_at hl 0 rfl) ?_
                refine tf_get hx hb hts inlX10 hown hK (ci := 10) rfl hW ha0 rfl 12 rfl (by decide) (hts _ fl_X10_210) dX10_next_199 (fun v92 hv92 hsv92 => ?_)
                obtain rfl : v92 = .long (Int64.ofInt f12_149) := Option.some.inj (hsv92.symm.trans hs83)
                refine tf_ldc2 (z := 32) hx hb hown (hts _ kl_X10_223) (by decide) dX10_next_202 ?_
                refine tf_lmul_c hx hb dX10_next_205 (fun z93 hz93 kz93 => ?_)
                refine lv_aload_n hx hb dX10_next_206 rfl (lv_at hl 0 rfl) ?_
                refine tf_get hx hb hts inlX10 hown hK (ci := 10) rfl hW ha0 rfl 7 rfl (by decide) (hts _ fl_X10_23) dX10_next_207 (fun v94 hv94 hsv94 => ?_)
                obtain rfl : v94 = .ref tp := Option.some.inj (hsv94.symm.trans hs79)
                refine lv_aload_n hx hb dX10_next_210 rfl (lv_at hl 0 rfl) ?_
                refine tf_get hx hb hts inlX10 hown hK (ci := 10) rfl hW ha0 rfl 10 rfl (by decide) (hts _ fl_X10_197) dX10_next_211 (fun v95 hv95 hsv95 => ?_)
                obtain rfl : v95 = .int (Int32.ofInt f10_149) := Option.some.inj (hsv95.symm.trans hs82)
                refine tf_iald (t0 := 0) hx hb hK hW htp rfl rfl (by omega) (by omega) dX10_next_214 (fun v96 hv96 hsv96 => ?_)
                obtain ⟨z97, rfl, hz97⟩ := tf_v0 hv96
                have er98 : rt f10_149 = z97 := hs80 ▸ tf_rw_of (by omega) hsv96 ⟨by omega, by omega⟩
                refine tf_i2l hx hb ⟨by omega, by omega⟩ dX10_next_215 ?_
                refine tf_ladd_c hx hb dX10_next_216 (fun z99 hz99 kz99 => ?_)
                refine tf_ldc2 (z := 96) hx hb hown (hts _ kl_X10_225) (by decide) dX10_next_217 ?_
                refine tf_lsub_c hx hb dX10_next_220 (fun z100 hz100 kz100 => ?_)
                refine lv_goto (tgt := 227) hx hb dX10_next_221 (by decide) ?_
                exact j_227 (z100) ⟨by omega, by omega⟩ (f9_149) ⟨by omega, by omega⟩ (f10_149) ⟨by omega, by omega⟩ (f11_149) ⟨by omega, by omega⟩ (by first | omega | assumption) (by first | omega | assumption) (by first | omega | assumption) (by first | omega | assumption) (by first | omega | assumption) (by first | omega | assumption) (by first | omega | assumption) (by first | omega | assumption) _ _ hW hs78 hs79 hs80 hs81 hs82 hs84 _ (lv_sub hl [0] rfl)
          · refine tf_if_eq (tgt := 243) hx hb ⟨by decide, by decide⟩ dX10_next_180 (by decide) (fun h101 => ?_) (fun h101 => ?_)
            · exact j_243 ((gn - f10_149 + 1 : Int)).toNat (f9_149) ⟨by omega, by omega⟩ (f10_149) ⟨by omega, by omega⟩ (f12_149) ⟨by omega, by omega⟩ (f11_149) ⟨by omega, by omega⟩ (by first | omega | assumption) (by first | omega | assumption) (by first | omega | assumption) (by first | omega | assumption) (by first | omega | assumption) (by first | omega | assumption) (by first | omega | assumption) (by first | omega | assumption) (by omega) _ _ hW hs78 hs79 hs80 hs81 hs82 hs83 hs84 _ (lv_sub hl [0] rfl)
            · exfalso; omega
  have j_114 : ∀ (y1_114 : Int), 0 ≤ y1_114 ∧ y1_114 ≤ 3 → ∀ (f9_114 : Int), 0 ≤ f9_114 ∧ f9_114 ≤ 400 → ∀ (f10_114 : Int), 0 ≤ f10_114 ∧ f10_114 ≤ 400 → ∀ (f12_114 : Int), (-9223372036854775808) ≤ f12_114 ∧ f12_114 ≤ 9223372036854775807 → (gt ≤ f9_114) → (f9_114 ≤ gn) → (f10_114 = f9_114) → ((y1_114 = 0 ∧ f9_114 = gn) ∨ (y1_114 ≠ 0 ∧ f9_114 < gn)) → (y1_114 = 1 → 97 ≤ rt f9_114 ∧ rt f9_114 ≤ 122) → (y1_114 = 2 → 48 ≤ rt f9_114 ∧ rt f9_114 ≤ 57) → (f12_114 = 0) → ∀ (H : Heap) (locs : List Loc), tf_n tf_kt g M_X10_next T s.heap T H locs → tf_s H a0 (g.1.2 10 8) = some (.int (Int32.ofInt gn)) → tf_s H a0 (g.1.2 10 7) = some (.ref tp) → tf_rw H tp = rt → tf_s H a0 (g.1.2 10 9) = some (.int (Int32.ofInt f9_114)) → tf_s H a0 (g.1.2 10 10) = some (.int (Int32.ofInt f10_114)) → tf_s H a0 (g.1.2 10 12) = some (.long (Int64.ofInt f12_114)) → ∀ (ls : Array Slot), lv_has ls 1 [(0, .ref a0)] → W p l e R s m args below meth c H locs 0 0 Q (F0 m 114 ls [.int (Int32.ofInt y1_114), .ref a0]) := by
    intro y1_114 hy1_114 f9_114 hf9_114 f10_114 hf10_114 f12_114 hf12_114 hi0_114 hi1_114 hi2_114 hi3_114 hi4_114 hi5_114 hi6_114 H locs hW hs8_114 hs7_114 hcTPM_114 hs9_114 hs10_114 hs12_114 ls hl
    refine tf_put hx hb hts inlX10 tyX10 tyX10_ok nmX10 hown hK (ci := 10) rfl hW ha0 rfl rfl 11 rfl (by decide) (by decide) (hts _ fl_X10_220) rfl (tf_u0 (by omega) (by omega)) rfl rfl dX10_next_114 (fun H102 locs102 hW hs102 ht102 hq102 => ?_)
    have hs103 := (ht102 8 (by decide) (by decide)).trans hs8_114
    have hs104 := (ht102 7 (by decide) (by decide)).trans hs7_114
    have hs105 := tf_keepCQ hcTPM_114 (hq102 _ (tf_ne htp ha0 (by decide)))
    have hs106 := (ht102 9 (by decide) (by decide)).trans hs9_114
    have hs107 := (ht102 10 (by decide) (by decide)).trans hs10_114
    have hs108 := (ht102 12 (by decide) (by decide)).trans hs12_114
    refine lv_aload_n hx hb dX10_next_117 rfl (lv_at hl 0 rfl) ?_
    refine tf_get hx hb hts inlX10 hown hK (ci := 10) rfl hW ha0 rfl 11 rfl (by decide) (hts _ fl_X10_220) dX10_next_118 (fun v109 hv109 hsv109 => ?_)
    obtain rfl : v109 = .int (Int32.ofInt y1_114) := Option.some.inj (hsv109.symm.trans hs102)
    refine tf_iconst hx hb dX10_next_121 ?_
    refine tf_icmp_ne (tgt := 149) hx hb ⟨by omega, by omega⟩ ⟨by decide, by decide⟩ dX10_next_122 (by decide) (fun h110 => ?_) (fun h110 => ?_)
    · exact j_149 ((gn - f10_114 + 1 : Int)).toNat (f9_114) ⟨by omega, by omega⟩ (f10_114) ⟨by omega, by omega⟩ (f12_114) ⟨by omega, by omega⟩ (y1_114) ⟨by omega, by omega⟩ (by first | omega | assumption) (by first | omega | assumption) (by first | omega | assumption) (by first | omega | assumption) (by first | omega | assumption) (by first | omega | assumption) (by first | omega | assumption) (by first | omega | assumption) (by first | omega | assumption) (by omega) _ _ hW hs103 hs104 hs105 hs106 hs107 hs108 hs102 _ (lv_sub hl [0] rfl)
    · refine lv_aload_n hx hb dX10_next_125 rfl (lv_at hl 0 rfl) ?_
      refine lv_aload_n hx hb dX10_next_126 rfl (lv_at hl 0 rfl) ?_
      refine tf_get hx hb hts inlX10 hown hK (ci := 10) rfl hW ha0 rfl 7 rfl (by decide) (hts _ fl_X10_23) dX10_next_127 (fun v111 hv111 hsv111 => ?_)
      obtain rfl : v111 = .ref tp := Option.some.inj (hsv111.symm.trans hs104)
      refine lv_aload_n hx hb dX10_next_130 rfl (lv_at hl 0 rfl) ?_
      refine tf_get hx hb hts inlX10 hown hK (ci := 10) rfl hW ha0 rfl 9 rfl (by decide) (hts _ fl_X10_207) dX10_next_131 (fun v112 hv112 hsv112 => ?_)
      obtain rfl : v112 = .int (Int32.ofInt f9_114) := Option.some.inj (hsv112.symm.trans hs106)
      refine tf_iald (t0 := 0) hx hb hK hW htp rfl rfl (by omega) (by omega) dX10_next_134 (fun v113 hv113 hsv113 => ?_)
      obtain ⟨z114, rfl, hz114⟩ := tf_v0 hv113
      have er115 : rt f9_114 = z114 := hs105 ▸ tf_rw_of (by omega) hsv113 ⟨by omega, by omega⟩
      refine tf_i2l hx hb ⟨by omega, by omega⟩ dX10_next_135 ?_
      refine tf_put hx hb hts inlX10 tyX10 tyX10_ok nmX10 hown hK (ci := 10) rfl hW ha0 rfl rfl 12 rfl (by decide) (by decide) (hts _ fl_X10_210) rfl (tf_u5 (by omega) (by omega)) rfl rfl dX10_next_136 (fun H116 locs116 hW hs116 ht116 hq116 => ?_)
      have hs117 := (ht116 8 (by decide) (by decide)).trans hs103
      have hs118 := (ht116 7 (by decide) (by decide)).trans hs104
      have hs119 := tf_keepCQ hs105 (hq116 _ (tf_ne htp ha0 (by decide)))
      have hs120 := (ht116 9 (by decide) (by decide)).trans hs106
      have hs121 := (ht116 10 (by decide) (by decide)).trans hs107
      have hs122 := (ht116 11 (by decide) (by decide)).trans hs102
      refine lv_aload_n hx hb dX10_next_139 rfl (lv_at hl 0 rfl) ?_
      refine lv_dup hx hb dX10_next_140 rfl ?_
      refine tf_get hx hb hts inlX10 hown hK (ci := 10) rfl hW ha0 rfl 10 rfl (by decide) (hts _ fl_X10_197) dX10_next_141 (fun v123 hv123 hsv123 => ?_)
      obtain rfl : v123 = .int (Int32.ofInt f10_114) := Option.some.inj (hsv123.symm.trans hs121)
      refine tf_iconst hx hb dX10_next_144 ?_
      refine tf_iadd hx hb dX10_next_145 ?_
      refine tf_put hx hb hts inlX10 tyX10 tyX10_ok nmX10 hown hK (ci := 10) rfl hW ha0 rfl rfl 10 rfl (by decide) (by decide) (hts _ fl_X10_197) rfl (tf_u0 (by omega) (by omega)) rfl rfl dX10_next_146 (fun H124 locs124 hW hs124 ht124 hq124 => ?_)
      have hs125 := (ht124 8 (by decide) (by decide)).trans hs117
      have hs126 := (ht124 7 (by decide) (by decide)).trans hs118
      have hs127 := tf_keepCQ hs119 (hq124 _ (tf_ne htp ha0 (by decide)))
      have hs128 := (ht124 9 (by decide) (by decide)).trans hs120
      have hs129 := (ht124 11 (by decide) (by decide)).trans hs122
      have hs130 := (ht124 12 (by decide) (by decide)).trans hs116
      exact j_149 ((gn - (f10_114 + 1) + 1 : Int)).toNat (f9_114) ⟨by omega, by omega⟩ ((f10_114 + 1)) ⟨by omega, by omega⟩ (z114) ⟨by omega, by omega⟩ (y1_114) ⟨by omega, by omega⟩ (by first | omega | assumption) (by first | omega | assumption) (by first | omega | assumption) (by first | omega | assumption) (by first | omega | assumption) (by first | omega | assumption) (by first | omega | assumption) (by first | omega | assumption) (by first | omega | assumption) (by omega) _ _ hW hs125 hs126 hs127 hs128 hs124 hs130 hs129 _ (lv_sub hl [0] rfl)
  have j_46 : ∀ (f9_46 : Int), 0 ≤ f9_46 ∧ f9_46 ≤ 400 → (gt ≤ f9_46) → (f9_46 ≤ gn) → ∀ (H : Heap) (locs : List Loc), tf_n tf_kt g M_X10_next T s.heap T H locs → tf_s H a0 (g.1.2 10 8) = some (.int (Int32.ofInt gn)) → tf_s H a0 (g.1.2 10 7) = some (.ref tp) → tf_rw H tp = rt → tf_s H a0 (g.1.2 10 9) = some (.int (Int32.ofInt f9_46)) → ∀ (ls : Array Slot), lv_has ls 1 [(0, .ref a0)] → W p l e R s m args below meth c H locs 0 0 Q (F0 m 46 ls []) := by
    intro f9_46 hf9_46 hi0_46 hi1_46 H locs hW hs8_46 hs7_46 hcTPM_46 hs9_46 ls hl
    refine lv_aload_n hx hb dX10_next_46 rfl (lv_at hl 0 rfl) ?_
    refine lv_aload_n hx hb dX10_next_47 rfl (lv_at hl 0 rfl) ?_
    refine tf_get hx hb hts inlX10 hown hK (ci := 10) rfl hW ha0 rfl 9 rfl (by decide) (hts _ fl_X10_207) dX10_next_48 (fun v131 hv131 hsv131 => ?_)
    obtain rfl : v131 = .int (Int32.ofInt f9_46) := Option.some.inj (hsv131.symm.trans hs9_46)
    refine tf_put hx hb hts inlX10 tyX10 tyX10_ok nmX10 hown hK (ci := 10) rfl hW ha0 rfl rfl 10 rfl (by decide) (by decide) (hts _ fl_X10_197) rfl (tf_u0 (by omega) (by omega)) rfl rfl dX10_next_51 (fun H132 locs132 hW hs132 ht132 hq132 => ?_)
    have hs133 := (ht132 8 (by decide) (by decide)).trans hs8_46
    have hs134 := (ht132 7 (by decide) (by decide)).trans hs7_46
    have hs135 := tf_keepCQ hcTPM_46 (hq132 _ (tf_ne htp ha0 (by decide)))
    have hs136 := (ht132 9 (by decide) (by decide)).trans hs9_46
    refine lv_aload_n hx hb dX10_next_54 rfl (lv_at hl 0 rfl) ?_
    refine tf_lconst (z := 0) hx hb dX10_next_55 (by decide) ?_
    refine tf_put hx hb hts inlX10 tyX10 tyX10_ok nmX10 hown hK (ci := 10) rfl hW ha0 rfl rfl 12 rfl (by decide) (by decide) (hts _ fl_X10_210) rfl (tf_u5 (by omega) (by omega)) rfl rfl dX10_next_56 (fun H137 locs137 hW hs137 ht137 hq137 => ?_)
    have hs138 := (ht137 8 (by decide) (by decide)).trans hs133
    have hs139 := (ht137 7 (by decide) (by decide)).trans hs134
    have hs140 := tf_keepCQ hs135 (hq137 _ (tf_ne htp ha0 (by decide)))
    have hs141 := (ht137 9 (by decide) (by decide)).trans hs136
    have hs142 := (ht137 10 (by decide) (by decide)).trans hs132
    refine lv_aload_n hx hb dX10_next_59 rfl (lv_at hl 0 rfl) ?_
    refine lv_aload_n hx hb dX10_next_60 rfl (lv_at hl 0 rfl) ?_
    refine tf_get hx hb hts inlX10 hown hK (ci := 10) rfl hW ha0 rfl 9 rfl (by decide) (hts _ fl_X10_207) dX10_next_61 (fun v143 hv143 hsv143 => ?_)
    obtain rfl : v143 = .int (Int32.ofInt f9_46) := Option.some.inj (hsv143.symm.trans hs141)
    refine lv_aload_n hx hb dX10_next_64 rfl (lv_at hl 0 rfl) ?_
    refine tf_get hx hb hts inlX10 hown hK (ci := 10) rfl hW ha0 rfl 8 rfl (by decide) (hts _ fl_X10_183) dX10_next_65 (fun v144 hv144 hsv144 => ?_)
    obtain rfl : v144 = .int (Int32.ofInt gn) := Option.some.inj (hsv144.symm.trans hs138)
    refine tf_icmp_ne (tgt := 75) hx hb ⟨by omega, by omega⟩ ⟨by omega, by omega⟩ dX10_next_68 (by decide) (fun h145 => ?_) (fun h145 => ?_)
    · refine lv_aload_n hx hb dX10_next_75 rfl (lv_at hl 0 rfl) ?_
      refine tf_get hx hb hts inlX10 hown hK (ci := 10) rfl hW ha0 rfl 7 rfl (by decide) (hts _ fl_X10_23) dX10_next_76 (fun v146 hv146 hsv146 => ?_)
      obtain rfl : v146 = .ref tp := Option.some.inj (hsv146.symm.trans hs139)
      refine lv_aload_n hx hb dX10_next_79 rfl (lv_at hl 0 rfl) ?_
      refine tf_get hx hb hts inlX10 hown hK (ci := 10) rfl hW ha0 rfl 9 rfl (by decide) (hts _ fl_X10_207) dX10_next_80 (fun v147 hv147 hsv147 => ?_)
      obtain rfl : v147 = .int (Int32.ofInt f9_46) := Option.some.inj (hsv147.symm.trans hs141)
      refine tf_iald (t0 := 0) hx hb hK hW htp rfl rfl (by omega) (by omega) dX10_next_83 (fun v148 hv148 hsv148 => ?_)
      obtain ⟨z149, rfl, hz149⟩ := tf_v0 hv148
      have er150 : rt f9_46 = z149 := hs140 ▸ tf_rw_of (by omega) hsv148 ⟨by omega, by omega⟩
      refine tf_calli (va_runS (As := [.int (Int32.ofInt z149)]) (rest := [.ref a0]) ⟨hx, hb, hml, hown, hts⟩ (c_X10_isSmall l g T (z149) ⟨by omega, by omega⟩) ⟨callB_of 1 hts (gw_ws cm_X10_isSmall) rfl rfl rfl (hts _ (tw1 (i := 5) rfl)) (hts _ (tw28 (i := 9) rfl)) hd_X10_isSmall.2 ⟨Nat.le_trans (by decide) hR1, Nat.le_trans (by decide) hR2⟩, hts _ (tw28 (i := 10) rfl)⟩ (tf_preS hk hW trivial) rfl rfl hl.1 rfl (lv_room (Nat.le_of_ble_eq_true rfl)) dX10_next_84 ⟨Nat.zero_le _, Nat.zero_le _⟩) hW (by decide) (fun z151 H151 locs151 hW hF151 hp151 => ?_)
      have hs152 := tf_keepF hF151 ha0 rfl rfl (by decide) hs138
      have hs153 := tf_keepF hF151 ha0 rfl rfl (by decide) hs139
      have hs154 := tf_keepC hF151 htp rfl (by decide) hs140
      have hs155 := tf_keepF hF151 ha0 rfl rfl (by decide) hs141
      have hs156 := tf_keepF hF151 ha0 rfl rfl (by decide) hs142
      have hs157 := tf_keepF hF151 ha0 rfl rfl (by decide) hs137
      rcases hp151 with ⟨rfl, h158, h159⟩ | ⟨rfl, h160⟩
      · refine tf_if_eq (tgt := 94) hx hb ⟨by decide, by decide⟩ dX10_next_87 (by decide) (fun h161 => ?_) (fun h161 => ?_)
        · exfalso; omega
        · refine tf_iconst hx hb dX10_next_90 ?_
          refine lv_goto (tgt := 114) hx hb dX10_next_91 (by decide) ?_
          exact j_114 (1) ⟨by omega, by omega⟩ (f9_46) ⟨by omega, by omega⟩ (f9_46) ⟨by omega, by omega⟩ (0) ⟨by omega, by omega⟩ (by first | omega | assumption) (by first | omega | assumption) (by first | omega | assumption) (by first | omega | assumption) (by first | omega | assumption) (by first | omega | assumption) (by first | omega | assumption) _ _ hW hs152 hs153 hs154 hs155 hs156 hs157 _ (lv_sub hl [0] rfl)
      · refine tf_if_eq (tgt := 94) hx hb ⟨by decide, by decide⟩ dX10_next_87 (by decide) (fun h162 => ?_) (fun h162 => ?_)
        · refine lv_aload_n hx hb dX10_next_94 rfl (lv_at hl 0 rfl) ?_
          refine tf_get hx hb hts inlX10 hown hK (ci := 10) rfl hW ha0 rfl 7 rfl (by decide) (hts _ fl_X10_23) dX10_next_95 (fun v163 hv163 hsv163 => ?_)
          obtain rfl : v163 = .ref tp := Option.some.inj (hsv163.symm.trans hs153)
          refine lv_aload_n hx hb dX10_next_98 rfl (lv_at hl 0 rfl) ?_
          refine tf_get hx hb hts inlX10 hown hK (ci := 10) rfl hW ha0 rfl 9 rfl (by decide) (hts _ fl_X10_207) dX10_next_99 (fun v164 hv164 hsv164 => ?_)
          obtain rfl : v164 = .int (Int32.ofInt f9_46) := Option.some.inj (hsv164.symm.trans hs155)
          refine tf_iald (t0 := 0) hx hb hK hW htp rfl rfl (by omega) (by omega) dX10_next_102 (fun v165 hv165 hsv165 => ?_)
          obtain ⟨z166, rfl, hz166⟩ := tf_v0 hv165
          have er167 : rt f9_46 = z166 := hs154 ▸ tf_rw_of (by omega) hsv165 ⟨by omega, by omega⟩
          refine tf_calli (va_runS (As := [.int (Int32.ofInt z166)]) (rest := [.ref a0]) ⟨hx, hb, hml, hown, hts⟩ (c_X10_isDigit l g T (z166) ⟨by omega, by omega⟩) ⟨callB_of 1 hts (gw_ws cm_X10_isDigit) rfl rfl rfl (hts _ (tw1 (i := 5) rfl)) (hts _ (tw28 (i := 12) rfl)) hd_X10_isDigit.2 ⟨Nat.le_trans (by decide) hR1, Nat.le_trans (by decide) hR2⟩, hts _ (tw28 (i := 13) rfl)⟩ (tf_preS hk hW trivial) rfl rfl hl.1 rfl (lv_room (Nat.le_of_ble_eq_true rfl)) dX10_next_103 ⟨Nat.zero_le _, Nat.zero_le _⟩) hW (by decide) (fun z168 H168 locs168 hW hF168 hp168 => ?_)
          have hs169 := tf_keepF hF168 ha0 rfl rfl (by decide) hs152
          have hs170 := tf_keepF hF168 ha0 rfl rfl (by decide) hs153
          have hs171 := tf_keepC hF168 htp rfl (by decide) hs154
          have hs172 := tf_keepF hF168 ha0 rfl rfl (by decide) hs155
          have hs173 := tf_keepF hF168 ha0 rfl rfl (by decide) hs156
          have hs174 := tf_keepF hF168 ha0 rfl rfl (by decide) hs157
          rcases hp168 with ⟨rfl, h175, h176⟩ | ⟨rfl, h177⟩
          · refine tf_if_eq (tgt := 113) hx hb ⟨by decide, by decide⟩ dX10_next_106 (by decide) (fun h178 => ?_) (fun h178 => ?_)
            · exfalso; omega
            · refine tf_iconst hx hb dX10_next_109 ?_
              refine lv_goto (tgt := 114) hx hb dX10_next_110 (by decide) ?_
              exact j_114 (2) ⟨by omega, by omega⟩ (f9_46) ⟨by omega, by omega⟩ (f9_46) ⟨by omega, by omega⟩ (0) ⟨by omega, by omega⟩ (by first | omega | assumption) (by first | omega | assumption) (by first | omega | assumption) (by first | omega | assumption) (by first | omega | assumption) (by first | omega | assumption) (by first | omega | assumption) _ _ hW hs169 hs170 hs171 hs172 hs173 hs174 _ (lv_sub hl [0] rfl)
          · refine tf_if_eq (tgt := 113) hx hb ⟨by decide, by decide⟩ dX10_next_106 (by decide) (fun h179 => ?_) (fun h179 => ?_)
            · refine tf_iconst hx hb dX10_next_113 ?_
              exact j_114 (3) ⟨by omega, by omega⟩ (f9_46) ⟨by omega, by omega⟩ (f9_46) ⟨by omega, by omega⟩ (0) ⟨by omega, by omega⟩ (by first | omega | assumption) (by first | omega | assumption) (by first | omega | assumption) (by first | omega | assumption) (by first | omega | assumption) (by first | omega | assumption) (by first | omega | assumption) _ _ hW hs169 hs170 hs171 hs172 hs173 hs174 _ (lv_sub hl [0] rfl)
            · exfalso; omega
        · exfalso; omega
    · refine tf_iconst hx hb dX10_next_71 ?_
      refine lv_goto (tgt := 114) hx hb dX10_next_72 (by decide) ?_
      exact j_114 (0) ⟨by omega, by omega⟩ (f9_46) ⟨by omega, by omega⟩ (f9_46) ⟨by omega, by omega⟩ (0) ⟨by omega, by omega⟩ (by first | omega | assumption) (by first | omega | assumption) (by first | omega | assumption) (by first | omega | assumption) (by first | omega | assumption) (by first | omega | assumption) (by first | omega | assumption) _ _ hW hs138 hs139 hs140 hs141 hs142 hs137 _ (lv_sub hl [0] rfl)
  have j_8 : ∀ (n_8 : Nat), ∀ (f9_8 : Int), 0 ≤ f9_8 ∧ f9_8 ≤ 400 → (gt ≤ f9_8) → (f9_8 ≤ gn) → (gn - f9_8 + 1 ≤ (n_8 : Int)) → ∀ (H : Heap) (locs : List Loc), tf_n tf_kt g M_X10_next T s.heap T H locs → tf_s H a0 (g.1.2 10 8) = some (.int (Int32.ofInt gn)) → tf_s H a0 (g.1.2 10 7) = some (.ref tp) → tf_rw H tp = rt → tf_s H a0 (g.1.2 10 9) = some (.int (Int32.ofInt f9_8)) → ∀ (ls : Array Slot), lv_has ls 1 [(0, .ref a0)] → W p l e R s m args below meth c H locs 0 0 Q (F0 m 8 ls []) := by
    intro n_8
    induction n_8 with
    | zero =>
      intro f9_8 hf9_8 hi0_8 hi1_8 hm_8
      exfalso; omega
    | succ n_8 ih_8 =>
      intro f9_8 hf9_8 hi0_8 hi1_8 hm_8 H locs hW hs8_8 hs7_8 hcTPM_8 hs9_8 ls hl
      refine lv_aload_n hx hb dX10_next_8 rfl (lv_at hl 0 rfl) ?_
      refine tf_get hx hb hts inlX10 hown hK (ci := 10) rfl hW ha0 rfl 9 rfl (by decide) (hts _ fl_X10_207) dX10_next_9 (fun v180 hv180 hsv180 => ?_)
      obtain rfl : v180 = .int (Int32.ofInt f9_8) := Option.some.inj (hsv180.symm.trans hs9_8)
      refine lv_aload_n hx hb dX10_next_12 rfl (lv_at hl 0 rfl) ?_
      refine tf_get hx hb hts inlX10 hown hK (ci := 10) rfl hW ha0 rfl 8 rfl (by decide) (hts _ fl_X10_183) dX10_next_13 (fun v181 hv181 hsv181 => ?_)
      obtain rfl : v181 = .int (Int32.ofInt gn) := Option.some.inj (hsv181.symm.trans hs8_8)
      refine tf_icmp_ge (tgt := 46) hx hb ⟨by omega, by omega⟩ ⟨by omega, by omega⟩ dX10_next_16 (by decide) (fun h182 => ?_) (fun h182 => ?_)
      · exact j_46 (f9_8) ⟨by omega, by omega⟩ (by first | omega | assumption) (by first | omega | assumption) _ _ hW hs8_8 hs7_8 hcTPM_8 hs9_8 _ (lv_sub hl [0] rfl)
      · refine lv_aload_n hx hb dX10_next_19 rfl (lv_at hl 0 rfl) ?_
        refine tf_get hx hb hts inlX10 hown hK (ci := 10) rfl hW ha0 rfl 7 rfl (by decide) (hts _ fl_X10_23) dX10_next_20 (fun v183 hv183 hsv183 => ?_)
        obtain rfl : v183 = .ref tp := Option.some.inj (hsv183.symm.trans hs7_8)
        refine lv_aload_n hx hb dX10_next_23 rfl (lv_at hl 0 rfl) ?_
        refine tf_get hx hb hts inlX10 hown hK (ci := 10) rfl hW ha0 rfl 9 rfl (by decide) (hts _ fl_X10_207) dX10_next_24 (fun v184 hv184 hsv184 => ?_)
        obtain rfl : v184 = .int (Int32.ofInt f9_8) := Option.some.inj (hsv184.symm.trans hs9_8)
        refine tf_iald (t0 := 0) hx hb hK hW htp rfl rfl (by omega) (by omega) dX10_next_27 (fun v185 hv185 hsv185 => ?_)
        obtain ⟨z186, rfl, hz186⟩ := tf_v0 hv185
        have er187 : rt f9_8 = z186 := hcTPM_8 ▸ tf_rw_of (by omega) hsv185 ⟨by omega, by omega⟩
        refine tf_bipush hx hb dX10_next_28 (by decide) ?_
        refine tf_icmp_ne (tgt := 46) hx hb ⟨by omega, by omega⟩ ⟨by decide, by decide⟩ dX10_next_30 (by decide) (fun h188 => ?_) (fun h188 => ?_)
        · exact j_46 (f9_8) ⟨by omega, by omega⟩ (by first | omega | assumption) (by first | omega | assumption) _ _ hW hs8_8 hs7_8 hcTPM_8 hs9_8 _ (lv_sub hl [0] rfl)
        · refine lv_aload_n hx hb dX10_next_33 rfl (lv_at hl 0 rfl) ?_
          refine lv_dup hx hb dX10_next_34 rfl ?_
          refine tf_get hx hb hts inlX10 hown hK (ci := 10) rfl hW ha0 rfl 9 rfl (by decide) (hts _ fl_X10_207) dX10_next_35 (fun v189 hv189 hsv189 => ?_)
          obtain rfl : v189 = .int (Int32.ofInt f9_8) := Option.some.inj (hsv189.symm.trans hs9_8)
          refine tf_iconst hx hb dX10_next_38 ?_
          refine tf_iadd hx hb dX10_next_39 ?_
          refine tf_put hx hb hts inlX10 tyX10 tyX10_ok nmX10 hown hK (ci := 10) rfl hW ha0 rfl rfl 9 rfl (by decide) (by decide) (hts _ fl_X10_207) rfl (tf_u0 (by omega) (by omega)) rfl rfl dX10_next_40 (fun H190 locs190 hW hs190 ht190 hq190 => ?_)
          have hs191 := (ht190 8 (by decide) (by decide)).trans hs8_8
          have hs192 := (ht190 7 (by decide) (by decide)).trans hs7_8
          have hs193 := tf_keepCQ hcTPM_8 (hq190 _ (tf_ne htp ha0 (by decide)))
          refine lv_goto (tgt := 8) hx hb dX10_next_43 (by decide) ?_
          exact ih_8 ((f9_8 + 1)) ⟨by omega, by omega⟩ (by first | omega | assumption) (by first | omega | assumption) (by omega) _ _ hW hs191 hs192 hs193 hs190 _ (lv_sub hl [0] rfl)
  refine tf_enter (As := [.ref a0]) hargs (Nat.le_of_ble_eq_true rfl) (fun ls hl => ?_)
  have hl : lv_has ls 1 [(0, .ref a0)] := hl
  refine lv_aload_n hx hb dX10_next_0 rfl (lv_at hl 0 rfl) ?_
  refine lv_aload_n hx hb dX10_next_1 rfl (lv_at hl 0 rfl) ?_
  refine tf_get hx hb hts inlX10 hown hK (ci := 10) rfl hW ha0 rfl 10 rfl (by decide) (hts _ fl_X10_197) dX10_next_2 (fun v194 hv194 hsv194 => ?_)
  obtain rfl : v194 = .int (Int32.ofInt gt) := Option.some.inj (hsv194.symm.trans he1)
  refine tf_put hx hb hts inlX10 tyX10 tyX10_ok nmX10 hown hK (ci := 10) rfl hW ha0 rfl rfl 9 rfl (by decide) (by decide) (hts _ fl_X10_207) rfl (tf_u0 (by omega) (by omega)) rfl rfl dX10_next_5 (fun H195 locs195 hW hs195 ht195 hq195 => ?_)
  have hs196 := (ht195 8 (by decide) (by decide)).trans he0
  have hs197 := (ht195 10 (by decide) (by decide)).trans he1
  have hs198 := (ht195 7 (by decide) (by decide)).trans hftp
  have hs199 := tf_keepCQ hrt (hq195 _ (tf_ne htp ha0 (by decide)))
  exact j_8 ((gn - gt + 1 : Int)).toNat (gt) ⟨by omega, by omega⟩ (by first | omega | assumption) (by first | omega | assumption) (by omega) _ _ hW hs196 hs198 hs199 hs195 _ (lv_sub hl [0] rfl)

abbrev M_X10_begin : List (Nat × Nat) := [(50, 9), (50, 10), (50, 11), (50, 12), (50, 13), (50, 14)]
set_option maxHeartbeats 4000000 in
set_option maxRecDepth 100000 in
theorem c_X10_begin (l : Launch) (g : tf_G) (T : tf_T) (a0 : Nat) (ha0 : T a0 = some (50, 0)) (gn : Int) (hgn : 0 ≤ gn ∧ gn ≤ 400) : Met l yX10_begin (cd_X10_begin :: wsL_law) ({ frames := 3, cells := 0, slots := 0, locals := 64 }) (tf_P g T [.ref a0] (fun H => tf_s H a0 (g.1.2 10 8) = some (.int (Int32.ofInt gn)))) (tf_Qv g M_X10_begin T (fun _ H => (∃ (gb1 gf1 gt1 gs1 gw1 : Int) , tf_s H a0 (g.1.2 10 14) = some (.int (Int32.ofInt gb1)) ∧ tf_s H a0 (g.1.2 10 9) = some (.int (Int32.ofInt gf1)) ∧ tf_s H a0 (g.1.2 10 10) = some (.int (Int32.ofInt gt1)) ∧ tf_s H a0 (g.1.2 10 11) = some (.int (Int32.ofInt gs1)) ∧ tf_s H a0 (g.1.2 10 12) = some (.long (Int64.ofInt gw1)) ∧ (0 ≤ gb1 ∧ gb1 ≤ 1) ∧ (0 ≤ gf1 ∧ gf1 ≤ 400) ∧ (0 ≤ gt1 ∧ gt1 ≤ 400) ∧ (0 ≤ gs1 ∧ gs1 ≤ 3) ∧ ((-9223372036854775808) ≤ gw1 ∧ gw1 ≤ 9223372036854775807) ∧ (gb1 = 0) ∧ (gf1 ≤ gt1 ∧ gt1 ≤ gn ∧ (gs1 = 0 → gf1 = gn) ∧ (gs1 ≠ 0 → gf1 < gt1) ∧ (gs1 = 1 → 26 < gw1 → gf1 + 2 ≤ gt1))))) 0 0 (fun q => tf_B g ≤ q) := by
  refine Met.ofW (cc := cX10_begin) (maxL := 1) (ret := none) (by decide) rfl ?_
  intro p e s m args below meth c s₁ B hml hv
  obtain ⟨hargs, hk, hW0, hB, hpre⟩ := hv
  have he0 := hpre
  have hx := B.exec
  have hb := B.bytes
  have hr := B.returns
  have hts : ∀ w ∈ wsL_law, w.before args s = true := fun w h => atoms_spec (ws := cd_X10_begin :: wsL_law) B.pre w (List.mem_cons_of_mem _ h)
  have hown : s.vm.findClass RX10 = some m.cls := findClass_of_methodNamed B.named
  have hlocks := B.notSynchronized
  have hK := hk.1
  have hW := tf_n.start (M := M_X10_begin) hW0 hB
  obtain ⟨Q, hQ⟩ : ∃ q, q = MQ below (tf_Qv g M_X10_begin T (fun _ H => (∃ (gb1 gf1 gt1 gs1 gw1 : Int) , tf_s H a0 (g.1.2 10 14) = some (.int (Int32.ofInt gb1)) ∧ tf_s H a0 (g.1.2 10 9) = some (.int (Int32.ofInt gf1)) ∧ tf_s H a0 (g.1.2 10 10) = some (.int (Int32.ofInt gt1)) ∧ tf_s H a0 (g.1.2 10 11) = some (.int (Int32.ofInt gs1)) ∧ tf_s H a0 (g.1.2 10 12) = some (.long (Int64.ofInt gw1)) ∧ (0 ≤ gb1 ∧ gb1 ≤ 1) ∧ (0 ≤ gf1 ∧ gf1 ≤ 400) ∧ (0 ≤ gt1 ∧ gt1 ≤ 400) ∧ (0 ≤ gs1 ∧ gs1 ≤ 3) ∧ ((-9223372036854775808) ≤ gw1 ∧ gw1 ≤ 9223372036854775807) ∧ (gb1 = 0) ∧ (gf1 ≤ gt1 ∧ gt1 ≤ gn ∧ (gs1 = 0 → gf1 = gn) ∧ (gs1 ≠ 0 → gf1 < gt1) ∧ (gs1 = 1 → 26 < gw1 → gf1 + 2 ≤ gt1))))) args s 0 0 (fun q => tf_B g ≤ q) := ⟨_, rfl⟩
  rw [← hQ]
  obtain ⟨R, hR⟩ : ∃ q, q = (headSpec (cd_X10_begin :: wsL_law) ({ frames := 3, cells := 0, slots := 0, locals := 64 })).room := ⟨_, rfl⟩
  rw [← hR]
  have hR1 : 3 ≤ R.frames := by rw [hR]; exact Nat.le_refl _
  have hR2 : 64 ≤ R.locals := by rw [hR]; exact Nat.le_refl _
  have hR3 : 0 ≤ R.cells := by rw [hR]; exact Nat.le_refl _
  have hR4 : 0 ≤ R.slots := by rw [hR]; exact Nat.le_refl _
  have hin := (name_of_methodNamed B.named B.method).1
  clear hR B
  refine tf_enter (As := [.ref a0]) hargs (Nat.le_of_ble_eq_true rfl) (fun ls hl => ?_)
  have hl : lv_has ls 1 [(0, .ref a0)] := hl
  refine lv_aload_n hx hb dX10_begin_0 rfl (lv_at hl 0 rfl) ?_
  refine tf_iconst hx hb dX10_begin_1 ?_
  refine tf_put hx hb hts inlX10 tyX10 tyX10_ok nmX10 hown hK (ci := 10) rfl hW ha0 rfl rfl 10 rfl (by decide) (by decide) (hts _ fl_X10_197) rfl (tf_u0 (by omega) (by omega)) rfl rfl dX10_begin_2 (fun H1 locs1 hW hs1 ht1 hq1 => ?_)
  have hs2 := (ht1 8 (by decide) (by decide)).trans he0
  refine lv_aload_n hx hb dX10_begin_5 rfl (lv_at hl 0 rfl) ?_
  refine tf_iconst hx hb dX10_begin_6 ?_
  refine tf_put hx hb hts inlX10 tyX10 tyX10_ok nmX10 hown hK (ci := 10) rfl hW ha0 rfl rfl 14 rfl (by decide) (by decide) (hts _ fl_X10_200) rfl (tf_u0 (by omega) (by omega)) (tf_narZ (by omega)) (tf_fitZ (by omega)) dX10_begin_7 (fun H3 locs3 hW hs3 ht3 hq3 => ?_)
  have hs4 := (ht3 8 (by decide) (by decide)).trans hs2
  have hs5 := (ht3 10 (by decide) (by decide)).trans hs1
  refine lv_aload_n hx hb dX10_begin_10 rfl (lv_at hl 0 rfl) ?_
  refine tf_iconst hx hb dX10_begin_11 ?_
  refine tf_put hx hb hts inlX10 tyX10 tyX10_ok nmX10 hown hK (ci := 10) rfl hW ha0 rfl rfl 13 rfl (by decide) (by decide) (hts _ fl_X10_26) rfl (tf_u0 (by omega) (by omega)) rfl rfl dX10_begin_12 (fun H6 locs6 hW hs6 ht6 hq6 => ?_)
  have hs7 := (ht6 8 (by decide) (by decide)).trans hs4
  have hs8 := (ht6 10 (by decide) (by decide)).trans hs5
  have hs9 := (ht6 14 (by decide) (by decide)).trans hs3
  refine lv_aload_n hx hb dX10_begin_15 rfl (lv_at hl 0 rfl) ?_
  refine tf_callv (va_runV (As := []) (rest := []) ⟨hx, hb, hml, hown, hts⟩ (c_X10_next l g T a0 ha0 (gn) ⟨by omega, by omega⟩ (0) ⟨by omega, by omega⟩ (by first | omega | assumption)) (cwV 0 hts gv_X10_204 rfl rfl rfl hd_X10_next ⟨Nat.le_trans (by decide) hR1, Nat.le_trans (by decide) hR2⟩) (tf_preV hk hW ha0 (ci := 10) rfl rfl ⟨hs7, hs8⟩) rfl rfl hl.1 rfl (lv_room (Nat.le_of_ble_eq_true rfl)) dX10_begin_16 ⟨Nat.zero_le _, Nat.zero_le _⟩) hW (by decide) (fun H10 locs10 hW hF10 hp10 => ?_)
  have hs11 := tf_keepF hF10 ha0 rfl rfl (by decide) hs7
  have hs12 := tf_keepF hF10 ha0 rfl rfl (by decide) hs9
  obtain ⟨gf1_10, gt1_10, gs1_10, gw1_10, hX10_0, hX10_1, hX10_2, hX10_3, hB10_0, hB10_1, hB10_2, hB10_3, hR10_0, hR10_1⟩ := hp10
  exact tf_retv hx hb hr hlocks hQ hW ⟨(0), (gf1_10), (gt1_10), (gs1_10), (gw1_10), hs12, hX10_0, hX10_1, hX10_2, hX10_3, ⟨by omega, by omega⟩, ⟨by omega, by omega⟩, ⟨by omega, by omega⟩, ⟨by omega, by omega⟩, ⟨by omega, by omega⟩, (by first | omega | assumption), (by first | omega | assumption)⟩ dX10_begin_19

abbrev M_X10_must : List (Nat × Nat) := [(50, 9), (50, 10), (50, 11), (50, 12), (50, 13), (50, 14)]
set_option maxHeartbeats 4000000 in
set_option maxRecDepth 100000 in
theorem c_X10_must (l : Launch) (g : tf_G) (T : tf_T) (a0 : Nat) (ha0 : T a0 = some (50, 0)) (x1 : Int) (hp1 : 0 ≤ x1 ∧ x1 ≤ 1) (gn : Int) (hgn : 0 ≤ gn ∧ gn ≤ 400) (gf : Int) (hgf : 0 ≤ gf ∧ gf ≤ 400) (gt : Int) (hgt : 0 ≤ gt ∧ gt ≤ 400) (gs : Int) (hgs : 0 ≤ gs ∧ gs ≤ 3) (gw : Int) (hgw : (-9223372036854775808) ≤ gw ∧ gw ≤ 9223372036854775807) (gb : Int) (hgb : 0 ≤ gb ∧ gb ≤ 1) (hq0 : (gt ≤ gn)) : Met l yX10_must (cd_X10_must :: wsL_law) ({ frames := 3, cells := 0, slots := 0, locals := 64 }) (tf_P g T [.ref a0, .int (Int32.ofInt x1)] (fun H => tf_s H a0 (g.1.2 10 8) = some (.int (Int32.ofInt gn)) ∧ tf_s H a0 (g.1.2 10 9) = some (.int (Int32.ofInt gf)) ∧ tf_s H a0 (g.1.2 10 10) = some (.int (Int32.ofInt gt)) ∧ tf_s H a0 (g.1.2 10 11) = some (.int (Int32.ofInt gs)) ∧ tf_s H a0 (g.1.2 10 12) = some (.long (Int64.ofInt gw)) ∧ tf_s H a0 (g.1.2 10 14) = some (.int (Int32.ofInt gb)))) (tf_Qv g M_X10_must T (fun _ H => (∃ (gb1 gf1 gt1 gs1 gw1 : Int) , tf_s H a0 (g.1.2 10 14) = some (.int (Int32.ofInt gb1)) ∧ tf_s H a0 (g.1.2 10 9) = some (.int (Int32.ofInt gf1)) ∧ tf_s H a0 (g.1.2 10 10) = some (.int (Int32.ofInt gt1)) ∧ tf_s H a0 (g.1.2 10 11) = some (.int (Int32.ofInt gs1)) ∧ tf_s H a0 (g.1.2 10 12) = some (.long (Int64.ofInt gw1)) ∧ (0 ≤ gb1 ∧ gb1 ≤ 1) ∧ (0 ≤ gf1 ∧ gf1 ≤ 400) ∧ (0 ≤ gt1 ∧ gt1 ≤ 400) ∧ (0 ≤ gs1 ∧ gs1 ≤ 3) ∧ ((-9223372036854775808) ≤ gw1 ∧ gw1 ≤ 9223372036854775807) ∧ ((gb1 = 0 ∧ gb = 0 ∧ x1 = 1 ∧ gt ≤ gf1 ∧ gf1 ≤ gt1 ∧ gt1 ≤ gn ∧ (gs1 = 0 → gf1 = gn) ∧ (gs1 ≠ 0 → gf1 < gt1) ∧ (gs1 = 1 → 26 < gw1 → gf1 + 2 ≤ gt1)) ∨ (gb1 = 1 ∧ gf1 = gf ∧ gt1 = gt ∧ gs1 = gs ∧ gw1 = gw))))) 0 0 (fun q => tf_B g ≤ q) := by
  refine Met.ofW (cc := cX10_must) (maxL := 2) (ret := none) (by decide) rfl ?_
  intro p e s m args below meth c s₁ B hml hv
  obtain ⟨hargs, hk, hW0, hB, hpre⟩ := hv
  obtain ⟨he0, he1, he2, he3, he4, he5⟩ := hpre
  have hx := B.exec
  have hb := B.bytes
  have hr := B.returns
  have hts : ∀ w ∈ wsL_law, w.before args s = true := fun w h => atoms_spec (ws := cd_X10_must :: wsL_law) B.pre w (List.mem_cons_of_mem _ h)
  have hown : s.vm.findClass RX10 = some m.cls := findClass_of_methodNamed B.named
  have hlocks := B.notSynchronized
  have hK := hk.1
  have hW := tf_n.start (M := M_X10_must) hW0 hB
  obtain ⟨Q, hQ⟩ : ∃ q, q = MQ below (tf_Qv g M_X10_must T (fun _ H => (∃ (gb1 gf1 gt1 gs1 gw1 : Int) , tf_s H a0 (g.1.2 10 14) = some (.int (Int32.ofInt gb1)) ∧ tf_s H a0 (g.1.2 10 9) = some (.int (Int32.ofInt gf1)) ∧ tf_s H a0 (g.1.2 10 10) = some (.int (Int32.ofInt gt1)) ∧ tf_s H a0 (g.1.2 10 11) = some (.int (Int32.ofInt gs1)) ∧ tf_s H a0 (g.1.2 10 12) = some (.long (Int64.ofInt gw1)) ∧ (0 ≤ gb1 ∧ gb1 ≤ 1) ∧ (0 ≤ gf1 ∧ gf1 ≤ 400) ∧ (0 ≤ gt1 ∧ gt1 ≤ 400) ∧ (0 ≤ gs1 ∧ gs1 ≤ 3) ∧ ((-9223372036854775808) ≤ gw1 ∧ gw1 ≤ 9223372036854775807) ∧ ((gb1 = 0 ∧ gb = 0 ∧ x1 = 1 ∧ gt ≤ gf1 ∧ gf1 ≤ gt1 ∧ gt1 ≤ gn ∧ (gs1 = 0 → gf1 = gn) ∧ (gs1 ≠ 0 → gf1 < gt1) ∧ (gs1 = 1 → 26 < gw1 → gf1 + 2 ≤ gt1)) ∨ (gb1 = 1 ∧ gf1 = gf ∧ gt1 = gt ∧ gs1 = gs ∧ gw1 = gw))))) args s 0 0 (fun q => tf_B g ≤ q) := ⟨_, rfl⟩
  rw [← hQ]
  obtain ⟨R, hR⟩ : ∃ q, q = (headSpec (cd_X10_must :: wsL_law) ({ frames := 3, cells := 0, slots := 0, locals := 64 })).room := ⟨_, rfl⟩
  rw [← hR]
  have hR1 : 3 ≤ R.frames := by rw [hR]; exact Nat.le_refl _
  have hR2 : 64 ≤ R.locals := by rw [hR]; exact Nat.le_refl _
  have hR3 : 0 ≤ R.cells := by rw [hR]; exact Nat.le_refl _
  have hR4 : 0 ≤ R.slots := by rw [hR]; exact Nat.le_refl _
  have hin := (name_of_methodNamed B.named B.method).1
  clear hR B
  refine tf_enter (As := [.ref a0, .int (Int32.ofInt x1)]) hargs (Nat.le_of_ble_eq_true rfl) (fun ls hl => ?_)
  have hl : lv_has ls 2 [(0, .ref a0), (1, .int (Int32.ofInt x1))] := hl
  refine lv_aload_n hx hb dX10_must_0 rfl (lv_at hl 0 rfl) ?_
  refine tf_get hx hb hts inlX10 hown hK (ci := 10) rfl hW ha0 rfl 14 rfl (by decide) (hts _ fl_X10_200) dX10_must_1 (fun v1 hv1 hsv1 => ?_)
  obtain rfl : v1 = .int (Int32.ofInt gb) := Option.some.inj (hsv1.symm.trans he5)
  refine tf_if_ne (tgt := 24) hx hb ⟨by omega, by omega⟩ dX10_must_4 (by decide) (fun h2 => ?_) (fun h2 => ?_)
  · refine lv_aload_n hx hb dX10_must_24 rfl (lv_at hl 0 rfl) ?_
    refine tf_get hx hb hts inlX10 hown hK (ci := 10) rfl hW ha0 rfl 14 rfl (by decide) (hts _ fl_X10_200) dX10_must_25 (fun v3 hv3 hsv3 => ?_)
    obtain rfl : v3 = .int (Int32.ofInt gb) := Option.some.inj (hsv3.symm.trans he5)
    refine tf_if_ne (tgt := 35) hx hb ⟨by omega, by omega⟩ dX10_must_28 (by decide) (fun h4 => ?_) (fun h4 => ?_)
    · exact tf_retv hx hb hr hlocks hQ hW ⟨(gb), (gf), (gt), (gs), (gw), he5, he1, he2, he3, he4, ⟨by omega, by omega⟩, ⟨by omega, by omega⟩, ⟨by omega, by omega⟩, ⟨by omega, by omega⟩, ⟨by omega, by omega⟩, (by first | omega | assumption)⟩ dX10_must_35
    · exfalso; omega
  · refine lv_iload_n hx hb dX10_must_7 rfl (lv_at hl 1 rfl) ?_
    refine tf_if_ne (tgt := 24) hx hb ⟨by omega, by omega⟩ dX10_must_8 (by decide) (fun h5 => ?_) (fun h5 => ?_)
    · refine lv_aload_n hx hb dX10_must_24 rfl (lv_at hl 0 rfl) ?_
      refine tf_get hx hb hts inlX10 hown hK (ci := 10) rfl hW ha0 rfl 14 rfl (by decide) (hts _ fl_X10_200) dX10_must_25 (fun v6 hv6 hsv6 => ?_)
      obtain rfl : v6 = .int (Int32.ofInt gb) := Option.some.inj (hsv6.symm.trans he5)
      refine tf_if_ne (tgt := 35) hx hb ⟨by omega, by omega⟩ dX10_must_28 (by decide) (fun h7 => ?_) (fun h7 => ?_)
      · exfalso; omega
      · refine lv_aload_n hx hb dX10_must_31 rfl (lv_at hl 0 rfl) ?_
        refine tf_callv (va_runV (As := []) (rest := []) ⟨hx, hb, hml, hown, hts⟩ (c_X10_next l g T a0 ha0 (gn) ⟨by omega, by omega⟩ (gt) ⟨by omega, by omega⟩ (by first | omega | assumption)) (cwV 0 hts gv_X10_204 rfl rfl rfl hd_X10_next ⟨Nat.le_trans (by decide) hR1, Nat.le_trans (by decide) hR2⟩) (tf_preV hk hW ha0 (ci := 10) rfl rfl ⟨he0, he2⟩) rfl rfl hl.1 rfl (lv_room (Nat.le_of_ble_eq_true rfl)) dX10_must_32 ⟨Nat.zero_le _, Nat.zero_le _⟩) hW (by decide) (fun H8 locs8 hW hF8 hp8 => ?_)
        have hs9 := tf_keepF hF8 ha0 rfl rfl (by decide) he0
        have hs10 := tf_keepF hF8 ha0 rfl rfl (by decide) he5
        obtain ⟨gf1_8, gt1_8, gs1_8, gw1_8, hX8_0, hX8_1, hX8_2, hX8_3, hB8_0, hB8_1, hB8_2, hB8_3, hR8_0, hR8_1⟩ := hp8
        exact tf_retv hx hb hr hlocks hQ hW ⟨(gb), (gf1_8), (gt1_8), (gs1_8), (gw1_8), hs10, hX8_0, hX8_1, hX8_2, hX8_3, ⟨by omega, by omega⟩, ⟨by omega, by omega⟩, ⟨by omega, by omega⟩, ⟨by omega, by omega⟩, ⟨by omega, by omega⟩, (by first | omega | assumption)⟩ dX10_must_35
    · refine lv_aload_n hx hb dX10_must_11 rfl (lv_at hl 0 rfl) ?_
      refine tf_iconst hx hb dX10_must_12 ?_
      refine tf_put hx hb hts inlX10 tyX10 tyX10_ok nmX10 hown hK (ci := 10) rfl hW ha0 rfl rfl 14 rfl (by decide) (by decide) (hts _ fl_X10_200) rfl (tf_u0 (by omega) (by omega)) (tf_narZ (by omega)) (tf_fitZ (by omega)) dX10_must_13 (fun H11 locs11 hW hs11 ht11 hq11 => ?_)
      have hs12 := (ht11 8 (by decide) (by decide)).trans he0
      have hs13 := (ht11 9 (by decide) (by decide)).trans he1
      have hs14 := (ht11 10 (by decide) (by decide)).trans he2
      have hs15 := (ht11 11 (by decide) (by decide)).trans he3
      have hs16 := (ht11 12 (by decide) (by decide)).trans he4
      refine lv_aload_n hx hb dX10_must_16 rfl (lv_at hl 0 rfl) ?_
      refine lv_aload_n hx hb dX10_must_17 rfl (lv_at hl 0 rfl) ?_
      refine tf_get hx hb hts inlX10 hown hK (ci := 10) rfl hW ha0 rfl 9 rfl (by decide) (hts _ fl_X10_207) dX10_must_18 (fun v17 hv17 hsv17 => ?_)
      obtain rfl : v17 = .int (Int32.ofInt gf) := Option.some.inj (hsv17.symm.trans hs13)
      refine tf_put hx hb hts inlX10 tyX10 tyX10_ok nmX10 hown hK (ci := 10) rfl hW ha0 rfl rfl 13 rfl (by decide) (by decide) (hts _ fl_X10_26) rfl (tf_u0 (by omega) (by omega)) rfl rfl dX10_must_21 (fun H18 locs18 hW hs18 ht18 hq18 => ?_)
      have hs19 := (ht18 8 (by decide) (by decide)).trans hs12
      have hs20 := (ht18 9 (by decide) (by decide)).trans hs13
      have hs21 := (ht18 10 (by decide) (by decide)).trans hs14
      have hs22 := (ht18 11 (by decide) (by decide)).trans hs15
      have hs23 := (ht18 12 (by decide) (by decide)).trans hs16
      have hs24 := (ht18 14 (by decide) (by decide)).trans hs11
      refine lv_aload_n hx hb dX10_must_24 rfl (lv_at hl 0 rfl) ?_
      refine tf_get hx hb hts inlX10 hown hK (ci := 10) rfl hW ha0 rfl 14 rfl (by decide) (hts _ fl_X10_200) dX10_must_25 (fun v25 hv25 hsv25 => ?_)
      obtain rfl : v25 = .int (Int32.ofInt 1) := Option.some.inj (hsv25.symm.trans hs24)
      refine tf_if_ne (tgt := 35) hx hb ⟨by decide, by decide⟩ dX10_must_28 (by decide) (fun h26 => ?_) (fun h26 => ?_)
      · exact tf_retv hx hb hr hlocks hQ hW ⟨(1), (gf), (gt), (gs), (gw), hs24, hs20, hs21, hs22, hs23, ⟨by omega, by omega⟩, ⟨by omega, by omega⟩, ⟨by omega, by omega⟩, ⟨by omega, by omega⟩, ⟨by omega, by omega⟩, (by first | omega | assumption)⟩ dX10_must_35
      · exfalso; omega

abbrev M_X10_emit : List (Nat × Nat) := [(33, 0), (34, 0), (50, 17)]
set_option maxHeartbeats 4000000 in
set_option maxRecDepth 100000 in
theorem c_X10_emit (l : Launch) (g : tf_G) (T : tf_T) (a0 : Nat) (ha0 : T a0 = some (50, 0)) (x1 : Int) (hp1 : (-2147483648) ≤ x1 ∧ x1 ≤ 2147483647) (x2 : Int) (hp2 : (-2147483648) ≤ x2 ∧ x2 ≤ 2147483647) (qop : Nat) (hqop : T qop = some (33, 400)) (qar : Nat) (hqar : T qar = some (34, 400)) (gc : Int) (hgc : 0 ≤ gc ∧ gc ≤ 399) (rop : Int → Int) (rar : Int → Int) : Met l yX10_emit (cd_X10_emit :: wsL_law) ({ frames := 1, cells := 0, slots := 0, locals := 24 }) (tf_P g T [.ref a0, .int (Int32.ofInt x1), .int (Int32.ofInt x2)] (fun H => tf_s H a0 (g.1.2 10 18) = some (.ref qop) ∧ tf_s H a0 (g.1.2 10 19) = some (.ref qar) ∧ tf_s H a0 (g.1.2 10 17) = some (.int (Int32.ofInt gc)) ∧ tf_rw H qop = rop ∧ tf_rw H qar = rar)) (tf_Qv g M_X10_emit T (fun _ H => tf_s H a0 (g.1.2 10 17) = some (.int (Int32.ofInt (gc + 1))) ∧ tf_rw H qop = tf_up rop gc x1 ∧ tf_rw H qar = tf_up rar gc x2)) 0 0 (fun q => tf_B g ≤ q) := by
  refine Met.ofW (cc := cX10_emit) (maxL := 3) (ret := none) (by decide) rfl ?_
  intro p e s m args below meth c s₁ B hml hv
  obtain ⟨hargs, hk, hW0, hB, hpre⟩ := hv
  obtain ⟨he0, he1, he2, he3, he4⟩ := hpre
  have hx := B.exec
  have hb := B.bytes
  have hr := B.returns
  have hts : ∀ w ∈ wsL_law, w.before args s = true := fun w h => atoms_spec (ws := cd_X10_emit :: wsL_law) B.pre w (List.mem_cons_of_mem _ h)
  have hown : s.vm.findClass RX10 = some m.cls := findClass_of_methodNamed B.named
  have hlocks := B.notSynchronized
  have hK := hk.1
  have hW := tf_n.start (M := M_X10_emit) hW0 hB
  obtain ⟨Q, hQ⟩ : ∃ q, q = MQ below (tf_Qv g M_X10_emit T (fun _ H => tf_s H a0 (g.1.2 10 17) = some (.int (Int32.ofInt (gc + 1))) ∧ tf_rw H qop = tf_up rop gc x1 ∧ tf_rw H qar = tf_up rar gc x2)) args s 0 0 (fun q => tf_B g ≤ q) := ⟨_, rfl⟩
  rw [← hQ]
  obtain ⟨R, hR⟩ : ∃ q, q = (headSpec (cd_X10_emit :: wsL_law) ({ frames := 1, cells := 0, slots := 0, locals := 24 })).room := ⟨_, rfl⟩
  rw [← hR]
  have hR1 : 1 ≤ R.frames := by rw [hR]; exact Nat.le_refl _
  have hR2 : 24 ≤ R.locals := by rw [hR]; exact Nat.le_refl _
  have hR3 : 0 ≤ R.cells := by rw [hR]; exact Nat.le_refl _
  have hR4 : 0 ≤ R.slots := by rw [hR]; exact Nat.le_refl _
  have hin := (name_of_methodNamed B.named B.method).1
  clear hR B
  refine tf_enter (As := [.ref a0, .int (Int32.ofInt x1), .int (Int32.ofInt x2)]) hargs (Nat.le_of_ble_eq_true rfl) (fun ls hl => ?_)
  have hl : lv_has ls 3 [(0, .ref a0), (1, .int (Int32.ofInt x1)), (2, .int (Int32.ofInt x2))] := hl
  refine lv_aload_n hx hb dX10_emit_0 rfl (lv_at hl 0 rfl) ?_
  refine tf_get hx hb hts inlX10 hown hK (ci := 10) rfl hW ha0 rfl 18 rfl (by decide) (hts _ fl_X10_33) dX10_emit_1 (fun v1 hv1 hsv1 => ?_)
  obtain rfl : v1 = .ref qop := Option.some.inj (hsv1.symm.trans he0)
  refine lv_aload_n hx hb dX10_emit_4 rfl (lv_at hl 0 rfl) ?_
  refine tf_get hx hb hts inlX10 hown hK (ci := 10) rfl hW ha0 rfl 17 rfl (by decide) (hts _ fl_X10_239) dX10_emit_5 (fun v2 hv2 hsv2 => ?_)
  obtain rfl : v2 = .int (Int32.ofInt gc) := Option.some.inj (hsv2.symm.trans he2)
  refine lv_iload_n hx hb dX10_emit_8 rfl (lv_at hl 1 rfl) ?_
  refine tf_rwst (t0 := 0) hx hb hK hW hqop rfl rfl (by omega) (by omega) (by decide) (tf_u0 (by omega) (by omega)) ⟨by omega, by omega⟩ trivial dX10_emit_9 (fun H3 locs3 hW hu3 hq3 => ?_)
  have hs4 := tf_keepQ he0 (hq3 _ (tf_ne ha0 hqop (by decide)))
  have hs5 := tf_keepQ he1 (hq3 _ (tf_ne ha0 hqop (by decide)))
  have hs6 := tf_keepQ he2 (hq3 _ (tf_ne ha0 hqop (by decide)))
  have hs7 := tf_keepCQ he4 (hq3 _ (tf_ne hqar hqop (by decide)))
  have hu3 := hu3.trans (congrArg (fun w => tf_up w (gc) (x1)) he3)
  refine lv_aload_n hx hb dX10_emit_10 rfl (lv_at hl 0 rfl) ?_
  refine tf_get hx hb hts inlX10 hown hK (ci := 10) rfl hW ha0 rfl 19 rfl (by decide) (hts _ fl_X10_36) dX10_emit_11 (fun v8 hv8 hsv8 => ?_)
  obtain rfl : v8 = .ref qar := Option.some.inj (hsv8.symm.trans hs5)
  refine lv_aload_n hx hb dX10_emit_14 rfl (lv_at hl 0 rfl) ?_
  refine tf_get hx hb hts inlX10 hown hK (ci := 10) rfl hW ha0 rfl 17 rfl (by decide) (hts _ fl_X10_239) dX10_emit_15 (fun v9 hv9 hsv9 => ?_)
  obtain rfl : v9 = .int (Int32.ofInt gc) := Option.some.inj (hsv9.symm.trans hs6)
  refine lv_iload_n hx hb dX10_emit_18 rfl (lv_at hl 2 rfl) ?_
  refine tf_rwst (t0 := 0) hx hb hK hW hqar rfl rfl (by omega) (by omega) (by decide) (tf_u0 (by omega) (by omega)) ⟨by omega, by omega⟩ trivial dX10_emit_19 (fun H10 locs10 hW hu10 hq10 => ?_)
  have hs11 := tf_keepQ hs4 (hq10 _ (tf_ne ha0 hqar (by decide)))
  have hs12 := tf_keepQ hs5 (hq10 _ (tf_ne ha0 hqar (by decide)))
  have hs13 := tf_keepQ hs6 (hq10 _ (tf_ne ha0 hqar (by decide)))
  have hs14 := tf_keepCQ hu3 (hq10 _ (tf_ne hqop hqar (by decide)))
  have hu10 := hu10.trans (congrArg (fun w => tf_up w (gc) (x2)) hs7)
  refine lv_aload_n hx hb dX10_emit_20 rfl (lv_at hl 0 rfl) ?_
  refine lv_dup hx hb dX10_emit_21 rfl ?_
  refine tf_get hx hb hts inlX10 hown hK (ci := 10) rfl hW ha0 rfl 17 rfl (by decide) (hts _ fl_X10_239) dX10_emit_22 (fun v15 hv15 hsv15 => ?_)
  obtain rfl : v15 = .int (Int32.ofInt gc) := Option.some.inj (hsv15.symm.trans hs13)
  refine tf_iconst hx hb dX10_emit_25 ?_
  refine tf_iadd hx hb dX10_emit_26 ?_
  refine tf_put hx hb hts inlX10 tyX10 tyX10_ok nmX10 hown hK (ci := 10) rfl hW ha0 rfl rfl 17 rfl (by decide) (by decide) (hts _ fl_X10_239) rfl (tf_u0 (by omega) (by omega)) rfl rfl dX10_emit_27 (fun H16 locs16 hW hs16 ht16 hq16 => ?_)
  have hs17 := (ht16 18 (by decide) (by decide)).trans hs11
  have hs18 := (ht16 19 (by decide) (by decide)).trans hs12
  have hs19 := tf_keepCQ hs14 (hq16 _ (tf_ne hqop ha0 (by decide)))
  have hs20 := tf_keepCQ hu10 (hq16 _ (tf_ne hqar ha0 (by decide)))
  exact tf_retv hx hb hr hlocks hQ hW ⟨(tf_eqv hs16 (by omega)), hs19, hs20⟩ dX10_emit_30

abbrev M_X10_push : List (Nat × Nat) := [(35, 0), (36, 0), (50, 23)]
set_option maxHeartbeats 4000000 in
set_option maxRecDepth 100000 in
theorem c_X10_push (l : Launch) (g : tf_G) (T : tf_T) (a0 : Nat) (ha0 : T a0 = some (50, 0)) (x1 : Int) (hp1 : (-2147483648) ≤ x1 ∧ x1 ≤ 2147483647) (x2 : Int) (hp2 : (-2147483648) ≤ x2 ∧ x2 ≤ 2147483647) (qpi : Nat) (hqpi : T qpi = some (35, 400)) (qpa : Nat) (hqpa : T qpa = some (36, 400)) (gp : Int) (hgp : 0 ≤ gp ∧ gp ≤ 399) (rpi : Int → Int) (rpa : Int → Int) : Met l yX10_push (cd_X10_push :: wsL_law) ({ frames := 1, cells := 0, slots := 0, locals := 24 }) (tf_P g T [.ref a0, .int (Int32.ofInt x1), .int (Int32.ofInt x2)] (fun H => tf_s H a0 (g.1.2 10 21) = some (.ref qpi) ∧ tf_s H a0 (g.1.2 10 22) = some (.ref qpa) ∧ tf_s H a0 (g.1.2 10 23) = some (.int (Int32.ofInt gp)) ∧ tf_rw H qpi = rpi ∧ tf_rw H qpa = rpa)) (tf_Qv g M_X10_push T (fun _ H => tf_s H a0 (g.1.2 10 23) = some (.int (Int32.ofInt (gp + 1))) ∧ tf_rw H qpi = tf_up rpi gp x1 ∧ tf_rw H qpa = tf_up rpa gp x2)) 0 0 (fun q => tf_B g ≤ q) := by
  refine Met.ofW (cc := cX10_push) (maxL := 3) (ret := none) (by decide) rfl ?_
  intro p e s m args below meth c s₁ B hml hv
  obtain ⟨hargs, hk, hW0, hB, hpre⟩ := hv
  obtain ⟨he0, he1, he2, he3, he4⟩ := hpre
  have hx := B.exec
  have hb := B.bytes
  have hr := B.returns
  have hts : ∀ w ∈ wsL_law, w.before args s = true := fun w h => atoms_spec (ws := cd_X10_push :: wsL_law) B.pre w (List.mem_cons_of_mem _ h)
  have hown : s.vm.findClass RX10 = some m.cls := findClass_of_methodNamed B.named
  have hlocks := B.notSynchronized
  have hK := hk.1
  have hW := tf_n.start (M := M_X10_push) hW0 hB
  obtain ⟨Q, hQ⟩ : ∃ q, q = MQ below (tf_Qv g M_X10_push T (fun _ H => tf_s H a0 (g.1.2 10 23) = some (.int (Int32.ofInt (gp + 1))) ∧ tf_rw H qpi = tf_up rpi gp x1 ∧ tf_rw H qpa = tf_up rpa gp x2)) args s 0 0 (fun q => tf_B g ≤ q) := ⟨_, rfl⟩
  rw [← hQ]
  obtain ⟨R, hR⟩ : ∃ q, q = (headSpec (cd_X10_push :: wsL_law) ({ frames := 1, cells := 0, slots := 0, locals := 24 })).room := ⟨_, rfl⟩
  rw [← hR]
  have hR1 : 1 ≤ R.frames := by rw [hR]; exact Nat.le_refl _
  have hR2 : 24 ≤ R.locals := by rw [hR]; exact Nat.le_refl _
  have hR3 : 0 ≤ R.cells := by rw [hR]; exact Nat.le_refl _
  have hR4 : 0 ≤ R.slots := by rw [hR]; exact Nat.le_refl _
  have hin := (name_of_methodNamed B.named B.method).1
  clear hR B
  refine tf_enter (As := [.ref a0, .int (Int32.ofInt x1), .int (Int32.ofInt x2)]) hargs (Nat.le_of_ble_eq_true rfl) (fun ls hl => ?_)
  have hl : lv_has ls 3 [(0, .ref a0), (1, .int (Int32.ofInt x1)), (2, .int (Int32.ofInt x2))] := hl
  refine lv_aload_n hx hb dX10_push_0 rfl (lv_at hl 0 rfl) ?_
  refine tf_get hx hb hts inlX10 hown hK (ci := 10) rfl hW ha0 rfl 21 rfl (by decide) (hts _ fl_X10_39) dX10_push_1 (fun v1 hv1 hsv1 => ?_)
  obtain rfl : v1 = .ref qpi := Option.some.inj (hsv1.symm.trans he0)
  refine lv_aload_n hx hb dX10_push_4 rfl (lv_at hl 0 rfl) ?_
  refine tf_get hx hb hts inlX10 hown hK (ci := 10) rfl hW ha0 rfl 23 rfl (by decide) (hts _ fl_X10_242) dX10_push_5 (fun v2 hv2 hsv2 => ?_)
  obtain rfl : v2 = .int (Int32.ofInt gp) := Option.some.inj (hsv2.symm.trans he2)
  refine lv_iload_n hx hb dX10_push_8 rfl (lv_at hl 1 rfl) ?_
  refine tf_rwst (t0 := 0) hx hb hK hW hqpi rfl rfl (by omega) (by omega) (by decide) (tf_u0 (by omega) (by omega)) ⟨by omega, by omega⟩ trivial dX10_push_9 (fun H3 locs3 hW hu3 hq3 => ?_)
  have hs4 := tf_keepQ he0 (hq3 _ (tf_ne ha0 hqpi (by decide)))
  have hs5 := tf_keepQ he1 (hq3 _ (tf_ne ha0 hqpi (by decide)))
  have hs6 := tf_keepQ he2 (hq3 _ (tf_ne ha0 hqpi (by decide)))
  have hs7 := tf_keepCQ he4 (hq3 _ (tf_ne hqpa hqpi (by decide)))
  have hu3 := hu3.trans (congrArg (fun w => tf_up w (gp) (x1)) he3)
  refine lv_aload_n hx hb dX10_push_10 rfl (lv_at hl 0 rfl) ?_
  refine tf_get hx hb hts inlX10 hown hK (ci := 10) rfl hW ha0 rfl 22 rfl (by decide) (hts _ fl_X10_42) dX10_push_11 (fun v8 hv8 hsv8 => ?_)
  obtain rfl : v8 = .ref qpa := Option.some.inj (hsv8.symm.trans hs5)
  refine lv_aload_n hx hb dX10_push_14 rfl (lv_at hl 0 rfl) ?_
  refine tf_get hx hb hts inlX10 hown hK (ci := 10) rfl hW ha0 rfl 23 rfl (by decide) (hts _ fl_X10_242) dX10_push_15 (fun v9 hv9 hsv9 => ?_)
  obtain rfl : v9 = .int (Int32.ofInt gp) := Option.some.inj (hsv9.symm.trans hs6)
  refine lv_iload_n hx hb dX10_push_18 rfl (lv_at hl 2 rfl) ?_
  refine tf_rwst (t0 := 0) hx hb hK hW hqpa rfl rfl (by omega) (by omega) (by decide) (tf_u0 (by omega) (by omega)) ⟨by omega, by omega⟩ trivial dX10_push_19 (fun H10 locs10 hW hu10 hq10 => ?_)
  have hs11 := tf_keepQ hs4 (hq10 _ (tf_ne ha0 hqpa (by decide)))
  have hs12 := tf_keepQ hs5 (hq10 _ (tf_ne ha0 hqpa (by decide)))
  have hs13 := tf_keepQ hs6 (hq10 _ (tf_ne ha0 hqpa (by decide)))
  have hs14 := tf_keepCQ hu3 (hq10 _ (tf_ne hqpi hqpa (by decide)))
  have hu10 := hu10.trans (congrArg (fun w => tf_up w (gp) (x2)) hs7)
  refine lv_aload_n hx hb dX10_push_20 rfl (lv_at hl 0 rfl) ?_
  refine lv_dup hx hb dX10_push_21 rfl ?_
  refine tf_get hx hb hts inlX10 hown hK (ci := 10) rfl hW ha0 rfl 23 rfl (by decide) (hts _ fl_X10_242) dX10_push_22 (fun v15 hv15 hsv15 => ?_)
  obtain rfl : v15 = .int (Int32.ofInt gp) := Option.some.inj (hsv15.symm.trans hs13)
  refine tf_iconst hx hb dX10_push_25 ?_
  refine tf_iadd hx hb dX10_push_26 ?_
  refine tf_put hx hb hts inlX10 tyX10 tyX10_ok nmX10 hown hK (ci := 10) rfl hW ha0 rfl rfl 23 rfl (by decide) (by decide) (hts _ fl_X10_242) rfl (tf_u0 (by omega) (by omega)) rfl rfl dX10_push_27 (fun H16 locs16 hW hs16 ht16 hq16 => ?_)
  have hs17 := (ht16 21 (by decide) (by decide)).trans hs11
  have hs18 := (ht16 22 (by decide) (by decide)).trans hs12
  have hs19 := tf_keepCQ hs14 (hq16 _ (tf_ne hqpi ha0 (by decide)))
  have hs20 := tf_keepCQ hu10 (hq16 _ (tf_ne hqpa ha0 (by decide)))
  exact tf_retv hx hb hr hlocks hQ hW ⟨(tf_eqv hs16 (by omega)), hs19, hs20⟩ dX10_push_30

abbrev M_X10_binds : List (Nat × Nat) := []
set_option maxHeartbeats 4000000 in
set_option maxRecDepth 100000 in
theorem c_X10_binds (l : Launch) (g : tf_G) (T : tf_T) (x0 : Int) (hp0 : (-2147483648) ≤ x0 ∧ x0 ≤ 2147483647) : Met l yX10_binds (cd_X10_binds :: wsL_law) ({ frames := 1, cells := 0, slots := 0, locals := 24 }) (tf_P g T [.int (Int32.ofInt x0)] (fun H => True)) (tf_Qi g M_X10_binds T (fun z _ _ => 0 ≤ z ∧ z ≤ 6 ∧ ((30 ≤ x0 ∧ z = 0) ∨ (x0 = 29 ∧ z = 1) ∨ (x0 = 28 ∧ z = 2) ∨ (x0 = 27 ∧ z = 3) ∨ (24 ≤ x0 ∧ x0 ≤ 26 ∧ z = 4) ∨ (22 ≤ x0 ∧ x0 ≤ 23 ∧ z = 6) ∨ (x0 ≤ 21 ∧ z = 5)))) 0 0 (fun q => tf_B g ≤ q) := by
  refine Met.ofW (cc := cX10_binds) (maxL := 1) (ret := (some .int)) (by decide) rfl ?_
  intro p e s m args below meth c s₁ B hml hv
  obtain ⟨hargs, hk, hW0, hB, hpre⟩ := hv
  have hx := B.exec
  have hb := B.bytes
  have hr := B.returns
  have hts : ∀ w ∈ wsL_law, w.before args s = true := fun w h => atoms_spec (ws := cd_X10_binds :: wsL_law) B.pre w (List.mem_cons_of_mem _ h)
  have hown : s.vm.findClass RX10 = some m.cls := findClass_of_methodNamed B.named
  have hlocks := B.notSynchronized
  have hK := hk.1
  have hW := tf_n.start (M := M_X10_binds) hW0 hB
  obtain ⟨Q, hQ⟩ : ∃ q, q = MQ below (tf_Qi g M_X10_binds T (fun z _ _ => 0 ≤ z ∧ z ≤ 6 ∧ ((30 ≤ x0 ∧ z = 0) ∨ (x0 = 29 ∧ z = 1) ∨ (x0 = 28 ∧ z = 2) ∨ (x0 = 27 ∧ z = 3) ∨ (24 ≤ x0 ∧ x0 ≤ 26 ∧ z = 4) ∨ (22 ≤ x0 ∧ x0 ≤ 23 ∧ z = 6) ∨ (x0 ≤ 21 ∧ z = 5)))) args s 0 0 (fun q => tf_B g ≤ q) := ⟨_, rfl⟩
  rw [← hQ]
  obtain ⟨R, hR⟩ : ∃ q, q = (headSpec (cd_X10_binds :: wsL_law) ({ frames := 1, cells := 0, slots := 0, locals := 24 })).room := ⟨_, rfl⟩
  rw [← hR]
  have hR1 : 1 ≤ R.frames := by rw [hR]; exact Nat.le_refl _
  have hR2 : 24 ≤ R.locals := by rw [hR]; exact Nat.le_refl _
  have hR3 : 0 ≤ R.cells := by rw [hR]; exact Nat.le_refl _
  have hR4 : 0 ≤ R.slots := by rw [hR]; exact Nat.le_refl _
  have hin := (name_of_methodNamed B.named B.method).1
  clear hR B
  refine tf_enter (As := [.int (Int32.ofInt x0)]) hargs (Nat.le_of_ble_eq_true rfl) (fun ls hl => ?_)
  have hl : lv_has ls 1 [(0, .int (Int32.ofInt x0))] := hl
  refine lv_iload_n hx hb dX10_binds_0 rfl (lv_at hl 0 rfl) ?_
  refine tf_bipush hx hb dX10_binds_1 (by decide) ?_
  refine tf_icmp_lt (tgt := 10) hx hb ⟨by omega, by omega⟩ ⟨by decide, by decide⟩ dX10_binds_3 (by decide) (fun h1 => ?_) (fun h1 => ?_)
  · refine lv_iload_n hx hb dX10_binds_10 rfl (lv_at hl 0 rfl) ?_
    refine tf_bipush hx hb dX10_binds_11 (by decide) ?_
    refine tf_icmp_ne (tgt := 20) hx hb ⟨by omega, by omega⟩ ⟨by decide, by decide⟩ dX10_binds_13 (by decide) (fun h2 => ?_) (fun h2 => ?_)
    · refine lv_iload_n hx hb dX10_binds_20 rfl (lv_at hl 0 rfl) ?_
      refine tf_bipush hx hb dX10_binds_21 (by decide) ?_
      refine tf_icmp_ne (tgt := 30) hx hb ⟨by omega, by omega⟩ ⟨by decide, by decide⟩ dX10_binds_23 (by decide) (fun h3 => ?_) (fun h3 => ?_)
      · refine lv_iload_n hx hb dX10_binds_30 rfl (lv_at hl 0 rfl) ?_
        refine tf_bipush hx hb dX10_binds_31 (by decide) ?_
        refine tf_icmp_ne (tgt := 40) hx hb ⟨by omega, by omega⟩ ⟨by decide, by decide⟩ dX10_binds_33 (by decide) (fun h4 => ?_) (fun h4 => ?_)
        · refine lv_iload_n hx hb dX10_binds_40 rfl (lv_at hl 0 rfl) ?_
          refine tf_bipush hx hb dX10_binds_41 (by decide) ?_
          refine tf_icmp_lt (tgt := 50) hx hb ⟨by omega, by omega⟩ ⟨by decide, by decide⟩ dX10_binds_43 (by decide) (fun h5 => ?_) (fun h5 => ?_)
          · refine lv_iload_n hx hb dX10_binds_50 rfl (lv_at hl 0 rfl) ?_
            refine tf_bipush hx hb dX10_binds_51 (by decide) ?_
            refine tf_icmp_lt (tgt := 61) hx hb ⟨by omega, by omega⟩ ⟨by decide, by decide⟩ dX10_binds_53 (by decide) (fun h6 => ?_) (fun h6 => ?_)
            · refine tf_iconst hx hb dX10_binds_61 ?_
              exact tf_reti (z := 5) hx hb hr hlocks hQ hW (show 0 ≤ (5) ∧ (5) ≤ 6 ∧ ((30 ≤ x0 ∧ (5) = 0) ∨ (x0 = 29 ∧ (5) = 1) ∨ (x0 = 28 ∧ (5) = 2) ∨ (x0 = 27 ∧ (5) = 3) ∨ (24 ≤ x0 ∧ x0 ≤ 26 ∧ (5) = 4) ∨ (22 ≤ x0 ∧ x0 ≤ 23 ∧ (5) = 6) ∨ (x0 ≤ 21 ∧ (5) = 5)) by omega) dX10_binds_62
            · refine tf_bipush hx hb dX10_binds_56 (by decide) ?_
              refine lv_goto (tgt := 62) hx hb dX10_binds_58 (by decide) ?_
              exact tf_reti (z := 6) hx hb hr hlocks hQ hW (show 0 ≤ (6) ∧ (6) ≤ 6 ∧ ((30 ≤ x0 ∧ (6) = 0) ∨ (x0 = 29 ∧ (6) = 1) ∨ (x0 = 28 ∧ (6) = 2) ∨ (x0 = 27 ∧ (6) = 3) ∨ (24 ≤ x0 ∧ x0 ≤ 26 ∧ (6) = 4) ∨ (22 ≤ x0 ∧ x0 ≤ 23 ∧ (6) = 6) ∨ (x0 ≤ 21 ∧ (6) = 5)) by omega) dX10_binds_62
          · refine tf_iconst hx hb dX10_binds_46 ?_
            refine lv_goto (tgt := 62) hx hb dX10_binds_47 (by decide) ?_
            exact tf_reti (z := 4) hx hb hr hlocks hQ hW (show 0 ≤ (4) ∧ (4) ≤ 6 ∧ ((30 ≤ x0 ∧ (4) = 0) ∨ (x0 = 29 ∧ (4) = 1) ∨ (x0 = 28 ∧ (4) = 2) ∨ (x0 = 27 ∧ (4) = 3) ∨ (24 ≤ x0 ∧ x0 ≤ 26 ∧ (4) = 4) ∨ (22 ≤ x0 ∧ x0 ≤ 23 ∧ (4) = 6) ∨ (x0 ≤ 21 ∧ (4) = 5)) by omega) dX10_binds_62
        · refine tf_iconst hx hb dX10_binds_36 ?_
          refine lv_goto (tgt := 62) hx hb dX10_binds_37 (by decide) ?_
          exact tf_reti (z := 3) hx hb hr hlocks hQ hW (show 0 ≤ (3) ∧ (3) ≤ 6 ∧ ((30 ≤ x0 ∧ (3) = 0) ∨ (x0 = 29 ∧ (3) = 1) ∨ (x0 = 28 ∧ (3) = 2) ∨ (x0 = 27 ∧ (3) = 3) ∨ (24 ≤ x0 ∧ x0 ≤ 26 ∧ (3) = 4) ∨ (22 ≤ x0 ∧ x0 ≤ 23 ∧ (3) = 6) ∨ (x0 ≤ 21 ∧ (3) = 5)) by omega) dX10_binds_62
      · refine tf_iconst hx hb dX10_binds_26 ?_
        refine lv_goto (tgt := 62) hx hb dX10_binds_27 (by decide) ?_
        exact tf_reti (z := 2) hx hb hr hlocks hQ hW (show 0 ≤ (2) ∧ (2) ≤ 6 ∧ ((30 ≤ x0 ∧ (2) = 0) ∨ (x0 = 29 ∧ (2) = 1) ∨ (x0 = 28 ∧ (2) = 2) ∨ (x0 = 27 ∧ (2) = 3) ∨ (24 ≤ x0 ∧ x0 ≤ 26 ∧ (2) = 4) ∨ (22 ≤ x0 ∧ x0 ≤ 23 ∧ (2) = 6) ∨ (x0 ≤ 21 ∧ (2) = 5)) by omega) dX10_binds_62
    · refine tf_iconst hx hb dX10_binds_16 ?_
      refine lv_goto (tgt := 62) hx hb dX10_binds_17 (by decide) ?_
      exact tf_reti (z := 1) hx hb hr hlocks hQ hW (show 0 ≤ (1) ∧ (1) ≤ 6 ∧ ((30 ≤ x0 ∧ (1) = 0) ∨ (x0 = 29 ∧ (1) = 1) ∨ (x0 = 28 ∧ (1) = 2) ∨ (x0 = 27 ∧ (1) = 3) ∨ (24 ≤ x0 ∧ x0 ≤ 26 ∧ (1) = 4) ∨ (22 ≤ x0 ∧ x0 ≤ 23 ∧ (1) = 6) ∨ (x0 ≤ 21 ∧ (1) = 5)) by omega) dX10_binds_62
  · refine tf_iconst hx hb dX10_binds_6 ?_
    refine lv_goto (tgt := 62) hx hb dX10_binds_7 (by decide) ?_
    exact tf_reti (z := 0) hx hb hr hlocks hQ hW (show 0 ≤ (0) ∧ (0) ≤ 6 ∧ ((30 ≤ x0 ∧ (0) = 0) ∨ (x0 = 29 ∧ (0) = 1) ∨ (x0 = 28 ∧ (0) = 2) ∨ (x0 = 27 ∧ (0) = 3) ∨ (24 ≤ x0 ∧ x0 ≤ 26 ∧ (0) = 4) ∨ (22 ≤ x0 ∧ x0 ≤ 23 ∧ (0) = 6) ∨ (x0 ≤ 21 ∧ (0) = 5)) by omega) dX10_binds_62

abbrev M_X10_settle : List (Nat × Nat) := [(33, 0), (34, 0), (50, 17), (50, 23)]
set_option maxHeartbeats 4000000 in
set_option maxRecDepth 100000 in
theorem c_X10_settle (l : Launch) (g : tf_G) (T : tf_T) (a0 : Nat) (ha0 : T a0 = some (50, 0)) (x1 : Int) (hp1 : 1 ≤ x1 ∧ x1 ≤ 6) (qop : Nat) (hqop : T qop = some (33, 400)) (qar : Nat) (hqar : T qar = some (34, 400)) (qpi : Nat) (hqpi : T qpi = some (35, 400)) (qpa : Nat) (hqpa : T qpa = some (36, 400)) (gc : Int) (hgc : 0 ≤ gc ∧ gc ≤ 400) (gp : Int) (hgp : 0 ≤ gp ∧ gp ≤ 400) (rop : Int → Int) (rar : Int → Int) (rpi : Int → Int) (rpa : Int → Int) (hq0 : (gc + gp ≤ 400)) (hq1 : (tf_PB rpi rpa gp)) : Met l yX10_settle (cd_X10_settle :: wsL_law) ({ frames := 2, cells := 0, slots := 0, locals := 46 }) (tf_P g T [.ref a0, .int (Int32.ofInt x1)] (fun H => tf_s H a0 (g.1.2 10 18) = some (.ref qop) ∧ tf_s H a0 (g.1.2 10 19) = some (.ref qar) ∧ tf_s H a0 (g.1.2 10 21) = some (.ref qpi) ∧ tf_s H a0 (g.1.2 10 22) = some (.ref qpa) ∧ tf_s H a0 (g.1.2 10 17) = some (.int (Int32.ofInt gc)) ∧ tf_s H a0 (g.1.2 10 23) = some (.int (Int32.ofInt gp)) ∧ tf_rw H qop = rop ∧ tf_rw H qar = rar ∧ tf_rw H qpi = rpi ∧ tf_rw H qpa = rpa)) (tf_Qv g M_X10_settle T (fun _ H => (∃ (gc1 gp1 : Int) (rop1 rar1 : Int → Int), tf_s H a0 (g.1.2 10 17) = some (.int (Int32.ofInt gc1)) ∧ tf_s H a0 (g.1.2 10 23) = some (.int (Int32.ofInt gp1)) ∧ tf_rw H qop = rop1 ∧ tf_rw H qar = rar1 ∧ (0 ≤ gc1 ∧ gc1 ≤ 400) ∧ (0 ≤ gp1 ∧ gp1 ≤ 400) ∧ (gc1 + gp1 ≤ gc + gp) ∧ (gp1 ≤ gp) ∧ (gc ≤ gc1) ∧ (gp1 = 0 ∨ ((x1 = 1 → 30 ≤ rpi (gp1 - 1)) ∧ (x1 = 5 → 24 ≤ rpi (gp1 - 1)))) ∧ (∀ i, gp1 ≤ i → i < gp → rpi i < 30) ∧ (∀ o0 u0 fs, tf_PI o0 u0 rop rar rpi rpa fs gc gp 1 → tf_PI o0 u0 rop1 rar1 rpi rpa fs gc1 gp1 1)))) 0 0 (fun q => tf_B g ≤ q) := by
  refine Met.ofW (cc := cX10_settle) (maxL := 2) (ret := none) (by decide) rfl ?_
  intro p e s m args below meth c s₁ B hml hv
  obtain ⟨hargs, hk, hW0, hB, hpre⟩ := hv
  obtain ⟨he0, he1, he2, he3, he4, he5, he6, he7, he8, he9⟩ := hpre
  have hx := B.exec
  have hb := B.bytes
  have hr := B.returns
  have hts : ∀ w ∈ wsL_law, w.before args s = true := fun w h => atoms_spec (ws := cd_X10_settle :: wsL_law) B.pre w (List.mem_cons_of_mem _ h)
  have hown : s.vm.findClass RX10 = some m.cls := findClass_of_methodNamed B.named
  have hlocks := B.notSynchronized
  have hK := hk.1
  have hW := tf_n.start (M := M_X10_settle) hW0 hB
  obtain ⟨Q, hQ⟩ : ∃ q, q = MQ below (tf_Qv g M_X10_settle T (fun _ H => (∃ (gc1 gp1 : Int) (rop1 rar1 : Int → Int), tf_s H a0 (g.1.2 10 17) = some (.int (Int32.ofInt gc1)) ∧ tf_s H a0 (g.1.2 10 23) = some (.int (Int32.ofInt gp1)) ∧ tf_rw H qop = rop1 ∧ tf_rw H qar = rar1 ∧ (0 ≤ gc1 ∧ gc1 ≤ 400) ∧ (0 ≤ gp1 ∧ gp1 ≤ 400) ∧ (gc1 + gp1 ≤ gc + gp) ∧ (gp1 ≤ gp) ∧ (gc ≤ gc1) ∧ (gp1 = 0 ∨ ((x1 = 1 → 30 ≤ rpi (gp1 - 1)) ∧ (x1 = 5 → 24 ≤ rpi (gp1 - 1)))) ∧ (∀ i, gp1 ≤ i → i < gp → rpi i < 30) ∧ (∀ o0 u0 fs, tf_PI o0 u0 rop rar rpi rpa fs gc gp 1 → tf_PI o0 u0 rop1 rar1 rpi rpa fs gc1 gp1 1)))) args s 0 0 (fun q => tf_B g ≤ q) := ⟨_, rfl⟩
  rw [← hQ]
  obtain ⟨R, hR⟩ : ∃ q, q = (headSpec (cd_X10_settle :: wsL_law) ({ frames := 2, cells := 0, slots := 0, locals := 46 })).room := ⟨_, rfl⟩
  rw [← hR]
  have hR1 : 2 ≤ R.frames := by rw [hR]; exact Nat.le_refl _
  have hR2 : 46 ≤ R.locals := by rw [hR]; exact Nat.le_refl _
  have hR3 : 0 ≤ R.cells := by rw [hR]; exact Nat.le_refl _
  have hR4 : 0 ≤ R.slots := by rw [hR]; exact Nat.le_refl _
  have hin := (name_of_methodNamed B.named B.method).1
  clear hR B
  have j_0 : ∀ (n_0 : Nat), 1 ≤ x1 ∧ x1 ≤ 6 → ∀ (f17_0 : Int), 0 ≤ f17_0 ∧ f17_0 ≤ 400 → ∀ (f23_0 : Int), 0 ≤ f23_0 ∧ f23_0 ≤ 400 → ∀ (rNOP_0 : Int → Int), (True) → ∀ (rNAR_0 : Int → Int), (True) → (f17_0 + f23_0 ≤ gc + gp) → (f23_0 ≤ gp) → (gc ≤ f17_0) → (∀ o0 u0 fs, tf_PI o0 u0 rop rar rpi rpa fs gc gp 1 → tf_PI o0 u0 rNOP_0 rNAR_0 rpi rpa fs f17_0 f23_0 1) → (∀ i, f23_0 ≤ i → i < gp → rpi i < 30) → (f23_0 + 1 ≤ (n_0 : Int)) → ∀ (H : Heap) (locs : List Loc), tf_n tf_kt g M_X10_settle T s.heap T H locs → tf_s H a0 (g.1.2 10 18) = some (.ref qop) → tf_s H a0 (g.1.2 10 19) = some (.ref qar) → tf_s H a0 (g.1.2 10 21) = some (.ref qpi) → tf_s H a0 (g.1.2 10 22) = some (.ref qpa) → tf_s H a0 (g.1.2 10 17) = some (.int (Int32.ofInt f17_0)) → tf_s H a0 (g.1.2 10 23) = some (.int (Int32.ofInt f23_0)) → tf_rw H qop = rNOP_0 → tf_rw H qar = rNAR_0 → tf_rw H qpi = rpi → tf_rw H qpa = rpa → ∀ (ls : Array Slot), lv_has ls 2 [(0, .ref a0), (1, .int (Int32.ofInt x1))] → W p l e R s m args below meth c H locs 0 0 Q (F0 m 0 ls []) := by
    intro n_0
    induction n_0 with
    | zero =>
      intro hx1_0 f17_0 hf17_0 f23_0 hf23_0 rNOP_0 hRNOP_0 rNAR_0 hRNAR_0 hi0_0 hi1_0 hi2_0 hi3_0 hi4_0 hm_0
      exfalso; omega
    | succ n_0 ih_0 =>
      intro hx1_0 f17_0 hf17_0 f23_0 hf23_0 rNOP_0 hRNOP_0 rNAR_0 hRNAR_0 hi0_0 hi1_0 hi2_0 hi3_0 hi4_0 hm_0 H locs hW hs18_0 hs19_0 hs21_0 hs22_0 hs17_0 hs23_0 hcNOP_0 hcNAR_0 hcPIL_0 hcPAT_0 ls hl
      have j_63 : 1 ≤ x1 ∧ x1 ≤ 6 → ∀ (f23_63 : Int), 0 ≤ f23_63 ∧ f23_63 ≤ 399 → (f23_63 = f23_0 - 1) → (28 ≤ rpi f23_63 ∧ rpi f23_63 ≤ 29) → (0 < f23_0) → ∀ (H : Heap) (locs : List Loc), tf_n tf_kt g M_X10_settle T s.heap T H locs → tf_s H a0 (g.1.2 10 18) = some (.ref qop) → tf_s H a0 (g.1.2 10 19) = some (.ref qar) → tf_s H a0 (g.1.2 10 21) = some (.ref qpi) → tf_s H a0 (g.1.2 10 22) = some (.ref qpa) → tf_s H a0 (g.1.2 10 17) = some (.int (Int32.ofInt f17_0)) → tf_rw H qop = rNOP_0 → tf_rw H qar = rNAR_0 → tf_rw H qpi = rpi → tf_rw H qpa = rpa → tf_s H a0 (g.1.2 10 23) = some (.int (Int32.ofInt f23_63)) → ∀ (ls : Array Slot), lv_has ls 2 [(0, .ref a0), (1, .int (Int32.ofInt x1))] → W p l e R s m args below meth c H locs 0 0 Q (F0 m 63 ls []) := by
        intro hx1_63 f23_63 hf23_63 hi0_63 hi1_63 hi2_63 H locs hW hs18_63 hs19_63 hs21_63 hs22_63 hs17_63 hcNOP_63 hcNAR_63 hcPIL_63 hcPAT_63 hs23_63 ls hl
        refine lv_aload_n hx hb dX10_settle_63 rfl (lv_at hl 0 rfl) ?_
        refine tf_get hx hb hts inlX10 hown hK (ci := 10) rfl hW ha0 rfl 19 rfl (by decide) (hts _ fl_X10_36) dX10_settle_64 (fun v1 hv1 hsv1 => ?_)
        obtain rfl : v1 = .ref qar := Option.some.inj (hsv1.symm.trans hs19_63)
        refine lv_aload_n hx hb dX10_settle_67 rfl (lv_at hl 0 rfl) ?_
        refine tf_get hx hb hts inlX10 hown hK (ci := 10) rfl hW ha0 rfl 22 rfl (by decide) (hts _ fl_X10_42) dX10_settle_68 (fun v2 hv2 hsv2 => ?_)
        obtain rfl : v2 = .ref qpa := Option.some.inj (hsv2.symm.trans hs22_63)
        refine lv_aload_n hx hb dX10_settle_71 rfl (lv_at hl 0 rfl) ?_
        refine tf_get hx hb hts inlX10 hown hK (ci := 10) rfl hW ha0 rfl 23 rfl (by decide) (hts _ fl_X10_242) dX10_settle_72 (fun v3 hv3 hsv3 => ?_)
        obtain rfl : v3 = .int (Int32.ofInt f23_63) := Option.some.inj (hsv3.symm.trans hs23_63)
        refine tf_iald (t0 := 0) hx hb hK hW hqpa rfl rfl (by omega) (by omega) dX10_settle_75 (fun v4 hv4 hsv4 => ?_)
        obtain ⟨z5, rfl, hz5⟩ := tf_v0 hv4
        have er6 : rpa f23_63 = z5 := hcPAT_63 ▸ tf_rw_of (by omega) hsv4 ⟨by omega, by omega⟩
        have hpb := hq1 f23_63 (by omega) (by omega) (by omega) (by omega)
        refine lv_aload_n hx hb dX10_settle_76 rfl (lv_at hl 0 rfl) ?_
        refine tf_get hx hb hts inlX10 hown hK (ci := 10) rfl hW ha0 rfl 17 rfl (by decide) (hts _ fl_X10_239) dX10_settle_77 (fun v7 hv7 hsv7 => ?_)
        obtain rfl : v7 = .int (Int32.ofInt f17_0) := Option.some.inj (hsv7.symm.trans hs17_63)
        refine tf_rwst (t0 := 0) hx hb hK hW hqar rfl rfl (by omega) (by omega) (by decide) (tf_u0 (by omega) (by omega)) ⟨by omega, by omega⟩ trivial dX10_settle_80 (fun H8 locs8 hW hu8 hq8 => ?_)
        have hs9 := tf_keepQ hs18_63 (hq8 _ (tf_ne ha0 hqar (by decide)))
        have hs10 := tf_keepQ hs19_63 (hq8 _ (tf_ne ha0 hqar (by decide)))
        have hs11 := tf_keepQ hs21_63 (hq8 _ (tf_ne ha0 hqar (by decide)))
        have hs12 := tf_keepQ hs22_63 (hq8 _ (tf_ne ha0 hqar (by decide)))
        have hs13 := tf_keepQ hs17_63 (hq8 _ (tf_ne ha0 hqar (by decide)))
        have hs14 := tf_keepCQ hcNOP_63 (hq8 _ (tf_ne hqop hqar (by decide)))
        have hs15 := tf_keepCQ hcPIL_63 (hq8 _ (tf_ne hqpi hqar (by decide)))
        have hs16 := tf_keepCQ hcPAT_63 (hq8 _ (tf_ne hqpa hqar (by decide)))
        have hs17 := tf_keepQ hs23_63 (hq8 _ (tf_ne ha0 hqar (by decide)))
        have hu8 := hu8.trans (congrArg (fun w => tf_up w (z5) (f17_0)) hcNAR_63)
        refine lv_goto (tgt := 0) hx hb dX10_settle_81 (by decide) ?_
        exact ih_0 ⟨by omega, by omega⟩ (f17_0) ⟨by omega, by omega⟩ (f23_63) ⟨by omega, by omega⟩ rNOP_0 (trivial) (tf_up rNAR_0 (z5) (f17_0)) (trivial) (by first | omega | assumption) (by first | omega | assumption) (by first | omega | assumption) (by first | exact fun o0 u0 fs h => h | exact fun o0 u0 fs h => tf_PI_patch (hi3_0 o0 u0 fs h) (by omega) (by omega) (by omega) (by omega) er6 | exact fun o0 u0 fs h => tf_PI_pop (hi3_0 o0 u0 fs h) (by omega) (by omega) er6 (by omega)) (by first | exact fun i h1 h2 => by omega | exact tf_popl hi4_0 (by omega) (by omega)) (by omega) _ _ hW hs9 hs10 hs11 hs12 hs13 hs17 hs14 hu8 hs15 hs16 _ (lv_sub hl [0, 1] rfl)
      refine lv_aload_n hx hb dX10_settle_0 rfl (lv_at hl 0 rfl) ?_
      refine tf_get hx hb hts inlX10 hown hK (ci := 10) rfl hW ha0 rfl 23 rfl (by decide) (hts _ fl_X10_242) dX10_settle_1 (fun v18 hv18 hsv18 => ?_)
      obtain rfl : v18 = .int (Int32.ofInt f23_0) := Option.some.inj (hsv18.symm.trans hs23_0)
      refine tf_if_le (tgt := 101) hx hb ⟨by omega, by omega⟩ dX10_settle_4 (by decide) (fun h19 => ?_) (fun h19 => ?_)
      · exact tf_retv hx hb hr hlocks hQ hW ⟨(f17_0), (f23_0), rNOP_0, rNAR_0, hs17_0, hs23_0, hcNOP_0, hcNAR_0, ⟨by omega, by omega⟩, ⟨by omega, by omega⟩, (by first | omega | assumption), (by first | omega | assumption), (by first | omega | assumption), (by first | omega | assumption), hi4_0, hi3_0⟩ dX10_settle_101
      · refine lv_aload_n hx hb dX10_settle_7 rfl (lv_at hl 0 rfl) ?_
        refine tf_get hx hb hts inlX10 hown hK (ci := 10) rfl hW ha0 rfl 21 rfl (by decide) (hts _ fl_X10_39) dX10_settle_8 (fun v20 hv20 hsv20 => ?_)
        obtain rfl : v20 = .ref qpi := Option.some.inj (hsv20.symm.trans hs21_0)
        refine lv_aload_n hx hb dX10_settle_11 rfl (lv_at hl 0 rfl) ?_
        refine tf_get hx hb hts inlX10 hown hK (ci := 10) rfl hW ha0 rfl 23 rfl (by decide) (hts _ fl_X10_242) dX10_settle_12 (fun v21 hv21 hsv21 => ?_)
        obtain rfl : v21 = .int (Int32.ofInt f23_0) := Option.some.inj (hsv21.symm.trans hs23_0)
        refine tf_iconst hx hb dX10_settle_15 ?_
        refine tf_isub hx hb dX10_settle_16 ?_
        refine tf_iald (t0 := 0) hx hb hK hW hqpi rfl rfl (by omega) (by omega) dX10_settle_17 (fun v22 hv22 hsv22 => ?_)
        obtain ⟨z23, rfl, hz23⟩ := tf_v0 hv22
        have er24 : rpi (f23_0 - 1) = z23 := hcPIL_0 ▸ tf_rw_of (by omega) hsv22 ⟨by omega, by omega⟩
        refine tf_calli (va_runS (As := [.int (Int32.ofInt z23)]) (rest := []) ⟨hx, hb, hml, hown, hts⟩ (c_X10_binds l g T (z23) ⟨by omega, by omega⟩) ⟨callB_of 1 hts (gw_ws cm_X10_binds) rfl rfl rfl (hts _ (tw1 (i := 5) rfl)) (hts _ (tw31 (i := 1) rfl)) hd_X10_binds.2 ⟨Nat.le_trans (by decide) hR1, Nat.le_trans (by decide) hR2⟩, hts _ (tw31 (i := 2) rfl)⟩ (tf_preS hk hW trivial) rfl rfl hl.1 rfl (lv_room (Nat.le_of_ble_eq_true rfl)) dX10_settle_18 ⟨Nat.zero_le _, Nat.zero_le _⟩) hW (by decide) (fun z25 H25 locs25 hW hF25 hp25 => ?_)
        have hs26 := tf_keepF hF25 ha0 rfl rfl (by decide) hs18_0
        have hs27 := tf_keepF hF25 ha0 rfl rfl (by decide) hs19_0
        have hs28 := tf_keepF hF25 ha0 rfl rfl (by decide) hs21_0
        have hs29 := tf_keepF hF25 ha0 rfl rfl (by decide) hs22_0
        have hs30 := tf_keepF hF25 ha0 rfl rfl (by decide) hs17_0
        have hs31 := tf_keepF hF25 ha0 rfl rfl (by decide) hs23_0
        have hs32 := tf_keepC hF25 hqop rfl (by decide) hcNOP_0
        have hs33 := tf_keepC hF25 hqar rfl (by decide) hcNAR_0
        have hs34 := tf_keepC hF25 hqpi rfl (by decide) hcPIL_0
        have hs35 := tf_keepC hF25 hqpa rfl (by decide) hcPAT_0
        obtain ⟨hp25_0, hp25_1, hp25_2⟩ := hp25
        refine lv_iload_n hx hb dX10_settle_21 rfl (lv_at hl 1 rfl) ?_
        refine tf_icmp_lt (tgt := 101) hx hb ⟨by omega, by omega⟩ ⟨by omega, by omega⟩ dX10_settle_22 (by decide) (fun h36 => ?_) (fun h36 => ?_)
        · exact tf_retv hx hb hr hlocks hQ hW ⟨(f17_0), (f23_0), rNOP_0, rNAR_0, hs30, hs31, hs32, hs33, ⟨by omega, by omega⟩, ⟨by omega, by omega⟩, (by first | omega | assumption), (by first | omega | assumption), (by first | omega | assumption), (by first | omega | assumption), hi4_0, hi3_0⟩ dX10_settle_101
        · refine lv_aload_n hx hb dX10_settle_25 rfl (lv_at hl 0 rfl) ?_
          refine lv_dup hx hb dX10_settle_26 rfl ?_
          refine tf_get hx hb hts inlX10 hown hK (ci := 10) rfl hW ha0 rfl 23 rfl (by decide) (hts _ fl_X10_242) dX10_settle_27 (fun v37 hv37 hsv37 => ?_)
          obtain rfl : v37 = .int (Int32.ofInt f23_0) := Option.some.inj (hsv37.symm.trans hs31)
          refine tf_iconst hx hb dX10_settle_30 ?_
          refine tf_isub hx hb dX10_settle_31 ?_
          refine tf_put hx hb hts inlX10 tyX10 tyX10_ok nmX10 hown hK (ci := 10) rfl hW ha0 rfl rfl 23 rfl (by decide) (by decide) (hts _ fl_X10_242) rfl (tf_u0 (by omega) (by omega)) rfl rfl dX10_settle_32 (fun H38 locs38 hW hs38 ht38 hq38 => ?_)
          have hs39 := (ht38 18 (by decide) (by decide)).trans hs26
          have hs40 := (ht38 19 (by decide) (by decide)).trans hs27
          have hs41 := (ht38 21 (by decide) (by decide)).trans hs28
          have hs42 := (ht38 22 (by decide) (by decide)).trans hs29
          have hs43 := (ht38 17 (by decide) (by decide)).trans hs30
          have hs44 := tf_keepCQ hs32 (hq38 _ (tf_ne hqop ha0 (by decide)))
          have hs45 := tf_keepCQ hs33 (hq38 _ (tf_ne hqar ha0 (by decide)))
          have hs46 := tf_keepCQ hs34 (hq38 _ (tf_ne hqpi ha0 (by decide)))
          have hs47 := tf_keepCQ hs35 (hq38 _ (tf_ne hqpa ha0 (by decide)))
          refine lv_aload_n hx hb dX10_settle_35 rfl (lv_at hl 0 rfl) ?_
          refine tf_get hx hb hts inlX10 hown hK (ci := 10) rfl hW ha0 rfl 21 rfl (by decide) (hts _ fl_X10_39) dX10_settle_36 (fun v48 hv48 hsv48 => ?_)
          obtain rfl : v48 = .ref qpi := Option.some.inj (hsv48.symm.trans hs41)
          refine lv_aload_n hx hb dX10_settle_39 rfl (lv_at hl 0 rfl) ?_
          refine tf_get hx hb hts inlX10 hown hK (ci := 10) rfl hW ha0 rfl 23 rfl (by decide) (hts _ fl_X10_242) dX10_settle_40 (fun v49 hv49 hsv49 => ?_)
          obtain rfl : v49 = .int (Int32.ofInt ((f23_0 - 1))) := Option.some.inj (hsv49.symm.trans hs38)
          refine tf_iald (t0 := 0) hx hb hK hW hqpi rfl rfl (by omega) (by omega) dX10_settle_43 (fun v50 hv50 hsv50 => ?_)
          obtain ⟨z51, rfl, hz51⟩ := tf_v0 hv50
          have er52 : rpi (f23_0 - 1) = z51 := hs46 ▸ tf_rw_of (by omega) hsv50 ⟨by omega, by omega⟩
          refine tf_bipush hx hb dX10_settle_44 (by decide) ?_
          refine tf_icmp_eq (tgt := 63) hx hb ⟨by omega, by omega⟩ ⟨by decide, by decide⟩ dX10_settle_46 (by decide) (fun h53 => ?_) (fun h53 => ?_)
          · exact j_63 ⟨by omega, by omega⟩ ((f23_0 - 1)) ⟨by omega, by omega⟩ (by first | omega | assumption) (by first | omega | assumption) (by first | omega | assumption) _ _ hW hs39 hs40 hs41 hs42 hs43 hs44 hs45 hs46 hs47 hs38 _ (lv_sub hl [0, 1] rfl)
          · refine lv_aload_n hx hb dX10_settle_49 rfl (lv_at hl 0 rfl) ?_
            refine tf_get hx hb hts inlX10 hown hK (ci := 10) rfl hW ha0 rfl 21 rfl (by decide) (hts _ fl_X10_39) dX10_settle_50 (fun v54 hv54 hsv54 => ?_)
            obtain rfl : v54 = .ref qpi := Option.some.inj (hsv54.symm.trans hs41)
            refine lv_aload_n hx hb dX10_settle_53 rfl (lv_at hl 0 rfl) ?_
            refine tf_get hx hb hts inlX10 hown hK (ci := 10) rfl hW ha0 rfl 23 rfl (by decide) (hts _ fl_X10_242) dX10_settle_54 (fun v55 hv55 hsv55 => ?_)
            obtain rfl : v55 = .int (Int32.ofInt ((f23_0 - 1))) := Option.some.inj (hsv55.symm.trans hs38)
            refine tf_iald (t0 := 0) hx hb hK hW hqpi rfl rfl (by omega) (by omega) dX10_settle_57 (fun v56 hv56 hsv56 => ?_)
            obtain ⟨z57, rfl, hz57⟩ := tf_v0 hv56
            have er58 : rpi (f23_0 - 1) = z57 := hs46 ▸ tf_rw_of (by omega) hsv56 ⟨by omega, by omega⟩
            refine tf_bipush hx hb dX10_settle_58 (by decide) ?_
            refine tf_icmp_ne (tgt := 84) hx hb ⟨by omega, by omega⟩ ⟨by decide, by decide⟩ dX10_settle_60 (by decide) (fun h59 => ?_) (fun h59 => ?_)
            · refine lv_aload_n hx hb dX10_settle_84 rfl (lv_at hl 0 rfl) ?_
              refine lv_aload_n hx hb dX10_settle_85 rfl (lv_at hl 0 rfl) ?_
              refine tf_get hx hb hts inlX10 hown hK (ci := 10) rfl hW ha0 rfl 21 rfl (by decide) (hts _ fl_X10_39) dX10_settle_86 (fun v60 hv60 hsv60 => ?_)
              obtain rfl : v60 = .ref qpi := Option.some.inj (hsv60.symm.trans hs41)
              refine lv_aload_n hx hb dX10_settle_89 rfl (lv_at hl 0 rfl) ?_
              refine tf_get hx hb hts inlX10 hown hK (ci := 10) rfl hW ha0 rfl 23 rfl (by decide) (hts _ fl_X10_242) dX10_settle_90 (fun v61 hv61 hsv61 => ?_)
              obtain rfl : v61 = .int (Int32.ofInt ((f23_0 - 1))) := Option.some.inj (hsv61.symm.trans hs38)
              refine tf_iald (t0 := 0) hx hb hK hW hqpi rfl rfl (by omega) (by omega) dX10_settle_93 (fun v62 hv62 hsv62 => ?_)
              obtain ⟨z63, rfl, hz63⟩ := tf_v0 hv62
              have er64 : rpi (f23_0 - 1) = z63 := hs46 ▸ tf_rw_of (by omega) hsv62 ⟨by omega, by omega⟩
              refine tf_iconst hx hb dX10_settle_94 ?_
              refine tf_callv (va_runV (As := [.int (Int32.ofInt z63), .int (Int32.ofInt 0)]) (rest := []) ⟨hx, hb, hml, hown, hts⟩ (c_X10_emit l g T a0 ha0 (z63) ⟨by omega, by omega⟩ (0) ⟨by omega, by omega⟩ qop hqop qar hqar (f17_0) ⟨by omega, by omega⟩ rNOP_0 rNAR_0) (cwV 2 hts gv_X10_248 rfl rfl rfl hd_X10_emit ⟨Nat.le_trans (by decide) hR1, Nat.le_trans (by decide) hR2⟩) (tf_preV hk hW ha0 (ci := 10) rfl rfl ⟨hs39, hs40, hs43, hs44, hs45⟩) rfl rfl hl.1 rfl (lv_room (Nat.le_of_ble_eq_true rfl)) dX10_settle_95 ⟨Nat.zero_le _, Nat.zero_le _⟩) hW (by decide) (fun H65 locs65 hW hF65 hp65 => ?_)
              have hs66 := tf_keepF hF65 ha0 rfl rfl (by decide) hs39
              have hs67 := tf_keepF hF65 ha0 rfl rfl (by decide) hs40
              have hs68 := tf_keepF hF65 ha0 rfl rfl (by decide) hs41
              have hs69 := tf_keepF hF65 ha0 rfl rfl (by decide) hs42
              have hs70 := tf_keepC hF65 hqpi rfl (by decide) hs46
              have hs71 := tf_keepC hF65 hqpa rfl (by decide) hs47
              have hs72 := tf_keepF hF65 ha0 rfl rfl (by decide) hs38
              obtain ⟨ho65_0, ho65_1, ho65_2⟩ := hp65
              refine lv_goto (tgt := 0) hx hb dX10_settle_98 (by decide) ?_
              exact ih_0 ⟨by omega, by omega⟩ ((f17_0 + 1)) ⟨by omega, by omega⟩ ((f23_0 - 1)) ⟨by omega, by omega⟩ (tf_up (rNOP_0) (f17_0) (z63)) (trivial) (tf_up (rNAR_0) (f17_0) (0)) (trivial) (by first | omega | assumption) (by first | omega | assumption) (by first | omega | assumption) (by first | exact fun o0 u0 fs h => h | exact fun o0 u0 fs h => tf_PI_patch (hi3_0 o0 u0 fs h) (by omega) (by omega) (by omega) (by omega) er64 | exact fun o0 u0 fs h => tf_PI_pop (hi3_0 o0 u0 fs h) (by omega) (by omega) er64 (by omega)) (by first | exact fun i h1 h2 => by omega | exact tf_popl hi4_0 (by omega) (by omega)) (by omega) _ _ hW hs66 hs67 hs68 hs69 ho65_0 hs72 ho65_1 ho65_2 hs70 hs71 _ (lv_sub hl [0, 1] rfl)
            · exact j_63 ⟨by omega, by omega⟩ ((f23_0 - 1)) ⟨by omega, by omega⟩ (by first | omega | assumption) (by first | omega | assumption) (by first | omega | assumption) _ _ hW hs39 hs40 hs41 hs42 hs43 hs44 hs45 hs46 hs47 hs38 _ (lv_sub hl [0, 1] rfl)
  refine tf_enter (As := [.ref a0, .int (Int32.ofInt x1)]) hargs (Nat.le_of_ble_eq_true rfl) (fun ls hl => ?_)
  have hl : lv_has ls 2 [(0, .ref a0), (1, .int (Int32.ofInt x1))] := hl
  exact j_0 ((gp + 1 : Int)).toNat ⟨by omega, by omega⟩ (gc) ⟨by omega, by omega⟩ (gp) ⟨by omega, by omega⟩ rop (trivial) rar (trivial) (by first | omega | assumption) (by first | omega | assumption) (by first | omega | assumption) (by first | exact fun o0 u0 fs h => h | exact fun o0 u0 fs h => tf_PI_patch (hi3_0 o0 u0 fs h) (by omega) (by omega) (by omega) (by omega) er64 | exact fun o0 u0 fs h => tf_PI_pop (hi3_0 o0 u0 fs h) (by omega) (by omega) er64 (by omega)) (by first | exact fun i h1 h2 => by omega | exact tf_popl hi4_0 (by omega) (by omega)) (by omega) _ _ hW he0 he1 he2 he3 he4 he5 he6 he7 he8 he9 _ (lv_sub hl [0, 1] rfl)

abbrev M_X10_inner : List (Nat × Nat) := []
set_option maxHeartbeats 4000000 in
set_option maxRecDepth 100000 in
theorem c_X10_inner (l : Launch) (g : tf_G) (T : tf_T) (a0 : Nat) (ha0 : T a0 = some (50, 0)) (qpi : Nat) (hqpi : T qpi = some (35, 400)) (gp : Int) (hgp : 0 ≤ gp ∧ gp ≤ 400) (rpi : Int → Int) : Met l yX10_inner (cd_X10_inner :: wsL_law) ({ frames := 1, cells := 0, slots := 0, locals := 24 }) (tf_P g T [.ref a0] (fun H => tf_s H a0 (g.1.2 10 21) = some (.ref qpi) ∧ tf_s H a0 (g.1.2 10 23) = some (.int (Int32.ofInt gp)) ∧ tf_rw H qpi = rpi)) (tf_Qi g M_X10_inner T (fun z _ _ => (-2147483648) ≤ z ∧ z ≤ 2147483647 ∧ (tf_inn rpi gp z))) 0 0 (fun q => tf_B g ≤ q) := by
  refine Met.ofW (cc := cX10_inner) (maxL := 3) (ret := (some .int)) (by decide) rfl ?_
  intro p e s m args below meth c s₁ B hml hv
  obtain ⟨hargs, hk, hW0, hB, hpre⟩ := hv
  obtain ⟨he0, he1, he2⟩ := hpre
  have hx := B.exec
  have hb := B.bytes
  have hr := B.returns
  have hts : ∀ w ∈ wsL_law, w.before args s = true := fun w h => atoms_spec (ws := cd_X10_inner :: wsL_law) B.pre w (List.mem_cons_of_mem _ h)
  have hown : s.vm.findClass RX10 = some m.cls := findClass_of_methodNamed B.named
  have hlocks := B.notSynchronized
  have hK := hk.1
  have hW := tf_n.start (M := M_X10_inner) hW0 hB
  obtain ⟨Q, hQ⟩ : ∃ q, q = MQ below (tf_Qi g M_X10_inner T (fun z _ _ => (-2147483648) ≤ z ∧ z ≤ 2147483647 ∧ (tf_inn rpi gp z))) args s 0 0 (fun q => tf_B g ≤ q) := ⟨_, rfl⟩
  rw [← hQ]
  obtain ⟨R, hR⟩ : ∃ q, q = (headSpec (cd_X10_inner :: wsL_law) ({ frames := 1, cells := 0, slots := 0, locals := 24 })).room := ⟨_, rfl⟩
  rw [← hR]
  have hR1 : 1 ≤ R.frames := by rw [hR]; exact Nat.le_refl _
  have hR2 : 24 ≤ R.locals := by rw [hR]; exact Nat.le_refl _
  have hR3 : 0 ≤ R.cells := by rw [hR]; exact Nat.le_refl _
  have hR4 : 0 ≤ R.slots := by rw [hR]; exact Nat.le_refl _
  have hin := (name_of_methodNamed B.named B.method).1
  clear hR B
  have j_4 : ∀ (n_4 : Nat), ∀ (x1_4 : Int), (-2147483648) ≤ x1_4 ∧ x1_4 ≤ 2147483647 → ∀ (x2_4 : Int), 0 ≤ x2_4 ∧ x2_4 ≤ 400 → (tf_inn rpi x2_4 x1_4) → (x2_4 ≤ gp) → (400 - x2_4 + 1 ≤ (n_4 : Int)) → ∀ (H : Heap) (locs : List Loc), tf_n tf_kt g M_X10_inner T s.heap T H locs → tf_s H a0 (g.1.2 10 21) = some (.ref qpi) → tf_s H a0 (g.1.2 10 23) = some (.int (Int32.ofInt gp)) → tf_rw H qpi = rpi → ∀ (ls : Array Slot), lv_has ls 3 [(0, .ref a0), (1, .int (Int32.ofInt x1_4)), (2, .int (Int32.ofInt x2_4))] → W p l e R s m args below meth c H locs 0 0 Q (F0 m 4 ls []) := by
    intro n_4
    induction n_4 with
    | zero =>
      intro x1_4 hx1_4 x2_4 hx2_4 hi0_4 hi1_4 hm_4
      exfalso; omega
    | succ n_4 ih_4 =>
      intro x1_4 hx1_4 x2_4 hx2_4 hi0_4 hi1_4 hm_4 H locs hW hs21_4 hs23_4 hcPIL_4 ls hl
      have j_33 : 0 ≤ x2_4 ∧ x2_4 ≤ 399 → ∀ (y0_33 : Int), (-2147483648) ≤ y0_33 ∧ y0_33 ≤ 2147483647 → (tf_inn rpi (x2_4 + 1) y0_33) → (x2_4 < gp) → ∀ (H : Heap) (locs : List Loc), tf_n tf_kt g M_X10_inner T s.heap T H locs → tf_s H a0 (g.1.2 10 21) = some (.ref qpi) → tf_s H a0 (g.1.2 10 23) = some (.int (Int32.ofInt gp)) → tf_rw H qpi = rpi → ∀ (ls : Array Slot), lv_has ls 3 [(0, .ref a0), (2, .int (Int32.ofInt x2_4))] → W p l e R s m args below meth c H locs 0 0 Q (F0 m 33 ls [.int (Int32.ofInt y0_33)]) := by
        intro hx2_33 y0_33 hy0_33 hi0_33 hi1_33 H locs hW hs21_33 hs23_33 hcPIL_33 ls hl
        refine lv_istore_n (lv' := [(1, .int (Int32.ofInt y0_33)), (0, .ref a0), (2, .int (Int32.ofInt x2_4))]) hx hb dX10_inner_33 rfl hl (by decide) rfl (fun ls hl => ?_)
        refine lv_iinc (v := Int32.ofInt ((x2_4 + 1))) (lv' := [(2, .int (Int32.ofInt ((x2_4 + 1)))), (1, .int (Int32.ofInt y0_33)), (0, .ref a0)]) hx hb dX10_inner_34 hl (k := 2) rfl (Int32.ofInt_add _ _).symm (by decide) rfl (fun ls hl => ?_)
        refine lv_goto (tgt := 4) hx hb dX10_inner_37 (by decide) ?_
        exact ih_4 (y0_33) ⟨by omega, by omega⟩ ((x2_4 + 1)) ⟨by omega, by omega⟩ (by first | exact tf_inn_0 | exact hi0_33) (by first | omega | assumption) (by omega) _ _ hW hs21_33 hs23_33 hcPIL_33 _ (lv_sub hl [2, 1, 0] rfl)
      refine lv_iload_n hx hb dX10_inner_4 rfl (lv_at hl 2 rfl) ?_
      refine lv_aload_n hx hb dX10_inner_5 rfl (lv_at hl 0 rfl) ?_
      refine tf_get hx hb hts inlX10 hown hK (ci := 10) rfl hW ha0 rfl 23 rfl (by decide) (hts _ fl_X10_242) dX10_inner_6 (fun v1 hv1 hsv1 => ?_)
      obtain rfl : v1 = .int (Int32.ofInt gp) := Option.some.inj (hsv1.symm.trans hs23_4)
      refine tf_icmp_ge (tgt := 40) hx hb ⟨by omega, by omega⟩ ⟨by omega, by omega⟩ dX10_inner_9 (by decide) (fun h2 => ?_) (fun h2 => ?_)
      · refine lv_iload_n hx hb dX10_inner_40 rfl (lv_at hl 1 rfl) ?_
        exact tf_reti (z := x1_4) hx hb hr hlocks hQ hW ⟨by omega, by omega, by have h := hi0_4; rwa [show x2_4 = gp by omega] at h⟩ dX10_inner_41
      · refine lv_aload_n hx hb dX10_inner_12 rfl (lv_at hl 0 rfl) ?_
        refine tf_get hx hb hts inlX10 hown hK (ci := 10) rfl hW ha0 rfl 21 rfl (by decide) (hts _ fl_X10_39) dX10_inner_13 (fun v3 hv3 hsv3 => ?_)
        obtain rfl : v3 = .ref qpi := Option.some.inj (hsv3.symm.trans hs21_4)
        refine lv_iload_n hx hb dX10_inner_16 rfl (lv_at hl 2 rfl) ?_
        refine tf_iald (t0 := 0) hx hb hK hW hqpi rfl rfl (by omega) (by omega) dX10_inner_17 (fun v4 hv4 hsv4 => ?_)
        obtain ⟨z5, rfl, hz5⟩ := tf_v0 hv4
        have er6 : rpi x2_4 = z5 := hcPIL_4 ▸ tf_rw_of (by omega) hsv4 ⟨by omega, by omega⟩
        refine tf_bipush hx hb dX10_inner_18 (by decide) ?_
        refine tf_icmp_lt (tgt := 32) hx hb ⟨by omega, by omega⟩ ⟨by decide, by decide⟩ dX10_inner_20 (by decide) (fun h7 => ?_) (fun h7 => ?_)
        · refine lv_iload_n hx hb dX10_inner_32 rfl (lv_at hl 1 rfl) ?_
          exact j_33 ⟨by omega, by omega⟩ (x1_4) ⟨by omega, by omega⟩ (by first | exact tf_inn_yes hi0_4 (by omega) er6 (by omega) | exact tf_inn_no hi0_4 er6 (by omega)) (by first | omega | assumption) _ _ hW hs21_4 hs23_4 hcPIL_4 _ (lv_sub hl [0, 2] rfl)
        · refine lv_aload_n hx hb dX10_inner_23 rfl (lv_at hl 0 rfl) ?_
          refine tf_get hx hb hts inlX10 hown hK (ci := 10) rfl hW ha0 rfl 21 rfl (by decide) (hts _ fl_X10_39) dX10_inner_24 (fun v8 hv8 hsv8 => ?_)
          obtain rfl : v8 = .ref qpi := Option.some.inj (hsv8.symm.trans hs21_4)
          refine lv_iload_n hx hb dX10_inner_27 rfl (lv_at hl 2 rfl) ?_
          refine tf_iald (t0 := 0) hx hb hK hW hqpi rfl rfl (by omega) (by omega) dX10_inner_28 (fun v9 hv9 hsv9 => ?_)
          obtain ⟨z10, rfl, hz10⟩ := tf_v0 hv9
          have er11 : rpi x2_4 = z10 := hcPIL_4 ▸ tf_rw_of (by omega) hsv9 ⟨by omega, by omega⟩
          refine lv_goto (tgt := 33) hx hb dX10_inner_29 (by decide) ?_
          exact j_33 ⟨by omega, by omega⟩ (z10) ⟨by omega, by omega⟩ (by first | exact tf_inn_yes hi0_4 (by omega) er11 (by omega) | exact tf_inn_no hi0_4 er11 (by omega)) (by first | omega | assumption) _ _ hW hs21_4 hs23_4 hcPIL_4 _ (lv_sub hl [0, 2] rfl)
  refine tf_enter (As := [.ref a0]) hargs (Nat.le_of_ble_eq_true rfl) (fun ls hl => ?_)
  have hl : lv_has ls 3 [(0, .ref a0)] := hl
  refine tf_iconst hx hb dX10_inner_0 ?_
  refine lv_istore_n (lv' := [(1, .int (Int32.ofInt ((-1)))), (0, .ref a0)]) hx hb dX10_inner_1 rfl hl (by decide) rfl (fun ls hl => ?_)
  refine tf_iconst hx hb dX10_inner_2 ?_
  refine lv_istore_n (lv' := [(2, .int (Int32.ofInt 0)), (1, .int (Int32.ofInt ((-1)))), (0, .ref a0)]) hx hb dX10_inner_3 rfl hl (by decide) rfl (fun ls hl => ?_)
  exact j_4 ((400 - 0 + 1 : Int)).toNat ((-1)) ⟨by omega, by omega⟩ (0) ⟨by omega, by omega⟩ (by first | exact tf_inn_0 | exact hi0_33) (by first | omega | assumption) (by omega) _ _ hW he0 he1 he2 _ (lv_sub hl [2, 1, 0] rfl)

abbrev M_X10_isCompared : List (Nat × Nat) := []
set_option maxHeartbeats 4000000 in
set_option maxRecDepth 100000 in
theorem c_X10_isCompared (l : Launch) (g : tf_G) (T : tf_T) (a0 : Nat) (ha0 : T a0 = some (50, 0)) : Met l yX10_isCompared (cd_X10_isCompared :: wsL_law) ({ frames := 2, cells := 0, slots := 0, locals := 49 }) (tf_P g T [.ref a0] (fun H => True)) (tf_Qi g M_X10_isCompared T (fun z _ _ => z = 0 ∨ z = 1)) 0 0 (fun q => tf_B g ≤ q) := by
  refine Met.ofW (cc := cX10_isCompared) (maxL := 2) (ret := (some .boolean)) (by decide) rfl ?_
  intro p e s m args below meth c s₁ B hml hv
  obtain ⟨hargs, hk, hW0, hB, hpre⟩ := hv
  have hx := B.exec
  have hb := B.bytes
  have hr := B.returns
  have hts : ∀ w ∈ wsL_law, w.before args s = true := fun w h => atoms_spec (ws := cd_X10_isCompared :: wsL_law) B.pre w (List.mem_cons_of_mem _ h)
  have hown : s.vm.findClass RX10 = some m.cls := findClass_of_methodNamed B.named
  have hlocks := B.notSynchronized
  have hK := hk.1
  have hW := tf_n.start (M := M_X10_isCompared) hW0 hB
  obtain ⟨Q, hQ⟩ : ∃ q, q = MQ below (tf_Qi g M_X10_isCompared T (fun z _ _ => z = 0 ∨ z = 1)) args s 0 0 (fun q => tf_B g ≤ q) := ⟨_, rfl⟩
  rw [← hQ]
  obtain ⟨R, hR⟩ : ∃ q, q = (headSpec (cd_X10_isCompared :: wsL_law) ({ frames := 2, cells := 0, slots := 0, locals := 49 })).room := ⟨_, rfl⟩
  rw [← hR]
  have hR1 : 2 ≤ R.frames := by rw [hR]; exact Nat.le_refl _
  have hR2 : 49 ≤ R.locals := by rw [hR]; exact Nat.le_refl _
  have hR3 : 0 ≤ R.cells := by rw [hR]; exact Nat.le_refl _
  have hR4 : 0 ≤ R.slots := by rw [hR]; exact Nat.le_refl _
  have hin := (name_of_methodNamed B.named B.method).1
  clear hR B
  have j_36 : ∀ (x1_36 : Int), (-1) ≤ x1_36 ∧ x1_36 ≤ 399 → ∀ (H : Heap) (locs : List Loc), tf_n tf_kt g M_X10_isCompared T s.heap T H locs → ∀ (ls : Array Slot), lv_has ls 2 [(0, .ref a0), (1, .int (Int32.ofInt x1_36))] → W p l e R s m args below meth c H locs 0 0 Q (F0 m 36 ls []) := by
    intro x1_36 hx1_36 H locs hW  ls hl
    refine lv_iload_n hx hb dX10_isCompared_36 rfl (lv_at hl 1 rfl) ?_
    refine tf_if_lt (tgt := 63) hx hb ⟨by omega, by omega⟩ dX10_isCompared_37 (by decide) (fun h1 => ?_) (fun h1 => ?_)
    · refine tf_iconst hx hb dX10_isCompared_63 ?_
      exact tf_retz (z := 0) hx hb hr hlocks hQ hW (by omega) (show (0) = 0 ∨ (0) = 1 by omega) dX10_isCompared_64
    · refine lv_aload_n hx hb dX10_isCompared_40 rfl (lv_at hl 0 rfl) ?_
      refine tf_get hx hb hts inlX10 hown hK (ci := 10) rfl hW ha0 rfl 21 rfl (by decide) (hts _ fl_X10_39) dX10_isCompared_41 (fun v2 hv2 hsv2 => ?_)
      obtain ⟨ad3, rfl, had3⟩ := tf_v1 hv2
      refine lv_iload_n hx hb dX10_isCompared_44 rfl (lv_at hl 1 rfl) ?_
      refine tf_iald (t0 := 0) hx hb hK hW had3 rfl rfl (by omega) (by omega) dX10_isCompared_45 (fun v4 hv4 hsv4 => ?_)
      obtain ⟨z5, rfl, hz5⟩ := tf_v0 hv4
      refine tf_i2l hx hb ⟨by omega, by omega⟩ dX10_isCompared_46 ?_
      refine tf_ldc2 (z := 24) hx hb hown (hts _ kl_X10_55) (by decide) dX10_isCompared_47 ?_
      refine tf_ldc2 (z := 26) hx hb hown (hts _ kl_X10_256) (by decide) dX10_isCompared_50 ?_
      refine tf_calli (va_runS (As := [.long (Int64.ofInt z5), .long (Int64.ofInt 24), .long (Int64.ofInt 26)]) (rest := []) ⟨hx, hb, hml, hown, hts⟩ (c_X10_in l g T (z5) ⟨by omega, by omega⟩ (24) ⟨by omega, by omega⟩ (26) ⟨by omega, by omega⟩) ⟨callB_of 3 hts (gw_ws cm_X10_in) rfl rfl rfl (hts _ (tw1 (i := 5) rfl)) (hts _ (tw11 (i := 3) rfl)) hd_X10_in.2 ⟨Nat.le_trans (by decide) hR1, Nat.le_trans (by decide) hR2⟩, hts _ (tw11 (i := 4) rfl)⟩ (tf_preS hk hW trivial) rfl rfl hl.1 rfl (lv_room (Nat.le_of_ble_eq_true rfl)) dX10_isCompared_53 ⟨Nat.zero_le _, Nat.zero_le _⟩) hW (by decide) (fun z6 H6 locs6 hW hF6 hp6 => ?_)
      rcases hp6 with ⟨rfl, h7, h8⟩ | ⟨rfl, h9⟩
      · refine tf_if_eq (tgt := 63) hx hb ⟨by decide, by decide⟩ dX10_isCompared_56 (by decide) (fun h10 => ?_) (fun h10 => ?_)
        · exfalso; omega
        · refine tf_iconst hx hb dX10_isCompared_59 ?_
          refine lv_goto (tgt := 64) hx hb dX10_isCompared_60 (by decide) ?_
          exact tf_retz (z := 1) hx hb hr hlocks hQ hW (by omega) (show (1) = 0 ∨ (1) = 1 by omega) dX10_isCompared_64
      · refine tf_if_eq (tgt := 63) hx hb ⟨by decide, by decide⟩ dX10_isCompared_56 (by decide) (fun h11 => ?_) (fun h11 => ?_)
        · refine tf_iconst hx hb dX10_isCompared_63 ?_
          exact tf_retz (z := 0) hx hb hr hlocks hQ hW (by omega) (show (0) = 0 ∨ (0) = 1 by omega) dX10_isCompared_64
        · exfalso; omega
  have j_7 : ∀ (n_7 : Nat), ∀ (x1_7 : Int), (-1) ≤ x1_7 ∧ x1_7 ≤ 399 → (x1_7 - (-1) + 1 ≤ (n_7 : Int)) → ∀ (H : Heap) (locs : List Loc), tf_n tf_kt g M_X10_isCompared T s.heap T H locs → ∀ (ls : Array Slot), lv_has ls 2 [(0, .ref a0), (1, .int (Int32.ofInt x1_7))] → W p l e R s m args below meth c H locs 0 0 Q (F0 m 7 ls []) := by
    intro n_7
    induction n_7 with
    | zero =>
      intro x1_7 hx1_7 hm_7
      exfalso; omega
    | succ n_7 ih_7 =>
      intro x1_7 hx1_7 hm_7 H locs hW  ls hl
      refine lv_iload_n hx hb dX10_isCompared_7 rfl (lv_at hl 1 rfl) ?_
      refine tf_if_lt (tgt := 36) hx hb ⟨by omega, by omega⟩ dX10_isCompared_8 (by decide) (fun h12 => ?_) (fun h12 => ?_)
      · exact j_36 (x1_7) ⟨by omega, by omega⟩ _ _ hW  _ (lv_sub hl [0, 1] rfl)
      · refine lv_aload_n hx hb dX10_isCompared_11 rfl (lv_at hl 0 rfl) ?_
        refine tf_get hx hb hts inlX10 hown hK (ci := 10) rfl hW ha0 rfl 21 rfl (by decide) (hts _ fl_X10_39) dX10_isCompared_12 (fun v13 hv13 hsv13 => ?_)
        obtain ⟨ad14, rfl, had14⟩ := tf_v1 hv13
        refine lv_iload_n hx hb dX10_isCompared_15 rfl (lv_at hl 1 rfl) ?_
        refine tf_iald (t0 := 0) hx hb hK hW had14 rfl rfl (by omega) (by omega) dX10_isCompared_16 (fun v15 hv15 hsv15 => ?_)
        obtain ⟨z16, rfl, hz16⟩ := tf_v0 hv15
        refine tf_i2l hx hb ⟨by omega, by omega⟩ dX10_isCompared_17 ?_
        refine tf_ldc2 (z := 20) hx hb hown (hts _ kl_X10_252) (by decide) dX10_isCompared_18 ?_
        refine tf_ldc2 (z := 23) hx hb hown (hts _ kl_X10_254) (by decide) dX10_isCompared_21 ?_
        refine tf_calli (va_runS (As := [.long (Int64.ofInt z16), .long (Int64.ofInt 20), .long (Int64.ofInt 23)]) (rest := []) ⟨hx, hb, hml, hown, hts⟩ (c_X10_in l g T (z16) ⟨by omega, by omega⟩ (20) ⟨by omega, by omega⟩ (23) ⟨by omega, by omega⟩) ⟨callB_of 3 hts (gw_ws cm_X10_in) rfl rfl rfl (hts _ (tw1 (i := 5) rfl)) (hts _ (tw11 (i := 3) rfl)) hd_X10_in.2 ⟨Nat.le_trans (by decide) hR1, Nat.le_trans (by decide) hR2⟩, hts _ (tw11 (i := 4) rfl)⟩ (tf_preS hk hW trivial) rfl rfl hl.1 rfl (lv_room (Nat.le_of_ble_eq_true rfl)) dX10_isCompared_24 ⟨Nat.zero_le _, Nat.zero_le _⟩) hW (by decide) (fun z17 H17 locs17 hW hF17 hp17 => ?_)
        rcases hp17 with ⟨rfl, h18, h19⟩ | ⟨rfl, h20⟩
        · refine tf_if_eq (tgt := 36) hx hb ⟨by decide, by decide⟩ dX10_isCompared_27 (by decide) (fun h21 => ?_) (fun h21 => ?_)
          · exfalso; omega
          · refine lv_iinc (v := Int32.ofInt ((x1_7 + (-1)))) (lv' := [(1, .int (Int32.ofInt ((x1_7 + (-1))))), (0, .ref a0)]) hx hb dX10_isCompared_30 hl (k := 1) rfl (Int32.ofInt_add _ _).symm (by decide) rfl (fun ls hl => ?_)
            refine lv_goto (tgt := 7) hx hb dX10_isCompared_33 (by decide) ?_
            exact ih_7 ((x1_7 + (-1))) ⟨by omega, by omega⟩ (by omega) _ _ hW  _ (lv_sub hl [1, 0] rfl)
        · refine tf_if_eq (tgt := 36) hx hb ⟨by decide, by decide⟩ dX10_isCompared_27 (by decide) (fun h22 => ?_) (fun h22 => ?_)
          · exact j_36 (x1_7) ⟨by omega, by omega⟩ _ _ hW  _ (lv_sub hl [0, 1] rfl)
          · exfalso; omega
  refine tf_enter (As := [.ref a0]) hargs (Nat.le_of_ble_eq_true rfl) (fun ls hl => ?_)
  have hl : lv_has ls 2 [(0, .ref a0)] := hl
  refine lv_aload_n hx hb dX10_isCompared_0 rfl (lv_at hl 0 rfl) ?_
  refine tf_get hx hb hts inlX10 hown hK (ci := 10) rfl hW ha0 rfl 23 rfl (by decide) (hts _ fl_X10_242) dX10_isCompared_1 (fun v23 hv23 hsv23 => ?_)
  obtain ⟨z24, rfl, hz24⟩ := tf_v0 hv23
  refine tf_iconst hx hb dX10_isCompared_4 ?_
  refine tf_isub hx hb dX10_isCompared_5 ?_
  refine lv_istore_n (lv' := [(1, .int (Int32.ofInt ((z24 - 1)))), (0, .ref a0)]) hx hb dX10_isCompared_6 rfl hl (by decide) rfl (fun ls hl => ?_)
  exact j_7 (((z24 - 1) - (-1) + 1 : Int)).toNat ((z24 - 1)) ⟨by omega, by omega⟩ (by omega) _ _ hW  _ (lv_sub hl [1, 0] rfl)

abbrev M_X10_openBracket : List (Nat × Nat) := [(35, 0), (36, 0), (50, 9), (50, 10), (50, 11), (50, 12), (50, 13), (50, 14), (50, 23), (50, 24)]
set_option maxHeartbeats 4000000 in
set_option maxRecDepth 100000 in
theorem c_X10_openBracket (l : Launch) (g : tf_G) (T : tf_T) (a0 : Nat) (ha0 : T a0 = some (50, 0)) (x1 : Int) (hp1 : 30 ≤ x1 ∧ x1 ≤ 31) (qpi : Nat) (hqpi : T qpi = some (35, 400)) (qpa : Nat) (hqpa : T qpa = some (36, 400)) (gn : Int) (hgn : 0 ≤ gn ∧ gn ≤ 400) (gf : Int) (hgf : 0 ≤ gf ∧ gf ≤ 400) (gt : Int) (hgt : 0 ≤ gt ∧ gt ≤ 400) (gs : Int) (hgs : 0 ≤ gs ∧ gs ≤ 3) (gw : Int) (hgw : (-9223372036854775808) ≤ gw ∧ gw ≤ 9223372036854775807) (gb : Int) (hgb : 0 ≤ gb ∧ gb ≤ 1) (gc : Int) (hgc : 0 ≤ gc ∧ gc ≤ 400) (gp : Int) (hgp : 0 ≤ gp ∧ gp ≤ 400) (rpi : Int → Int) (rpa : Int → Int) (hq0 : (gb = 0)) (hq1 : (gs ≠ 0)) (hq2 : (gc + gp ≤ gf)) (hq3 : (gf ≤ gt ∧ gt ≤ gn ∧ (gs = 0 → gf = gn) ∧ (gs ≠ 0 → gf < gt) ∧ (gs = 1 → 26 < gw → gf + 2 ≤ gt))) : Met l yX10_openBracket (cd_X10_openBracket :: wsL_law) ({ frames := 4, cells := 0, slots := 0, locals := 85 }) (tf_P g T [.ref a0, .int (Int32.ofInt x1)] (fun H => tf_s H a0 (g.1.2 10 21) = some (.ref qpi) ∧ tf_s H a0 (g.1.2 10 22) = some (.ref qpa) ∧ tf_s H a0 (g.1.2 10 8) = some (.int (Int32.ofInt gn)) ∧ tf_s H a0 (g.1.2 10 9) = some (.int (Int32.ofInt gf)) ∧ tf_s H a0 (g.1.2 10 10) = some (.int (Int32.ofInt gt)) ∧ tf_s H a0 (g.1.2 10 11) = some (.int (Int32.ofInt gs)) ∧ tf_s H a0 (g.1.2 10 12) = some (.long (Int64.ofInt gw)) ∧ tf_s H a0 (g.1.2 10 14) = some (.int (Int32.ofInt gb)) ∧ tf_s H a0 (g.1.2 10 17) = some (.int (Int32.ofInt gc)) ∧ tf_s H a0 (g.1.2 10 23) = some (.int (Int32.ofInt gp)) ∧ tf_rw H qpi = rpi ∧ tf_rw H qpa = rpa)) (tf_Qv g M_X10_openBracket T (fun _ H => (∃ (gb1 gf1 gt1 gs1 gw1 gp1 : Int) (rpi1 rpa1 : Int → Int), tf_s H a0 (g.1.2 10 14) = some (.int (Int32.ofInt gb1)) ∧ tf_s H a0 (g.1.2 10 9) = some (.int (Int32.ofInt gf1)) ∧ tf_s H a0 (g.1.2 10 10) = some (.int (Int32.ofInt gt1)) ∧ tf_s H a0 (g.1.2 10 11) = some (.int (Int32.ofInt gs1)) ∧ tf_s H a0 (g.1.2 10 12) = some (.long (Int64.ofInt gw1)) ∧ tf_s H a0 (g.1.2 10 23) = some (.int (Int32.ofInt gp1)) ∧ tf_rw H qpi = rpi1 ∧ tf_rw H qpa = rpa1 ∧ (0 ≤ gb1 ∧ gb1 ≤ 1) ∧ (0 ≤ gf1 ∧ gf1 ≤ 400) ∧ (0 ≤ gt1 ∧ gt1 ≤ 400) ∧ (0 ≤ gs1 ∧ gs1 ≤ 3) ∧ ((-9223372036854775808) ≤ gw1 ∧ gw1 ≤ 9223372036854775807) ∧ (0 ≤ gp1 ∧ gp1 ≤ 400) ∧ (gf1 ≤ gt1 ∧ gt1 ≤ gn ∧ (gs1 = 0 → gf1 = gn) ∧ (gs1 ≠ 0 → gf1 < gt1) ∧ (gs1 = 1 → 26 < gw1 → gf1 + 2 ≤ gt1)) ∧ (gc + gp1 ≤ gf1) ∧ ((gb1 = 0 ∧ gf < gf1 ∧ gp1 = gp + 1 ∧ rpi1 = tf_up rpi gp x1 ∧ rpa1 = tf_up rpa gp 0) ∨ (gb1 = 1 ∧ gf1 = gf ∧ gp1 = gp ∧ rpi1 = rpi ∧ rpa1 = rpa))))) 0 0 (fun q => tf_B g ≤ q) := by
  refine Met.ofW (cc := cX10_openBracket) (maxL := 2) (ret := none) (by decide) rfl ?_
  intro p e s m args below meth c s₁ B hml hv
  obtain ⟨hargs, hk, hW0, hB, hpre⟩ := hv
  obtain ⟨he0, he1, he2, he3, he4, he5, he6, he7, he8, he9, he10, he11⟩ := hpre
  have hx := B.exec
  have hb := B.bytes
  have hr := B.returns
  have hts : ∀ w ∈ wsL_law, w.before args s = true := fun w h => atoms_spec (ws := cd_X10_openBracket :: wsL_law) B.pre w (List.mem_cons_of_mem _ h)
  have hown : s.vm.findClass RX10 = some m.cls := findClass_of_methodNamed B.named
  have hlocks := B.notSynchronized
  have hK := hk.1
  have hW := tf_n.start (M := M_X10_openBracket) hW0 hB
  obtain ⟨Q, hQ⟩ : ∃ q, q = MQ below (tf_Qv g M_X10_openBracket T (fun _ H => (∃ (gb1 gf1 gt1 gs1 gw1 gp1 : Int) (rpi1 rpa1 : Int → Int), tf_s H a0 (g.1.2 10 14) = some (.int (Int32.ofInt gb1)) ∧ tf_s H a0 (g.1.2 10 9) = some (.int (Int32.ofInt gf1)) ∧ tf_s H a0 (g.1.2 10 10) = some (.int (Int32.ofInt gt1)) ∧ tf_s H a0 (g.1.2 10 11) = some (.int (Int32.ofInt gs1)) ∧ tf_s H a0 (g.1.2 10 12) = some (.long (Int64.ofInt gw1)) ∧ tf_s H a0 (g.1.2 10 23) = some (.int (Int32.ofInt gp1)) ∧ tf_rw H qpi = rpi1 ∧ tf_rw H qpa = rpa1 ∧ (0 ≤ gb1 ∧ gb1 ≤ 1) ∧ (0 ≤ gf1 ∧ gf1 ≤ 400) ∧ (0 ≤ gt1 ∧ gt1 ≤ 400) ∧ (0 ≤ gs1 ∧ gs1 ≤ 3) ∧ ((-9223372036854775808) ≤ gw1 ∧ gw1 ≤ 9223372036854775807) ∧ (0 ≤ gp1 ∧ gp1 ≤ 400) ∧ (gf1 ≤ gt1 ∧ gt1 ≤ gn ∧ (gs1 = 0 → gf1 = gn) ∧ (gs1 ≠ 0 → gf1 < gt1) ∧ (gs1 = 1 → 26 < gw1 → gf1 + 2 ≤ gt1)) ∧ (gc + gp1 ≤ gf1) ∧ ((gb1 = 0 ∧ gf < gf1 ∧ gp1 = gp + 1 ∧ rpi1 = tf_up rpi gp x1 ∧ rpa1 = tf_up rpa gp 0) ∨ (gb1 = 1 ∧ gf1 = gf ∧ gp1 = gp ∧ rpi1 = rpi ∧ rpa1 = rpa))))) args s 0 0 (fun q => tf_B g ≤ q) := ⟨_, rfl⟩
  rw [← hQ]
  obtain ⟨R, hR⟩ : ∃ q, q = (headSpec (cd_X10_openBracket :: wsL_law) ({ frames := 4, cells := 0, slots := 0, locals := 85 })).room := ⟨_, rfl⟩
  rw [← hR]
  have hR1 : 4 ≤ R.frames := by rw [hR]; exact Nat.le_refl _
  have hR2 : 85 ≤ R.locals := by rw [hR]; exact Nat.le_refl _
  have hR3 : 0 ≤ R.cells := by rw [hR]; exact Nat.le_refl _
  have hR4 : 0 ≤ R.slots := by rw [hR]; exact Nat.le_refl _
  have hin := (name_of_methodNamed B.named B.method).1
  clear hR B
  refine tf_enter (As := [.ref a0, .int (Int32.ofInt x1)]) hargs (Nat.le_of_ble_eq_true rfl) (fun ls hl => ?_)
  have hl : lv_has ls 2 [(0, .ref a0), (1, .int (Int32.ofInt x1))] := hl
  refine lv_aload_n hx hb dX10_openBracket_0 rfl (lv_at hl 0 rfl) ?_
  refine lv_aload_n hx hb dX10_openBracket_1 rfl (lv_at hl 0 rfl) ?_
  refine tf_get hx hb hts inlX10 hown hK (ci := 10) rfl hW ha0 rfl 24 rfl (by decide) (hts _ fl_X10_262) dX10_openBracket_2 (fun v1 hv1 hsv1 => ?_)
  obtain ⟨z2, rfl, hz2⟩ := tf_v0 hv1
  refine tf_bipush hx hb dX10_openBracket_5 (by decide) ?_
  refine tf_icmp_ge (tgt := 14) hx hb ⟨by omega, by omega⟩ ⟨by decide, by decide⟩ dX10_openBracket_7 (by decide) (fun h3 => ?_) (fun h3 => ?_)
  · refine tf_iconst hx hb dX10_openBracket_14 ?_
    refine tf_callv (va_runV (As := [.int (Int32.ofInt 0)]) (rest := []) ⟨hx, hb, hml, hown, hts⟩ (c_X10_must l g T a0 ha0 (0) ⟨by omega, by omega⟩ (gn) ⟨by omega, by omega⟩ (gf) ⟨by omega, by omega⟩ (gt) ⟨by omega, by omega⟩ (gs) ⟨by omega, by omega⟩ (gw) ⟨by omega, by omega⟩ (gb) ⟨by omega, by omega⟩ (by first | omega | assumption)) (cwV 1 hts gv_X10_235 rfl rfl rfl hd_X10_must ⟨Nat.le_trans (by decide) hR1, Nat.le_trans (by decide) hR2⟩) (tf_preV hk hW ha0 (ci := 10) rfl rfl ⟨he2, he3, he4, he5, he6, he7⟩) rfl rfl hl.1 rfl (lv_room (Nat.le_of_ble_eq_true rfl)) dX10_openBracket_15 ⟨Nat.zero_le _, Nat.zero_le _⟩) hW (by decide) (fun H4 locs4 hW hF4 hp4 => ?_)
    have hs5 := tf_keepF hF4 ha0 rfl rfl (by decide) he0
    have hs6 := tf_keepF hF4 ha0 rfl rfl (by decide) he1
    have hs7 := tf_keepF hF4 ha0 rfl rfl (by decide) he2
    have hs8 := tf_keepF hF4 ha0 rfl rfl (by decide) he8
    have hs9 := tf_keepF hF4 ha0 rfl rfl (by decide) he9
    have hs10 := tf_keepC hF4 hqpi rfl (by decide) he10
    have hs11 := tf_keepC hF4 hqpa rfl (by decide) he11
    have hs12 := tf_keepF hF4 ha0 rfl rfl (by decide) hsv1
    obtain ⟨gb1_4, gf1_4, gt1_4, gs1_4, gw1_4, hX4_0, hX4_1, hX4_2, hX4_3, hX4_4, hB4_0, hB4_1, hB4_2, hB4_3, hB4_4, hR4_0⟩ := hp4
    refine lv_aload_n hx hb dX10_openBracket_18 rfl (lv_at hl 0 rfl) ?_
    refine tf_get hx hb hts inlX10 hown hK (ci := 10) rfl hW ha0 rfl 14 rfl (by decide) (hts _ fl_X10_200) dX10_openBracket_19 (fun v13 hv13 hsv13 => ?_)
    obtain rfl : v13 = .int (Int32.ofInt gb1_4) := Option.some.inj (hsv13.symm.trans hX4_0)
    refine tf_if_ne (tgt := 41) hx hb ⟨by omega, by omega⟩ dX10_openBracket_22 (by decide) (fun h14 => ?_) (fun h14 => ?_)
    · exact tf_retv hx hb hr hlocks hQ hW ⟨(gb1_4), (gf1_4), (gt1_4), (gs1_4), (gw1_4), (gp), rpi, rpa, hX4_0, hX4_1, hX4_2, hX4_3, hX4_4, hs9, hs10, hs11, ⟨by omega, by omega⟩, ⟨by omega, by omega⟩, ⟨by omega, by omega⟩, ⟨by omega, by omega⟩, ⟨by omega, by omega⟩, ⟨by omega, by omega⟩, (by first | omega | assumption), (by first | omega | assumption), (by first | exact Or.inl ⟨by omega, by omega, by omega, rfl, rfl⟩ | exact Or.inr ⟨by omega, by omega, by omega, rfl, rfl⟩)⟩ dX10_openBracket_41
    · refine lv_aload_n hx hb dX10_openBracket_25 rfl (lv_at hl 0 rfl) ?_
      refine lv_dup hx hb dX10_openBracket_26 rfl ?_
      refine tf_get hx hb hts inlX10 hown hK (ci := 10) rfl hW ha0 rfl 24 rfl (by decide) (hts _ fl_X10_262) dX10_openBracket_27 (fun v15 hv15 hsv15 => ?_)
      obtain rfl : v15 = .int (Int32.ofInt z2) := Option.some.inj (hsv15.symm.trans hs12)
      refine tf_iconst hx hb dX10_openBracket_30 ?_
      refine tf_iadd_any hx hb dX10_openBracket_31 (fun z16 hz16 => ?_)
      refine tf_put hx hb hts inlX10 tyX10 tyX10_ok nmX10 hown hK (ci := 10) rfl hW ha0 rfl rfl 24 rfl (by decide) (by decide) (hts _ fl_X10_262) rfl (tf_u0 (by omega) (by omega)) rfl rfl dX10_openBracket_32 (fun H17 locs17 hW hs17 ht17 hq17 => ?_)
      have hs18 := (ht17 21 (by decide) (by decide)).trans hs5
      have hs19 := (ht17 22 (by decide) (by decide)).trans hs6
      have hs20 := (ht17 8 (by decide) (by decide)).trans hs7
      have hs21 := (ht17 17 (by decide) (by decide)).trans hs8
      have hs22 := (ht17 23 (by decide) (by decide)).trans hs9
      have hs23 := tf_keepCQ hs10 (hq17 _ (tf_ne hqpi ha0 (by decide)))
      have hs24 := tf_keepCQ hs11 (hq17 _ (tf_ne hqpa ha0 (by decide)))
      have hs25 := (ht17 14 (by decide) (by decide)).trans hX4_0
      have hs26 := (ht17 9 (by decide) (by decide)).trans hX4_1
      have hs27 := (ht17 10 (by decide) (by decide)).trans hX4_2
      have hs28 := (ht17 11 (by decide) (by decide)).trans hX4_3
      have hs29 := (ht17 12 (by decide) (by decide)).trans hX4_4
      refine lv_aload_n hx hb dX10_openBracket_35 rfl (lv_at hl 0 rfl) ?_
      refine lv_iload_n hx hb dX10_openBracket_36 rfl (lv_at hl 1 rfl) ?_
      refine tf_iconst hx hb dX10_openBracket_37 ?_
      refine tf_callv (va_runV (As := [.int (Int32.ofInt x1), .int (Int32.ofInt 0)]) (rest := []) ⟨hx, hb, hml, hown, hts⟩ (c_X10_push l g T a0 ha0 (x1) ⟨by omega, by omega⟩ (0) ⟨by omega, by omega⟩ qpi hqpi qpa hqpa (gp) ⟨by omega, by omega⟩ rpi rpa) (cwV 2 hts gv_X10_265 rfl rfl rfl hd_X10_push ⟨Nat.le_trans (by decide) hR1, Nat.le_trans (by decide) hR2⟩) (tf_preV hk hW ha0 (ci := 10) rfl rfl ⟨hs18, hs19, hs22, hs23, hs24⟩) rfl rfl hl.1 rfl (lv_room (Nat.le_of_ble_eq_true rfl)) dX10_openBracket_38 ⟨Nat.zero_le _, Nat.zero_le _⟩) hW (by decide) (fun H30 locs30 hW hF30 hp30 => ?_)
      have hs31 := tf_keepF hF30 ha0 rfl rfl (by decide) hs18
      have hs32 := tf_keepF hF30 ha0 rfl rfl (by decide) hs19
      have hs33 := tf_keepF hF30 ha0 rfl rfl (by decide) hs20
      have hs34 := tf_keepF hF30 ha0 rfl rfl (by decide) hs21
      have hs35 := tf_keepF hF30 ha0 rfl rfl (by decide) hs25
      have hs36 := tf_keepF hF30 ha0 rfl rfl (by decide) hs26
      have hs37 := tf_keepF hF30 ha0 rfl rfl (by decide) hs27
      have hs38 := tf_keepF hF30 ha0 rfl rfl (by decide) hs28
      have hs39 := tf_keepF hF30 ha0 rfl rfl (by decide) hs29
      obtain ⟨ho30_0, ho30_1, ho30_2⟩ := hp30
      exact tf_retv hx hb hr hlocks hQ hW ⟨(gb1_4), (gf1_4), (gt1_4), (gs1_4), (gw1_4), ((gp + 1)), (tf_up (rpi) (gp) (x1)), (tf_up (rpa) (gp) (0)), hs35, hs36, hs37, hs38, hs39, ho30_0, ho30_1, ho30_2, ⟨by omega, by omega⟩, ⟨by omega, by omega⟩, ⟨by omega, by omega⟩, ⟨by omega, by omega⟩, ⟨by omega, by omega⟩, ⟨by omega, by omega⟩, (by first | omega | assumption), (by first | omega | assumption), (by first | exact Or.inl ⟨by omega, by omega, by omega, rfl, rfl⟩ | exact Or.inr ⟨by omega, by omega, by omega, rfl, rfl⟩)⟩ dX10_openBracket_41
  · refine tf_iconst hx hb dX10_openBracket_10 ?_
    refine lv_goto (tgt := 15) hx hb dX10_openBracket_11 (by decide) ?_
    refine tf_callv (va_runV (As := [.int (Int32.ofInt 1)]) (rest := []) ⟨hx, hb, hml, hown, hts⟩ (c_X10_must l g T a0 ha0 (1) ⟨by omega, by omega⟩ (gn) ⟨by omega, by omega⟩ (gf) ⟨by omega, by omega⟩ (gt) ⟨by omega, by omega⟩ (gs) ⟨by omega, by omega⟩ (gw) ⟨by omega, by omega⟩ (gb) ⟨by omega, by omega⟩ (by first | omega | assumption)) (cwV 1 hts gv_X10_235 rfl rfl rfl hd_X10_must ⟨Nat.le_trans (by decide) hR1, Nat.le_trans (by decide) hR2⟩) (tf_preV hk hW ha0 (ci := 10) rfl rfl ⟨he2, he3, he4, he5, he6, he7⟩) rfl rfl hl.1 rfl (lv_room (Nat.le_of_ble_eq_true rfl)) dX10_openBracket_15 ⟨Nat.zero_le _, Nat.zero_le _⟩) hW (by decide) (fun H40 locs40 hW hF40 hp40 => ?_)
    have hs41 := tf_keepF hF40 ha0 rfl rfl (by decide) he0
    have hs42 := tf_keepF hF40 ha0 rfl rfl (by decide) he1
    have hs43 := tf_keepF hF40 ha0 rfl rfl (by decide) he2
    have hs44 := tf_keepF hF40 ha0 rfl rfl (by decide) he8
    have hs45 := tf_keepF hF40 ha0 rfl rfl (by decide) he9
    have hs46 := tf_keepC hF40 hqpi rfl (by decide) he10
    have hs47 := tf_keepC hF40 hqpa rfl (by decide) he11
    have hs48 := tf_keepF hF40 ha0 rfl rfl (by decide) hsv1
    obtain ⟨gb1_40, gf1_40, gt1_40, gs1_40, gw1_40, hX40_0, hX40_1, hX40_2, hX40_3, hX40_4, hB40_0, hB40_1, hB40_2, hB40_3, hB40_4, hR40_0⟩ := hp40
    refine lv_aload_n hx hb dX10_openBracket_18 rfl (lv_at hl 0 rfl) ?_
    refine tf_get hx hb hts inlX10 hown hK (ci := 10) rfl hW ha0 rfl 14 rfl (by decide) (hts _ fl_X10_200) dX10_openBracket_19 (fun v49 hv49 hsv49 => ?_)
    obtain rfl : v49 = .int (Int32.ofInt gb1_40) := Option.some.inj (hsv49.symm.trans hX40_0)
    refine tf_if_ne (tgt := 41) hx hb ⟨by omega, by omega⟩ dX10_openBracket_22 (by decide) (fun h50 => ?_) (fun h50 => ?_)
    · exact tf_retv hx hb hr hlocks hQ hW ⟨(gb1_40), (gf1_40), (gt1_40), (gs1_40), (gw1_40), (gp), rpi, rpa, hX40_0, hX40_1, hX40_2, hX40_3, hX40_4, hs45, hs46, hs47, ⟨by omega, by omega⟩, ⟨by omega, by omega⟩, ⟨by omega, by omega⟩, ⟨by omega, by omega⟩, ⟨by omega, by omega⟩, ⟨by omega, by omega⟩, (by first | omega | assumption), (by first | omega | assumption), (by first | exact Or.inl ⟨by omega, by omega, by omega, rfl, rfl⟩ | exact Or.inr ⟨by omega, by omega, by omega, rfl, rfl⟩)⟩ dX10_openBracket_41
    · refine lv_aload_n hx hb dX10_openBracket_25 rfl (lv_at hl 0 rfl) ?_
      refine lv_dup hx hb dX10_openBracket_26 rfl ?_
      refine tf_get hx hb hts inlX10 hown hK (ci := 10) rfl hW ha0 rfl 24 rfl (by decide) (hts _ fl_X10_262) dX10_openBracket_27 (fun v51 hv51 hsv51 => ?_)
      obtain rfl : v51 = .int (Int32.ofInt z2) := Option.some.inj (hsv51.symm.trans hs48)
      refine tf_iconst hx hb dX10_openBracket_30 ?_
      refine tf_iadd hx hb dX10_openBracket_31 ?_
      refine tf_put hx hb hts inlX10 tyX10 tyX10_ok nmX10 hown hK (ci := 10) rfl hW ha0 rfl rfl 24 rfl (by decide) (by decide) (hts _ fl_X10_262) rfl (tf_u0 (by omega) (by omega)) rfl rfl dX10_openBracket_32 (fun H52 locs52 hW hs52 ht52 hq52 => ?_)
      have hs53 := (ht52 21 (by decide) (by decide)).trans hs41
      have hs54 := (ht52 22 (by decide) (by decide)).trans hs42
      have hs55 := (ht52 8 (by decide) (by decide)).trans hs43
      have hs56 := (ht52 17 (by decide) (by decide)).trans hs44
      have hs57 := (ht52 23 (by decide) (by decide)).trans hs45
      have hs58 := tf_keepCQ hs46 (hq52 _ (tf_ne hqpi ha0 (by decide)))
      have hs59 := tf_keepCQ hs47 (hq52 _ (tf_ne hqpa ha0 (by decide)))
      have hs60 := (ht52 14 (by decide) (by decide)).trans hX40_0
      have hs61 := (ht52 9 (by decide) (by decide)).trans hX40_1
      have hs62 := (ht52 10 (by decide) (by decide)).trans hX40_2
      have hs63 := (ht52 11 (by decide) (by decide)).trans hX40_3
      have hs64 := (ht52 12 (by decide) (by decide)).trans hX40_4
      refine lv_aload_n hx hb dX10_openBracket_35 rfl (lv_at hl 0 rfl) ?_
      refine lv_iload_n hx hb dX10_openBracket_36 rfl (lv_at hl 1 rfl) ?_
      refine tf_iconst hx hb dX10_openBracket_37 ?_
      refine tf_callv (va_runV (As := [.int (Int32.ofInt x1), .int (Int32.ofInt 0)]) (rest := []) ⟨hx, hb, hml, hown, hts⟩ (c_X10_push l g T a0 ha0 (x1) ⟨by omega, by omega⟩ (0) ⟨by omega, by omega⟩ qpi hqpi qpa hqpa (gp) ⟨by omega, by omega⟩ rpi rpa) (cwV 2 hts gv_X10_265 rfl rfl rfl hd_X10_push ⟨Nat.le_trans (by decide) hR1, Nat.le_trans (by decide) hR2⟩) (tf_preV hk hW ha0 (ci := 10) rfl rfl ⟨hs53, hs54, hs57, hs58, hs59⟩) rfl rfl hl.1 rfl (lv_room (Nat.le_of_ble_eq_true rfl)) dX10_openBracket_38 ⟨Nat.zero_le _, Nat.zero_le _⟩) hW (by decide) (fun H65 locs65 hW hF65 hp65 => ?_)
      have hs66 := tf_keepF hF65 ha0 rfl rfl (by decide) hs53
      have hs67 := tf_keepF hF65 ha0 rfl rfl (by decide) hs54
      have hs68 := tf_keepF hF65 ha0 rfl rfl (by decide) hs55
      have hs69 := tf_keepF hF65 ha0 rfl rfl (by decide) hs56
      have hs70 := tf_keepF hF65 ha0 rfl rfl (by decide) hs60
      have hs71 := tf_keepF hF65 ha0 rfl rfl (by decide) hs61
      have hs72 := tf_keepF hF65 ha0 rfl rfl (by decide) hs62
      have hs73 := tf_keepF hF65 ha0 rfl rfl (by decide) hs63
      have hs74 := tf_keepF hF65 ha0 rfl rfl (by decide) hs64
      obtain ⟨ho65_0, ho65_1, ho65_2⟩ := hp65
      exact tf_retv hx hb hr hlocks hQ hW ⟨(gb1_40), (gf1_40), (gt1_40), (gs1_40), (gw1_40), ((gp + 1)), (tf_up (rpi) (gp) (x1)), (tf_up (rpa) (gp) (0)), hs70, hs71, hs72, hs73, hs74, ho65_0, ho65_1, ho65_2, ⟨by omega, by omega⟩, ⟨by omega, by omega⟩, ⟨by omega, by omega⟩, ⟨by omega, by omega⟩, ⟨by omega, by omega⟩, ⟨by omega, by omega⟩, (by first | omega | assumption), (by first | omega | assumption), (by first | exact Or.inl ⟨by omega, by omega, by omega, rfl, rfl⟩ | exact Or.inr ⟨by omega, by omega, by omega, rfl, rfl⟩)⟩ dX10_openBracket_41

abbrev M_X10_leaf : List (Nat × Nat) := [(33, 0), (34, 0), (50, 9), (50, 10), (50, 11), (50, 12), (50, 13), (50, 14), (50, 17), (50, 20)]
set_option maxHeartbeats 4000000 in
set_option maxRecDepth 100000 in
theorem c_X10_leaf (l : Launch) (g : tf_G) (T : tf_T) (a0 : Nat) (ha0 : T a0 = some (50, 0)) (x1 : Int) (hp1 : 0 ≤ x1 ∧ x1 ≤ 1) (x2 : Int) (hp2 : 0 ≤ x2 ∧ x2 ≤ 9) (x3 : Int) (hp3 : (-2147483648) ≤ x3 ∧ x3 ≤ 2147483647) (qop : Nat) (hqop : T qop = some (33, 400)) (qar : Nat) (hqar : T qar = some (34, 400)) (gn : Int) (hgn : 0 ≤ gn ∧ gn ≤ 400) (gf : Int) (hgf : 0 ≤ gf ∧ gf ≤ 400) (gt : Int) (hgt : 0 ≤ gt ∧ gt ≤ 400) (gs : Int) (hgs : 0 ≤ gs ∧ gs ≤ 3) (gw : Int) (hgw : (-9223372036854775808) ≤ gw ∧ gw ≤ 9223372036854775807) (gb : Int) (hgb : 0 ≤ gb ∧ gb ≤ 1) (gc : Int) (hgc : 0 ≤ gc ∧ gc ≤ 400) (gp : Int) (hgp : 0 ≤ gp ∧ gp ≤ 400) (rop : Int → Int) (rar : Int → Int) (hq0 : (gb = 0)) (hq1 : (x1 = 1 → gs ≠ 0)) (hq2 : (gc + gp ≤ gf)) (hq3 : (gf ≤ gt ∧ gt ≤ gn ∧ (gs = 0 → gf = gn) ∧ (gs ≠ 0 → gf < gt) ∧ (gs = 1 → 26 < gw → gf + 2 ≤ gt))) : Met l yX10_leaf (cd_X10_leaf :: wsL_law) ({ frames := 4, cells := 0, slots := 0, locals := 85 }) (tf_P g T [.ref a0, .int (Int32.ofInt x1), .int (Int32.ofInt x2), .int (Int32.ofInt x3)] (fun H => tf_s H a0 (g.1.2 10 18) = some (.ref qop) ∧ tf_s H a0 (g.1.2 10 19) = some (.ref qar) ∧ tf_s H a0 (g.1.2 10 8) = some (.int (Int32.ofInt gn)) ∧ tf_s H a0 (g.1.2 10 9) = some (.int (Int32.ofInt gf)) ∧ tf_s H a0 (g.1.2 10 10) = some (.int (Int32.ofInt gt)) ∧ tf_s H a0 (g.1.2 10 11) = some (.int (Int32.ofInt gs)) ∧ tf_s H a0 (g.1.2 10 12) = some (.long (Int64.ofInt gw)) ∧ tf_s H a0 (g.1.2 10 14) = some (.int (Int32.ofInt gb)) ∧ tf_s H a0 (g.1.2 10 17) = some (.int (Int32.ofInt gc)) ∧ tf_s H a0 (g.1.2 10 23) = some (.int (Int32.ofInt gp)) ∧ tf_rw H qop = rop ∧ tf_rw H qar = rar)) (tf_Qv g M_X10_leaf T (fun _ H => (∃ (gb1 gf1 gt1 gs1 gw1 gc1 : Int) (rop1 rar1 : Int → Int), tf_s H a0 (g.1.2 10 14) = some (.int (Int32.ofInt gb1)) ∧ tf_s H a0 (g.1.2 10 9) = some (.int (Int32.ofInt gf1)) ∧ tf_s H a0 (g.1.2 10 10) = some (.int (Int32.ofInt gt1)) ∧ tf_s H a0 (g.1.2 10 11) = some (.int (Int32.ofInt gs1)) ∧ tf_s H a0 (g.1.2 10 12) = some (.long (Int64.ofInt gw1)) ∧ tf_s H a0 (g.1.2 10 17) = some (.int (Int32.ofInt gc1)) ∧ tf_rw H qop = rop1 ∧ tf_rw H qar = rar1 ∧ (0 ≤ gb1 ∧ gb1 ≤ 1) ∧ (0 ≤ gf1 ∧ gf1 ≤ 400) ∧ (0 ≤ gt1 ∧ gt1 ≤ 400) ∧ (0 ≤ gs1 ∧ gs1 ≤ 3) ∧ ((-9223372036854775808) ≤ gw1 ∧ gw1 ≤ 9223372036854775807) ∧ (0 ≤ gc1 ∧ gc1 ≤ 400) ∧ (gf1 ≤ gt1 ∧ gt1 ≤ gn ∧ (gs1 = 0 → gf1 = gn) ∧ (gs1 ≠ 0 → gf1 < gt1) ∧ (gs1 = 1 → 26 < gw1 → gf1 + 2 ≤ gt1)) ∧ (gc1 + gp ≤ gf1) ∧ ((gb1 = 0 ∧ gf < gf1 ∧ gc1 = gc + 1 ∧ rop1 = tf_up rop gc x2 ∧ rar1 = tf_up rar gc x3) ∨ (gb1 = 1 ∧ gf1 = gf ∧ gc1 = gc ∧ rop1 = rop ∧ rar1 = rar))))) 0 0 (fun q => tf_B g ≤ q) := by
  refine Met.ofW (cc := cX10_leaf) (maxL := 4) (ret := none) (by decide) rfl ?_
  intro p e s m args below meth c s₁ B hml hv
  obtain ⟨hargs, hk, hW0, hB, hpre⟩ := hv
  obtain ⟨he0, he1, he2, he3, he4, he5, he6, he7, he8, he9, he10, he11⟩ := hpre
  have hx := B.exec
  have hb := B.bytes
  have hr := B.returns
  have hts : ∀ w ∈ wsL_law, w.before args s = true := fun w h => atoms_spec (ws := cd_X10_leaf :: wsL_law) B.pre w (List.mem_cons_of_mem _ h)
  have hown : s.vm.findClass RX10 = some m.cls := findClass_of_methodNamed B.named
  have hlocks := B.notSynchronized
  have hK := hk.1
  have hW := tf_n.start (M := M_X10_leaf) hW0 hB
  obtain ⟨Q, hQ⟩ : ∃ q, q = MQ below (tf_Qv g M_X10_leaf T (fun _ H => (∃ (gb1 gf1 gt1 gs1 gw1 gc1 : Int) (rop1 rar1 : Int → Int), tf_s H a0 (g.1.2 10 14) = some (.int (Int32.ofInt gb1)) ∧ tf_s H a0 (g.1.2 10 9) = some (.int (Int32.ofInt gf1)) ∧ tf_s H a0 (g.1.2 10 10) = some (.int (Int32.ofInt gt1)) ∧ tf_s H a0 (g.1.2 10 11) = some (.int (Int32.ofInt gs1)) ∧ tf_s H a0 (g.1.2 10 12) = some (.long (Int64.ofInt gw1)) ∧ tf_s H a0 (g.1.2 10 17) = some (.int (Int32.ofInt gc1)) ∧ tf_rw H qop = rop1 ∧ tf_rw H qar = rar1 ∧ (0 ≤ gb1 ∧ gb1 ≤ 1) ∧ (0 ≤ gf1 ∧ gf1 ≤ 400) ∧ (0 ≤ gt1 ∧ gt1 ≤ 400) ∧ (0 ≤ gs1 ∧ gs1 ≤ 3) ∧ ((-9223372036854775808) ≤ gw1 ∧ gw1 ≤ 9223372036854775807) ∧ (0 ≤ gc1 ∧ gc1 ≤ 400) ∧ (gf1 ≤ gt1 ∧ gt1 ≤ gn ∧ (gs1 = 0 → gf1 = gn) ∧ (gs1 ≠ 0 → gf1 < gt1) ∧ (gs1 = 1 → 26 < gw1 → gf1 + 2 ≤ gt1)) ∧ (gc1 + gp ≤ gf1) ∧ ((gb1 = 0 ∧ gf < gf1 ∧ gc1 = gc + 1 ∧ rop1 = tf_up rop gc x2 ∧ rar1 = tf_up rar gc x3) ∨ (gb1 = 1 ∧ gf1 = gf ∧ gc1 = gc ∧ rop1 = rop ∧ rar1 = rar))))) args s 0 0 (fun q => tf_B g ≤ q) := ⟨_, rfl⟩
  rw [← hQ]
  obtain ⟨R, hR⟩ : ∃ q, q = (headSpec (cd_X10_leaf :: wsL_law) ({ frames := 4, cells := 0, slots := 0, locals := 85 })).room := ⟨_, rfl⟩
  rw [← hR]
  have hR1 : 4 ≤ R.frames := by rw [hR]; exact Nat.le_refl _
  have hR2 : 85 ≤ R.locals := by rw [hR]; exact Nat.le_refl _
  have hR3 : 0 ≤ R.cells := by rw [hR]; exact Nat.le_refl _
  have hR4 : 0 ≤ R.slots := by rw [hR]; exact Nat.le_refl _
  have hin := (name_of_methodNamed B.named B.method).1
  clear hR B
  refine tf_enter (As := [.ref a0, .int (Int32.ofInt x1), .int (Int32.ofInt x2), .int (Int32.ofInt x3)]) hargs (Nat.le_of_ble_eq_true rfl) (fun ls hl => ?_)
  have hl : lv_has ls 4 [(0, .ref a0), (1, .int (Int32.ofInt x1)), (2, .int (Int32.ofInt x2)), (3, .int (Int32.ofInt x3))] := hl
  refine lv_aload_n hx hb dX10_leaf_0 rfl (lv_at hl 0 rfl) ?_
  refine lv_iload_n hx hb dX10_leaf_1 rfl (lv_at hl 1 rfl) ?_
  refine tf_if_eq (tgt := 18) hx hb ⟨by omega, by omega⟩ dX10_leaf_2 (by decide) (fun h1 => ?_) (fun h1 => ?_)
  · refine tf_iconst hx hb dX10_leaf_18 ?_
    refine tf_callv (va_runV (As := [.int (Int32.ofInt 0)]) (rest := []) ⟨hx, hb, hml, hown, hts⟩ (c_X10_must l g T a0 ha0 (0) ⟨by omega, by omega⟩ (gn) ⟨by omega, by omega⟩ (gf) ⟨by omega, by omega⟩ (gt) ⟨by omega, by omega⟩ (gs) ⟨by omega, by omega⟩ (gw) ⟨by omega, by omega⟩ (gb) ⟨by omega, by omega⟩ (by first | omega | assumption)) (cwV 1 hts gv_X10_235 rfl rfl rfl hd_X10_must ⟨Nat.le_trans (by decide) hR1, Nat.le_trans (by decide) hR2⟩) (tf_preV hk hW ha0 (ci := 10) rfl rfl ⟨he2, he3, he4, he5, he6, he7⟩) rfl rfl hl.1 rfl (lv_room (Nat.le_of_ble_eq_true rfl)) dX10_leaf_19 ⟨Nat.zero_le _, Nat.zero_le _⟩) hW (by decide) (fun H2 locs2 hW hF2 hp2 => ?_)
    have hs3 := tf_keepF hF2 ha0 rfl rfl (by decide) he0
    have hs4 := tf_keepF hF2 ha0 rfl rfl (by decide) he1
    have hs5 := tf_keepF hF2 ha0 rfl rfl (by decide) he2
    have hs6 := tf_keepF hF2 ha0 rfl rfl (by decide) he8
    have hs7 := tf_keepF hF2 ha0 rfl rfl (by decide) he9
    have hs8 := tf_keepC hF2 hqop rfl (by decide) he10
    have hs9 := tf_keepC hF2 hqar rfl (by decide) he11
    obtain ⟨gb1_2, gf1_2, gt1_2, gs1_2, gw1_2, hX2_0, hX2_1, hX2_2, hX2_3, hX2_4, hB2_0, hB2_1, hB2_2, hB2_3, hB2_4, hR2_0⟩ := hp2
    refine lv_aload_n hx hb dX10_leaf_22 rfl (lv_at hl 0 rfl) ?_
    refine tf_get hx hb hts inlX10 hown hK (ci := 10) rfl hW ha0 rfl 14 rfl (by decide) (hts _ fl_X10_200) dX10_leaf_23 (fun v10 hv10 hsv10 => ?_)
    obtain rfl : v10 = .int (Int32.ofInt gb1_2) := Option.some.inj (hsv10.symm.trans hX2_0)
    refine tf_if_ne (tgt := 45) hx hb ⟨by omega, by omega⟩ dX10_leaf_26 (by decide) (fun h11 => ?_) (fun h11 => ?_)
    · exact tf_retv hx hb hr hlocks hQ hW ⟨(gb1_2), (gf1_2), (gt1_2), (gs1_2), (gw1_2), (gc), rop, rar, hX2_0, hX2_1, hX2_2, hX2_3, hX2_4, hs6, hs8, hs9, ⟨by omega, by omega⟩, ⟨by omega, by omega⟩, ⟨by omega, by omega⟩, ⟨by omega, by omega⟩, ⟨by omega, by omega⟩, ⟨by omega, by omega⟩, (by first | omega | assumption), (by first | omega | assumption), (by first | exact Or.inl ⟨by omega, by omega, by omega, rfl, rfl⟩ | exact Or.inr ⟨by omega, by omega, by omega, rfl, rfl⟩)⟩ dX10_leaf_45
    · refine lv_aload_n hx hb dX10_leaf_29 rfl (lv_at hl 0 rfl) ?_
      refine lv_iload_n hx hb dX10_leaf_30 rfl (lv_at hl 2 rfl) ?_
      refine lv_iload_n hx hb dX10_leaf_31 rfl (lv_at hl 3 rfl) ?_
      refine tf_callv (va_runV (As := [.int (Int32.ofInt x2), .int (Int32.ofInt x3)]) (rest := []) ⟨hx, hb, hml, hown, hts⟩ (c_X10_emit l g T a0 ha0 (x2) ⟨by omega, by omega⟩ (x3) ⟨by omega, by omega⟩ qop hqop qar hqar (gc) ⟨by omega, by omega⟩ rop rar) (cwV 2 hts gv_X10_248 rfl rfl rfl hd_X10_emit ⟨Nat.le_trans (by decide) hR1, Nat.le_trans (by decide) hR2⟩) (tf_preV hk hW ha0 (ci := 10) rfl rfl ⟨hs3, hs4, hs6, hs8, hs9⟩) rfl rfl hl.1 rfl (lv_room (Nat.le_of_ble_eq_true rfl)) dX10_leaf_32 ⟨Nat.zero_le _, Nat.zero_le _⟩) hW (by decide) (fun H12 locs12 hW hF12 hp12 => ?_)
      have hs13 := tf_keepF hF12 ha0 rfl rfl (by decide) hs3
      have hs14 := tf_keepF hF12 ha0 rfl rfl (by decide) hs4
      have hs15 := tf_keepF hF12 ha0 rfl rfl (by decide) hs5
      have hs16 := tf_keepF hF12 ha0 rfl rfl (by decide) hs7
      have hs17 := tf_keepF hF12 ha0 rfl rfl (by decide) hX2_0
      have hs18 := tf_keepF hF12 ha0 rfl rfl (by decide) hX2_1
      have hs19 := tf_keepF hF12 ha0 rfl rfl (by decide) hX2_2
      have hs20 := tf_keepF hF12 ha0 rfl rfl (by decide) hX2_3
      have hs21 := tf_keepF hF12 ha0 rfl rfl (by decide) hX2_4
      obtain ⟨ho12_0, ho12_1, ho12_2⟩ := hp12
      refine lv_aload_n hx hb dX10_leaf_35 rfl (lv_at hl 0 rfl) ?_
      refine lv_dup hx hb dX10_leaf_36 rfl ?_
      refine tf_get hx hb hts inlX10 hown hK (ci := 10) rfl hW ha0 rfl 20 rfl (by decide) (hts _ fl_X10_268) dX10_leaf_37 (fun v22 hv22 hsv22 => ?_)
      obtain ⟨z23, rfl, hz23⟩ := tf_v0 hv22
      refine tf_iconst hx hb dX10_leaf_40 ?_
      refine tf_iadd_any hx hb dX10_leaf_41 (fun z24 hz24 => ?_)
      refine tf_put hx hb hts inlX10 tyX10 tyX10_ok nmX10 hown hK (ci := 10) rfl hW ha0 rfl rfl 20 rfl (by decide) (by decide) (hts _ fl_X10_268) rfl (tf_u0 (by omega) (by omega)) rfl rfl dX10_leaf_42 (fun H25 locs25 hW hs25 ht25 hq25 => ?_)
      have hs26 := (ht25 18 (by decide) (by decide)).trans hs13
      have hs27 := (ht25 19 (by decide) (by decide)).trans hs14
      have hs28 := (ht25 8 (by decide) (by decide)).trans hs15
      have hs29 := (ht25 23 (by decide) (by decide)).trans hs16
      have hs30 := (ht25 14 (by decide) (by decide)).trans hs17
      have hs31 := (ht25 9 (by decide) (by decide)).trans hs18
      have hs32 := (ht25 10 (by decide) (by decide)).trans hs19
      have hs33 := (ht25 11 (by decide) (by decide)).trans hs20
      have hs34 := (ht25 12 (by decide) (by decide)).trans hs21
      have hs35 := (ht25 17 (by decide) (by decide)).trans ho12_0
      have hs36 := tf_keepCQ ho12_1 (hq25 _ (tf_ne hqop ha0 (by decide)))
      have hs37 := tf_keepCQ ho12_2 (hq25 _ (tf_ne hqar ha0 (by decide)))
      exact tf_retv hx hb hr hlocks hQ hW ⟨(gb1_2), (gf1_2), (gt1_2), (gs1_2), (gw1_2), ((gc + 1)), (tf_up (rop) (gc) (x2)), (tf_up (rar) (gc) (x3)), hs30, hs31, hs32, hs33, hs34, hs35, hs36, hs37, ⟨by omega, by omega⟩, ⟨by omega, by omega⟩, ⟨by omega, by omega⟩, ⟨by omega, by omega⟩, ⟨by omega, by omega⟩, ⟨by omega, by omega⟩, (by first | omega | assumption), (by first | omega | assumption), (by first | exact Or.inl ⟨by omega, by omega, by omega, rfl, rfl⟩ | exact Or.inr ⟨by omega, by omega, by omega, rfl, rfl⟩)⟩ dX10_leaf_45
  · refine lv_aload_n hx hb dX10_leaf_5 rfl (lv_at hl 0 rfl) ?_
    refine tf_get hx hb hts inlX10 hown hK (ci := 10) rfl hW ha0 rfl 20 rfl (by decide) (hts _ fl_X10_268) dX10_leaf_6 (fun v38 hv38 hsv38 => ?_)
    obtain ⟨z39, rfl, hz39⟩ := tf_v0 hv38
    refine tf_bipush hx hb dX10_leaf_9 (by decide) ?_
    refine tf_icmp_ge (tgt := 18) hx hb ⟨by omega, by omega⟩ ⟨by decide, by decide⟩ dX10_leaf_11 (by decide) (fun h40 => ?_) (fun h40 => ?_)
    · refine tf_iconst hx hb dX10_leaf_18 ?_
      refine tf_callv (va_runV (As := [.int (Int32.ofInt 0)]) (rest := []) ⟨hx, hb, hml, hown, hts⟩ (c_X10_must l g T a0 ha0 (0) ⟨by omega, by omega⟩ (gn) ⟨by omega, by omega⟩ (gf) ⟨by omega, by omega⟩ (gt) ⟨by omega, by omega⟩ (gs) ⟨by omega, by omega⟩ (gw) ⟨by omega, by omega⟩ (gb) ⟨by omega, by omega⟩ (by first | omega | assumption)) (cwV 1 hts gv_X10_235 rfl rfl rfl hd_X10_must ⟨Nat.le_trans (by decide) hR1, Nat.le_trans (by decide) hR2⟩) (tf_preV hk hW ha0 (ci := 10) rfl rfl ⟨he2, he3, he4, he5, he6, he7⟩) rfl rfl hl.1 rfl (lv_room (Nat.le_of_ble_eq_true rfl)) dX10_leaf_19 ⟨Nat.zero_le _, Nat.zero_le _⟩) hW (by decide) (fun H41 locs41 hW hF41 hp41 => ?_)
      have hs42 := tf_keepF hF41 ha0 rfl rfl (by decide) he0
      have hs43 := tf_keepF hF41 ha0 rfl rfl (by decide) he1
      have hs44 := tf_keepF hF41 ha0 rfl rfl (by decide) he2
      have hs45 := tf_keepF hF41 ha0 rfl rfl (by decide) he8
      have hs46 := tf_keepF hF41 ha0 rfl rfl (by decide) he9
      have hs47 := tf_keepC hF41 hqop rfl (by decide) he10
      have hs48 := tf_keepC hF41 hqar rfl (by decide) he11
      have hs49 := tf_keepF hF41 ha0 rfl rfl (by decide) hsv38
      obtain ⟨gb1_41, gf1_41, gt1_41, gs1_41, gw1_41, hX41_0, hX41_1, hX41_2, hX41_3, hX41_4, hB41_0, hB41_1, hB41_2, hB41_3, hB41_4, hR41_0⟩ := hp41
      refine lv_aload_n hx hb dX10_leaf_22 rfl (lv_at hl 0 rfl) ?_
      refine tf_get hx hb hts inlX10 hown hK (ci := 10) rfl hW ha0 rfl 14 rfl (by decide) (hts _ fl_X10_200) dX10_leaf_23 (fun v50 hv50 hsv50 => ?_)
      obtain rfl : v50 = .int (Int32.ofInt gb1_41) := Option.some.inj (hsv50.symm.trans hX41_0)
      refine tf_if_ne (tgt := 45) hx hb ⟨by omega, by omega⟩ dX10_leaf_26 (by decide) (fun h51 => ?_) (fun h51 => ?_)
      · exact tf_retv hx hb hr hlocks hQ hW ⟨(gb1_41), (gf1_41), (gt1_41), (gs1_41), (gw1_41), (gc), rop, rar, hX41_0, hX41_1, hX41_2, hX41_3, hX41_4, hs45, hs47, hs48, ⟨by omega, by omega⟩, ⟨by omega, by omega⟩, ⟨by omega, by omega⟩, ⟨by omega, by omega⟩, ⟨by omega, by omega⟩, ⟨by omega, by omega⟩, (by first | omega | assumption), (by first | omega | assumption), (by first | exact Or.inl ⟨by omega, by omega, by omega, rfl, rfl⟩ | exact Or.inr ⟨by omega, by omega, by omega, rfl, rfl⟩)⟩ dX10_leaf_45
      · refine lv_aload_n hx hb dX10_leaf_29 rfl (lv_at hl 0 rfl) ?_
        refine lv_iload_n hx hb dX10_leaf_30 rfl (lv_at hl 2 rfl) ?_
        refine lv_iload_n hx hb dX10_leaf_31 rfl (lv_at hl 3 rfl) ?_
        refine tf_callv (va_runV (As := [.int (Int32.ofInt x2), .int (Int32.ofInt x3)]) (rest := []) ⟨hx, hb, hml, hown, hts⟩ (c_X10_emit l g T a0 ha0 (x2) ⟨by omega, by omega⟩ (x3) ⟨by omega, by omega⟩ qop hqop qar hqar (gc) ⟨by omega, by omega⟩ rop rar) (cwV 2 hts gv_X10_248 rfl rfl rfl hd_X10_emit ⟨Nat.le_trans (by decide) hR1, Nat.le_trans (by decide) hR2⟩) (tf_preV hk hW ha0 (ci := 10) rfl rfl ⟨hs42, hs43, hs45, hs47, hs48⟩) rfl rfl hl.1 rfl (lv_room (Nat.le_of_ble_eq_true rfl)) dX10_leaf_32 ⟨Nat.zero_le _, Nat.zero_le _⟩) hW (by decide) (fun H52 locs52 hW hF52 hp52 => ?_)
        have hs53 := tf_keepF hF52 ha0 rfl rfl (by decide) hs42
        have hs54 := tf_keepF hF52 ha0 rfl rfl (by decide) hs43
        have hs55 := tf_keepF hF52 ha0 rfl rfl (by decide) hs44
        have hs56 := tf_keepF hF52 ha0 rfl rfl (by decide) hs46
        have hs57 := tf_keepF hF52 ha0 rfl rfl (by decide) hs49
        have hs58 := tf_keepF hF52 ha0 rfl rfl (by decide) hX41_0
        have hs59 := tf_keepF hF52 ha0 rfl rfl (by decide) hX41_1
        have hs60 := tf_keepF hF52 ha0 rfl rfl (by decide) hX41_2
        have hs61 := tf_keepF hF52 ha0 rfl rfl (by decide) hX41_3
        have hs62 := tf_keepF hF52 ha0 rfl rfl (by decide) hX41_4
        obtain ⟨ho52_0, ho52_1, ho52_2⟩ := hp52
        refine lv_aload_n hx hb dX10_leaf_35 rfl (lv_at hl 0 rfl) ?_
        refine lv_dup hx hb dX10_leaf_36 rfl ?_
        refine tf_get hx hb hts inlX10 hown hK (ci := 10) rfl hW ha0 rfl 20 rfl (by decide) (hts _ fl_X10_268) dX10_leaf_37 (fun v63 hv63 hsv63 => ?_)
        obtain rfl : v63 = .int (Int32.ofInt z39) := Option.some.inj (hsv63.symm.trans hs57)
        refine tf_iconst hx hb dX10_leaf_40 ?_
        refine tf_iadd_any hx hb dX10_leaf_41 (fun z64 hz64 => ?_)
        refine tf_put hx hb hts inlX10 tyX10 tyX10_ok nmX10 hown hK (ci := 10) rfl hW ha0 rfl rfl 20 rfl (by decide) (by decide) (hts _ fl_X10_268) rfl (tf_u0 (by omega) (by omega)) rfl rfl dX10_leaf_42 (fun H65 locs65 hW hs65 ht65 hq65 => ?_)
        have hs66 := (ht65 18 (by decide) (by decide)).trans hs53
        have hs67 := (ht65 19 (by decide) (by decide)).trans hs54
        have hs68 := (ht65 8 (by decide) (by decide)).trans hs55
        have hs69 := (ht65 23 (by decide) (by decide)).trans hs56
        have hs70 := (ht65 14 (by decide) (by decide)).trans hs58
        have hs71 := (ht65 9 (by decide) (by decide)).trans hs59
        have hs72 := (ht65 10 (by decide) (by decide)).trans hs60
        have hs73 := (ht65 11 (by decide) (by decide)).trans hs61
        have hs74 := (ht65 12 (by decide) (by decide)).trans hs62
        have hs75 := (ht65 17 (by decide) (by decide)).trans ho52_0
        have hs76 := tf_keepCQ ho52_1 (hq65 _ (tf_ne hqop ha0 (by decide)))
        have hs77 := tf_keepCQ ho52_2 (hq65 _ (tf_ne hqar ha0 (by decide)))
        exact tf_retv hx hb hr hlocks hQ hW ⟨(gb1_41), (gf1_41), (gt1_41), (gs1_41), (gw1_41), ((gc + 1)), (tf_up (rop) (gc) (x2)), (tf_up (rar) (gc) (x3)), hs70, hs71, hs72, hs73, hs74, hs75, hs76, hs77, ⟨by omega, by omega⟩, ⟨by omega, by omega⟩, ⟨by omega, by omega⟩, ⟨by omega, by omega⟩, ⟨by omega, by omega⟩, ⟨by omega, by omega⟩, (by first | omega | assumption), (by first | omega | assumption), (by first | exact Or.inl ⟨by omega, by omega, by omega, rfl, rfl⟩ | exact Or.inr ⟨by omega, by omega, by omega, rfl, rfl⟩)⟩ dX10_leaf_45
    · refine tf_iconst hx hb dX10_leaf_14 ?_
      refine lv_goto (tgt := 19) hx hb dX10_leaf_15 (by decide) ?_
      refine tf_callv (va_runV (As := [.int (Int32.ofInt 1)]) (rest := []) ⟨hx, hb, hml, hown, hts⟩ (c_X10_must l g T a0 ha0 (1) ⟨by omega, by omega⟩ (gn) ⟨by omega, by omega⟩ (gf) ⟨by omega, by omega⟩ (gt) ⟨by omega, by omega⟩ (gs) ⟨by omega, by omega⟩ (gw) ⟨by omega, by omega⟩ (gb) ⟨by omega, by omega⟩ (by first | omega | assumption)) (cwV 1 hts gv_X10_235 rfl rfl rfl hd_X10_must ⟨Nat.le_trans (by decide) hR1, Nat.le_trans (by decide) hR2⟩) (tf_preV hk hW ha0 (ci := 10) rfl rfl ⟨he2, he3, he4, he5, he6, he7⟩) rfl rfl hl.1 rfl (lv_room (Nat.le_of_ble_eq_true rfl)) dX10_leaf_19 ⟨Nat.zero_le _, Nat.zero_le _⟩) hW (by decide) (fun H78 locs78 hW hF78 hp78 => ?_)
      have hs79 := tf_keepF hF78 ha0 rfl rfl (by decide) he0
      have hs80 := tf_keepF hF78 ha0 rfl rfl (by decide) he1
      have hs81 := tf_keepF hF78 ha0 rfl rfl (by decide) he2
      have hs82 := tf_keepF hF78 ha0 rfl rfl (by decide) he8
      have hs83 := tf_keepF hF78 ha0 rfl rfl (by decide) he9
      have hs84 := tf_keepC hF78 hqop rfl (by decide) he10
      have hs85 := tf_keepC hF78 hqar rfl (by decide) he11
      have hs86 := tf_keepF hF78 ha0 rfl rfl (by decide) hsv38
      obtain ⟨gb1_78, gf1_78, gt1_78, gs1_78, gw1_78, hX78_0, hX78_1, hX78_2, hX78_3, hX78_4, hB78_0, hB78_1, hB78_2, hB78_3, hB78_4, hR78_0⟩ := hp78
      refine lv_aload_n hx hb dX10_leaf_22 rfl (lv_at hl 0 rfl) ?_
      refine tf_get hx hb hts inlX10 hown hK (ci := 10) rfl hW ha0 rfl 14 rfl (by decide) (hts _ fl_X10_200) dX10_leaf_23 (fun v87 hv87 hsv87 => ?_)
      obtain rfl : v87 = .int (Int32.ofInt gb1_78) := Option.some.inj (hsv87.symm.trans hX78_0)
      refine tf_if_ne (tgt := 45) hx hb ⟨by omega, by omega⟩ dX10_leaf_26 (by decide) (fun h88 => ?_) (fun h88 => ?_)
      · exact tf_retv hx hb hr hlocks hQ hW ⟨(gb1_78), (gf1_78), (gt1_78), (gs1_78), (gw1_78), (gc), rop, rar, hX78_0, hX78_1, hX78_2, hX78_3, hX78_4, hs82, hs84, hs85, ⟨by omega, by omega⟩, ⟨by omega, by omega⟩, ⟨by omega, by omega⟩, ⟨by omega, by omega⟩, ⟨by omega, by omega⟩, ⟨by omega, by omega⟩, (by first | omega | assumption), (by first | omega | assumption), (by first | exact Or.inl ⟨by omega, by omega, by omega, rfl, rfl⟩ | exact Or.inr ⟨by omega, by omega, by omega, rfl, rfl⟩)⟩ dX10_leaf_45
      · refine lv_aload_n hx hb dX10_leaf_29 rfl (lv_at hl 0 rfl) ?_
        refine lv_iload_n hx hb dX10_leaf_30 rfl (lv_at hl 2 rfl) ?_
        refine lv_iload_n hx hb dX10_leaf_31 rfl (lv_at hl 3 rfl) ?_
        refine tf_callv (va_runV (As := [.int (Int32.ofInt x2), .int (Int32.ofInt x3)]) (rest := []) ⟨hx, hb, hml, hown, hts⟩ (c_X10_emit l g T a0 ha0 (x2) ⟨by omega, by omega⟩ (x3) ⟨by omega, by omega⟩ qop hqop qar hqar (gc) ⟨by omega, by omega⟩ rop rar) (cwV 2 hts gv_X10_248 rfl rfl rfl hd_X10_emit ⟨Nat.le_trans (by decide) hR1, Nat.le_trans (by decide) hR2⟩) (tf_preV hk hW ha0 (ci := 10) rfl rfl ⟨hs79, hs80, hs82, hs84, hs85⟩) rfl rfl hl.1 rfl (lv_room (Nat.le_of_ble_eq_true rfl)) dX10_leaf_32 ⟨Nat.zero_le _, Nat.zero_le _⟩) hW (by decide) (fun H89 locs89 hW hF89 hp89 => ?_)
        have hs90 := tf_keepF hF89 ha0 rfl rfl (by decide) hs79
        have hs91 := tf_keepF hF89 ha0 rfl rfl (by decide) hs80
        have hs92 := tf_keepF hF89 ha0 rfl rfl (by decide) hs81
        have hs93 := tf_keepF hF89 ha0 rfl rfl (by decide) hs83
        have hs94 := tf_keepF hF89 ha0 rfl rfl (by decide) hs86
        have hs95 := tf_keepF hF89 ha0 rfl rfl (by decide) hX78_0
        have hs96 := tf_keepF hF89 ha0 rfl rfl (by decide) hX78_1
        have hs97 := tf_keepF hF89 ha0 rfl rfl (by decide) hX78_2
        have hs98 := tf_keepF hF89 ha0 rfl rfl (by decide) hX78_3
        have hs99 := tf_keepF hF89 ha0 rfl rfl (by decide) hX78_4
        obtain ⟨ho89_0, ho89_1, ho89_2⟩ := hp89
        refine lv_aload_n hx hb dX10_leaf_35 rfl (lv_at hl 0 rfl) ?_
        refine lv_dup hx hb dX10_leaf_36 rfl ?_
        refine tf_get hx hb hts inlX10 hown hK (ci := 10) rfl hW ha0 rfl 20 rfl (by decide) (hts _ fl_X10_268) dX10_leaf_37 (fun v100 hv100 hsv100 => ?_)
        obtain rfl : v100 = .int (Int32.ofInt z39) := Option.some.inj (hsv100.symm.trans hs94)
        refine tf_iconst hx hb dX10_leaf_40 ?_
        refine tf_iadd hx hb dX10_leaf_41 ?_
        refine tf_put hx hb hts inlX10 tyX10 tyX10_ok nmX10 hown hK (ci := 10) rfl hW ha0 rfl rfl 20 rfl (by decide) (by decide) (hts _ fl_X10_268) rfl (tf_u0 (by omega) (by omega)) rfl rfl dX10_leaf_42 (fun H101 locs101 hW hs101 ht101 hq101 => ?_)
        have hs102 := (ht101 18 (by decide) (by decide)).trans hs90
        have hs103 := (ht101 19 (by decide) (by decide)).trans hs91
        have hs104 := (ht101 8 (by decide) (by decide)).trans hs92
        have hs105 := (ht101 23 (by decide) (by decide)).trans hs93
        have hs106 := (ht101 14 (by decide) (by decide)).trans hs95
        have hs107 := (ht101 9 (by decide) (by decide)).trans hs96
        have hs108 := (ht101 10 (by decide) (by decide)).trans hs97
        have hs109 := (ht101 11 (by decide) (by decide)).trans hs98
        have hs110 := (ht101 12 (by decide) (by decide)).trans hs99
        have hs111 := (ht101 17 (by decide) (by decide)).trans ho89_0
        have hs112 := tf_keepCQ ho89_1 (hq101 _ (tf_ne hqop ha0 (by decide)))
        have hs113 := tf_keepCQ ho89_2 (hq101 _ (tf_ne hqar ha0 (by decide)))
        exact tf_retv hx hb hr hlocks hQ hW ⟨(gb1_78), (gf1_78), (gt1_78), (gs1_78), (gw1_78), ((gc + 1)), (tf_up (rop) (gc) (x2)), (tf_up (rar) (gc) (x3)), hs106, hs107, hs108, hs109, hs110, hs111, hs112, hs113, ⟨by omega, by omega⟩, ⟨by omega, by omega⟩, ⟨by omega, by omega⟩, ⟨by omega, by omega⟩, ⟨by omega, by omega⟩, ⟨by omega, by omega⟩, (by first | omega | assumption), (by first | omega | assumption), (by first | exact Or.inl ⟨by omega, by omega, by omega, rfl, rfl⟩ | exact Or.inr ⟨by omega, by omega, by omega, rfl, rfl⟩)⟩ dX10_leaf_45

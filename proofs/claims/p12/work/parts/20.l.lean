
abbrev M_X2_readClause : List (Nat × Nat) := [(0, 0), (19, 1), (19, 4), (19, 5), (19, 6), (19, 7)]
set_option maxHeartbeats 4000000 in
set_option maxRecDepth 100000 in
theorem c_X2_readClause (l : Launch) (g : tf_G) (T : tf_T) (a0 : Nat) (ha0 : T a0 = some (19, 0)) (x1 : Int) (hp1 : (-2147483648) ≤ x1 ∧ x1 ≤ 2147483647) (t0 : Nat) (ht0 : T t0 = some (21, 0)) : Met l yX2_readClause (cd_X2_readClause :: wsL_law) ({ frames := 71, cells := 0, slots := 0, locals := 1093 }) (tf_P g T [.ref a0, .int (Int32.ofInt x1)] (fun H => tf_s H a0 (g.1.2 2 3) = some (.ref t0) ∧ (∃ z : Int, tf_s H t0 (g.1.2 4 2) = some (.int (Int32.ofInt z)) ∧ 1 ≤ z ∧ z ≤ 401))) (tf_Qi g M_X2_readClause T (fun z _ _ => z = 0 ∨ z = 1)) 0 0 (fun q => tf_B g ≤ q) := by
  refine Met.ofW (cc := cX2_readClause) (maxL := 2) (ret := (some .boolean)) (by decide) rfl ?_
  intro p e s m args below meth c s₁ B hml hv
  obtain ⟨hargs, hk, hW0, hB, hpre⟩ := hv
  obtain ⟨he0, ⟨ze1, he1, hze1⟩⟩ := hpre
  have hx := B.exec
  have hb := B.bytes
  have hr := B.returns
  have hts : ∀ w ∈ wsL_law, w.before args s = true := fun w h => atoms_spec (ws := cd_X2_readClause :: wsL_law) B.pre w (List.mem_cons_of_mem _ h)
  have hown : s.vm.findClass RX2 = some m.cls := findClass_of_methodNamed B.named
  have hlocks := B.notSynchronized
  have hK := hk.1
  have hW := tf_n.start (M := M_X2_readClause) hW0 hB
  obtain ⟨Q, hQ⟩ : ∃ q, q = MQ below (tf_Qi g M_X2_readClause T (fun z _ _ => z = 0 ∨ z = 1)) args s 0 0 (fun q => tf_B g ≤ q) := ⟨_, rfl⟩
  rw [← hQ]
  obtain ⟨R, hR⟩ : ∃ q, q = (headSpec (cd_X2_readClause :: wsL_law) ({ frames := 71, cells := 0, slots := 0, locals := 1093 })).room := ⟨_, rfl⟩
  rw [← hR]
  have hR1 : 71 ≤ R.frames := by rw [hR]; exact Nat.le_refl _
  have hR2 : 1093 ≤ R.locals := by rw [hR]; exact Nat.le_refl _
  have hR3 : 0 ≤ R.cells := by rw [hR]; exact Nat.le_refl _
  have hR4 : 0 ≤ R.slots := by rw [hR]; exact Nat.le_refl _
  have hin := (name_of_methodNamed B.named B.method).1
  clear hR B
  have j_10 : ∀ (H : Heap) (locs : List Loc), tf_n tf_kt g M_X2_readClause T s.heap T H locs → ∀ (ls : Array Slot), lv_has ls 2 [(0, .ref a0)] → W p l e R s m args below meth c H locs 0 0 Q (F0 m 10 ls []) := by
    intro  H locs hW  ls hl
    refine lv_aload_n hx hb dX2_readClause_10 rfl (lv_at hl 0 rfl) ?_
    refine tf_calli (va_runV (As := []) (rest := []) ⟨hx, hb, hml, hown, hts⟩ (c_X2_failHere l g T a0 ha0) (cwV 0 hts gv_X2_66 rfl rfl rfl hd_X2_failHere ⟨Nat.le_trans (by decide) hR1, Nat.le_trans (by decide) hR2⟩) (tf_preV hk hW ha0 (ci := 2) rfl rfl trivial) rfl rfl hl.1 rfl (lv_room (Nat.le_of_ble_eq_true rfl)) dX2_readClause_11 ⟨Nat.zero_le _, Nat.zero_le _⟩) hW (by decide) (fun z1 H1 locs1 hW hF1 hp1 => ?_)
    have hp1 : z1 = 0 ∨ z1 = 1 := hp1
    exact tf_retz (z := z1) hx hb hr hlocks hQ hW (by omega) (show (z1) = 0 ∨ (z1) = 1 by omega) dX2_readClause_14
  have j_81 : 0 ≤ x1 ∧ x1 ≤ 11 → ∀ (H : Heap) (locs : List Loc), tf_n tf_kt g M_X2_readClause T s.heap T H locs → ∀ (ls : Array Slot), lv_has ls 2 [(0, .ref a0), (1, .int (Int32.ofInt x1))] → W p l e R s m args below meth c H locs 0 0 Q (F0 m 81 ls []) := by
    intro hx1_81 H locs hW  ls hl
    refine lv_aload_n hx hb dX2_readClause_81 rfl (lv_at hl 0 rfl) ?_
    refine tf_get hx hb hts inlX2 hown hK (ci := 2) rfl hW ha0 rfl 2 rfl (by decide) (hts _ fl_X2_19) dX2_readClause_82 (fun v2 hv2 hsv2 => ?_)
    obtain ⟨ad3, rfl, had3⟩ := tf_v1 hv2
    refine tf_iconst hx hb dX2_readClause_85 ?_
    refine lv_iload_n hx hb dX2_readClause_86 rfl (lv_at hl 1 rfl) ?_
    refine tf_imul hx hb dX2_readClause_87 ?_
    refine tf_iconst hx hb dX2_readClause_88 ?_
    refine tf_iadd hx hb dX2_readClause_89 ?_
    refine lv_aload_n hx hb dX2_readClause_90 rfl (lv_at hl 0 rfl) ?_
    refine tf_get hx hb hts inlX2 hown hK (ci := 2) rfl hW ha0 rfl 1 rfl (by decide) (hts _ fl_X2_15) dX2_readClause_91 (fun v4 hv4 hsv4 => ?_)
    obtain ⟨z5, rfl, hz5⟩ := tf_v0 hv4
    refine tf_iast (t0 := 0) hx hb hK hW had3 rfl rfl (by omega) (by omega) (by decide) (tf_u0 (by omega) (by omega)) dX2_readClause_94 (fun H6 locs6 hW hs6 ht6 hq6 => ?_)
    refine tf_iconst hx hb dX2_readClause_95 ?_
    exact tf_retz (z := 1) hx hb hr hlocks hQ hW (by omega) (show (1) = 0 ∨ (1) = 1 by omega) dX2_readClause_96
  refine tf_enter (As := [.ref a0, .int (Int32.ofInt x1)]) hargs (Nat.le_of_ble_eq_true rfl) (fun ls hl => ?_)
  have hl : lv_has ls 2 [(0, .ref a0), (1, .int (Int32.ofInt x1))] := hl
  refine lv_iload_n hx hb dX2_readClause_0 rfl (lv_at hl 1 rfl) ?_
  refine tf_if_lt (tgt := 10) hx hb ⟨by omega, by omega⟩ dX2_readClause_1 (by decide) (fun h7 => ?_) (fun h7 => ?_)
  · exact j_10  _ _ hW  _ (lv_sub hl [0] rfl)
  · refine lv_iload_n hx hb dX2_readClause_4 rfl (lv_at hl 1 rfl) ?_
    refine tf_bipush hx hb dX2_readClause_5 (by decide) ?_
    refine tf_icmp_lt (tgt := 15) hx hb ⟨by omega, by omega⟩ ⟨by decide, by decide⟩ dX2_readClause_7 (by decide) (fun h8 => ?_) (fun h8 => ?_)
    · refine lv_aload_n hx hb dX2_readClause_15 rfl (lv_at hl 0 rfl) ?_
      refine tf_get hx hb hts inlX2 hown hK (ci := 2) rfl hW ha0 rfl 2 rfl (by decide) (hts _ fl_X2_19) dX2_readClause_16 (fun v9 hv9 hsv9 => ?_)
      obtain ⟨ad10, rfl, had10⟩ := tf_v1 hv9
      refine tf_iconst hx hb dX2_readClause_19 ?_
      refine lv_iload_n hx hb dX2_readClause_20 rfl (lv_at hl 1 rfl) ?_
      refine tf_imul hx hb dX2_readClause_21 ?_
      refine lv_aload_n hx hb dX2_readClause_22 rfl (lv_at hl 0 rfl) ?_
      refine tf_get hx hb hts inlX2 hown hK (ci := 2) rfl hW ha0 rfl 1 rfl (by decide) (hts _ fl_X2_15) dX2_readClause_23 (fun v11 hv11 hsv11 => ?_)
      obtain ⟨z12, rfl, hz12⟩ := tf_v0 hv11
      refine tf_iast (t0 := 0) hx hb hK hW had10 rfl rfl (by omega) (by omega) (by decide) (tf_u0 (by omega) (by omega)) dX2_readClause_26 (fun H13 locs13 hW hs13 ht13 hq13 => ?_)
      have hs14 := tf_keepQ he0 (hq13 _ (tf_ne ha0 had10 (by decide)))
      have hs15 := tf_keepQ he1 (hq13 _ (tf_ne ht0 had10 (by decide)))
      have hs16 := tf_keepQ hsv9 (hq13 _ (tf_ne ha0 had10 (by decide)))
      refine lv_aload_n hx hb dX2_readClause_27 rfl (lv_at hl 0 rfl) ?_
      refine tf_iconst hx hb dX2_readClause_28 ?_
      refine tf_calli (va_runV (As := [.int (Int32.ofInt 1)]) (rest := []) ⟨hx, hb, hml, hown, hts⟩ (c_X2_pass l g T a0 ha0 (1) ⟨by omega, by omega⟩ t0 ht0) (cwV 1 hts gv_X2_63 rfl rfl rfl hd_X2_pass ⟨Nat.le_trans (by decide) hR1, Nat.le_trans (by decide) hR2⟩) (tf_preV hk hW ha0 (ci := 2) rfl rfl ⟨hs14, ⟨_, hs15, by omega, by omega⟩⟩) rfl rfl hl.1 rfl (lv_room (Nat.le_of_ble_eq_true rfl)) dX2_readClause_29 ⟨Nat.zero_le _, Nat.zero_le _⟩) hW (by decide) (fun z17 H17 locs17 hW hF17 hp17 => ?_)
      have hs18 := tf_keepF hF17 ha0 rfl rfl (by decide) hs14
      have hs19 := tf_keepF hF17 ht0 rfl rfl (by decide) hs15
      have hs20 := tf_keepF hF17 ha0 rfl rfl (by decide) hs16
      have hp17 : z17 = 0 ∨ z17 = 1 := hp17
      refine tf_if_eq (tgt := 43) hx hb ⟨by omega, by omega⟩ dX2_readClause_32 (by decide) (fun h21 => ?_) (fun h21 => ?_)
      · refine tf_iconst hx hb dX2_readClause_43 ?_
        exact tf_retz (z := 0) hx hb hr hlocks hQ hW (by omega) (show (0) = 0 ∨ (0) = 1 by omega) dX2_readClause_44
      · refine lv_aload_n hx hb dX2_readClause_35 rfl (lv_at hl 0 rfl) ?_
        refine tf_iconst hx hb dX2_readClause_36 ?_
        refine tf_calli (va_runV (As := [.int (Int32.ofInt 0)]) (rest := []) ⟨hx, hb, hml, hown, hts⟩ (all_X2_readSum l g T 8 a0 ha0 (0) ⟨by omega, by omega⟩ t0 ht0 (by omega)) (cwV 1 hts gv_X2_70 rfl rfl rfl hd_X2_readSum ⟨Nat.le_trans (show 6 * 8 + 14 + 1 ≤ 71 by omega) hR1, Nat.le_trans (show 8 + (4 + 11) + (90 * 8 + 250) ≤ 1093 by omega) hR2⟩) (tf_preV hk hW ha0 (ci := 2) rfl rfl ⟨hs18, ⟨_, hs19, by omega, by omega⟩⟩) rfl rfl hl.1 rfl (lv_room (Nat.le_of_ble_eq_true rfl)) dX2_readClause_37 ⟨Nat.zero_le _, Nat.zero_le _⟩) hW (by decide) (fun z22 H22 locs22 hW hF22 hp22 => ?_)
        have hs23 := tf_keepF hF22 ha0 rfl rfl (by decide) hs18
        have hs24 := tf_keepF hF22 ht0 rfl rfl (by decide) hs19
        have hs25 := tf_keepF hF22 ha0 rfl rfl (by decide) hs20
        have hp22 : z22 = 0 ∨ z22 = 1 := hp22
        refine tf_if_ne (tgt := 45) hx hb ⟨by omega, by omega⟩ dX2_readClause_40 (by decide) (fun h26 => ?_) (fun h26 => ?_)
        · refine lv_aload_n hx hb dX2_readClause_45 rfl (lv_at hl 0 rfl) ?_
          refine tf_get hx hb hts inlX2 hown hK (ci := 2) rfl hW ha0 rfl 2 rfl (by decide) (hts _ fl_X2_19) dX2_readClause_46 (fun v27 hv27 hsv27 => ?_)
          obtain rfl : v27 = .ref ad10 := Option.some.inj (hsv27.symm.trans hs25)
          refine tf_iconst hx hb dX2_readClause_49 ?_
          refine lv_iload_n hx hb dX2_readClause_50 rfl (lv_at hl 1 rfl) ?_
          refine tf_imul hx hb dX2_readClause_51 ?_
          refine tf_iconst hx hb dX2_readClause_52 ?_
          refine tf_iadd hx hb dX2_readClause_53 ?_
          refine lv_aload_n hx hb dX2_readClause_54 rfl (lv_at hl 0 rfl) ?_
          refine tf_get hx hb hts inlX2 hown hK (ci := 2) rfl hW ha0 rfl 1 rfl (by decide) (hts _ fl_X2_15) dX2_readClause_55 (fun v28 hv28 hsv28 => ?_)
          obtain ⟨z29, rfl, hz29⟩ := tf_v0 hv28
          refine tf_iast (t0 := 0) hx hb hK hW had10 rfl rfl (by omega) (by omega) (by decide) (tf_u0 (by omega) (by omega)) dX2_readClause_58 (fun H30 locs30 hW hs30 ht30 hq30 => ?_)
          have hs31 := tf_keepQ hs23 (hq30 _ (tf_ne ha0 had10 (by decide)))
          have hs32 := tf_keepQ hs24 (hq30 _ (tf_ne ht0 had10 (by decide)))
          have hs33 := tf_keepQ hs25 (hq30 _ (tf_ne ha0 had10 (by decide)))
          refine lv_aload_n hx hb dX2_readClause_59 rfl (lv_at hl 0 rfl) ?_
          refine tf_get hx hb hts inlX2 hown hK (ci := 2) rfl hW ha0 rfl 5 rfl (by decide) (hts _ fl_X2_32) dX2_readClause_60 (fun v34 hv34 hsv34 => ?_)
          obtain ⟨z35, rfl, hz35⟩ := tf_v0 hv34
          refine tf_iconst hx hb dX2_readClause_63 ?_
          refine tf_icmp_ne (tgt := 81) hx hb ⟨by omega, by omega⟩ ⟨by decide, by decide⟩ dX2_readClause_64 (by decide) (fun h36 => ?_) (fun h36 => ?_)
          · exact j_81 ⟨by omega, by omega⟩ _ _ hW  _ (lv_sub hl [0, 1] rfl)
          · refine lv_aload_n hx hb dX2_readClause_67 rfl (lv_at hl 0 rfl) ?_
            refine tf_callv (va_runV (As := []) (rest := []) ⟨hx, hb, hml, hown, hts⟩ (c_X2_next l g T a0 ha0 t0 ht0) (cwV 0 hts gv_X2_73 rfl rfl rfl hd_X2_next ⟨Nat.le_trans (by decide) hR1, Nat.le_trans (by decide) hR2⟩) (tf_preV hk hW ha0 (ci := 2) rfl rfl ⟨hs31, ⟨_, hs32, by omega, by omega⟩⟩) rfl rfl hl.1 rfl (lv_room (Nat.le_of_ble_eq_true rfl)) dX2_readClause_68 ⟨Nat.zero_le _, Nat.zero_le _⟩) hW (by decide) (fun H37 locs37 hW hF37 hp37 => ?_)
            have hs38 := tf_keepF hF37 ha0 rfl rfl (by decide) hs31
            have hs39 := tf_keepF hF37 ht0 rfl rfl (by decide) hs32
            have hs40 := tf_keepF hF37 ha0 rfl rfl (by decide) hs33
            refine lv_aload_n hx hb dX2_readClause_71 rfl (lv_at hl 0 rfl) ?_
            refine tf_iconst hx hb dX2_readClause_72 ?_
            refine tf_calli (va_runV (As := [.int (Int32.ofInt 0)]) (rest := []) ⟨hx, hb, hml, hown, hts⟩ (all_X2_readTest l g T 8 a0 ha0 (0) ⟨by omega, by omega⟩ t0 ht0 (by omega)) (cwV 1 hts gv_X2_76 rfl rfl rfl hd_X2_readTest ⟨Nat.le_trans (show 6 * 8 + 22 + 1 ≤ 71 by omega) hR1, Nat.le_trans (show 8 + (4 + 11) + (90 * 8 + 350) ≤ 1093 by omega) hR2⟩) (tf_preV hk hW ha0 (ci := 2) rfl rfl ⟨hs38, ⟨_, hs39, by omega, by omega⟩⟩) rfl rfl hl.1 rfl (lv_room (Nat.le_of_ble_eq_true rfl)) dX2_readClause_73 ⟨Nat.zero_le _, Nat.zero_le _⟩) hW (by decide) (fun z41 H41 locs41 hW hF41 hp41 => ?_)
            have hs42 := tf_keepF hF41 ha0 rfl rfl (by decide) hs38
            have hs43 := tf_keepF hF41 ht0 rfl rfl (by decide) hs39
            have hs44 := tf_keepF hF41 ha0 rfl rfl (by decide) hs40
            have hp41 : z41 = 0 ∨ z41 = 1 := hp41
            refine tf_if_ne (tgt := 81) hx hb ⟨by omega, by omega⟩ dX2_readClause_76 (by decide) (fun h45 => ?_) (fun h45 => ?_)
            · exact j_81 ⟨by omega, by omega⟩ _ _ hW  _ (lv_sub hl [0, 1] rfl)
            · refine tf_iconst hx hb dX2_readClause_79 ?_
              exact tf_retz (z := 0) hx hb hr hlocks hQ hW (by omega) (show (0) = 0 ∨ (0) = 1 by omega) dX2_readClause_80
        · refine tf_iconst hx hb dX2_readClause_43 ?_
          exact tf_retz (z := 0) hx hb hr hlocks hQ hW (by omega) (show (0) = 0 ∨ (0) = 1 by omega) dX2_readClause_44
    · exact j_10  _ _ hW  _ (lv_sub hl [0] rfl)


abbrev M_X10_tower : List (Nat × Nat) := [(27, 0), (28, 0), (50, 0), (50, 1)]
set_option maxHeartbeats 4000000 in
set_option maxRecDepth 100000 in
theorem c_X10_tower (l : Launch) (g : tf_G) (T : tf_T) (a0 : Nat) (ha0 : T a0 = some (50, 0)) (x1 : Int) (hp1 : (-2147483648) ≤ x1 ∧ x1 ≤ 2147483647) (x2 : Int) (hp2 : (-2147483648) ≤ x2 ∧ x2 ≤ 2147483647) (x3 : Int) (hp3 : (-2147483648) ≤ x3 ∧ x3 ≤ 2147483647) (x4 : Int) (hp4 : (-2147483648) ≤ x4 ∧ x4 ≤ 2147483647) (x5 : Int) (hp5 : (-2147483648) ≤ x5 ∧ x5 ≤ 2147483647) : Met l yX10_tower (cd_X10_tower :: wsL_law) ({ frames := 6, cells := 0, slots := 0, locals := 145 }) (tf_P g T [.ref a0, .int (Int32.ofInt x1), .int (Int32.ofInt x2), .int (Int32.ofInt x3), .int (Int32.ofInt x4), .int (Int32.ofInt x5)] (fun H => True)) (tf_Qi g M_X10_tower T (fun z _ _ => (-2147483648) ≤ z ∧ z ≤ 2147483647)) 0 0 (fun q => tf_B g ≤ q) := by
  refine Met.ofW (cc := cX10_tower) (maxL := 9) (ret := (some .int)) (by decide) rfl ?_
  intro p e s m args below meth c s₁ B hml hv
  obtain ⟨hargs, hk, hW0, hB, hpre⟩ := hv
  have hx := B.exec
  have hb := B.bytes
  have hr := B.returns
  have hts : ∀ w ∈ wsL_law, w.before args s = true := fun w h => atoms_spec (ws := cd_X10_tower :: wsL_law) B.pre w (List.mem_cons_of_mem _ h)
  have hown : s.vm.findClass RX10 = some m.cls := findClass_of_methodNamed B.named
  have hlocks := B.notSynchronized
  have hK := hk.1
  have hW := tf_n.start (M := M_X10_tower) hW0 hB
  obtain ⟨Q, hQ⟩ : ∃ q, q = MQ below (tf_Qi g M_X10_tower T (fun z _ _ => (-2147483648) ≤ z ∧ z ≤ 2147483647)) args s 0 0 (fun q => tf_B g ≤ q) := ⟨_, rfl⟩
  rw [← hQ]
  obtain ⟨R, hR⟩ : ∃ q, q = (headSpec (cd_X10_tower :: wsL_law) ({ frames := 6, cells := 0, slots := 0, locals := 145 })).room := ⟨_, rfl⟩
  rw [← hR]
  have hR1 : 6 ≤ R.frames := by rw [hR]; exact Nat.le_refl _
  have hR2 : 145 ≤ R.locals := by rw [hR]; exact Nat.le_refl _
  have hR3 : 0 ≤ R.cells := by rw [hR]; exact Nat.le_refl _
  have hR4 : 0 ≤ R.slots := by rw [hR]; exact Nat.le_refl _
  have hin := (name_of_methodNamed B.named B.method).1
  clear hR B
  obtain ⟨vb0, hfb0, hokb0⟩ := tf_peek hW ha0 (ci := 10) rfl 3 rfl
  obtain ⟨b0, rfl, hb0⟩ := tf_v1 hokb0
  obtain ⟨r0, hr0⟩ := tf_rname hW b0
  have hror0 : tf_RO r0 := hr0 ▸ tf_ROof hW hb0
  have j_137 : ∀ (n_137 : Nat), ∀ (x6_137 : Int), 0 ≤ x6_137 ∧ x6_137 ≤ 5 → ∀ (x8_137 : Int), 0 ≤ x8_137 ∧ x8_137 ≤ 100 → (100 - x8_137 + 1 ≤ (n_137 : Int)) → ∀ (H : Heap) (locs : List Loc), tf_n tf_kt g M_X10_tower T s.heap T H locs → tf_s H a0 (g.1.2 10 3) = some (.ref b0) → ∀ (ls : Array Slot), lv_has ls 9 [(0, .ref a0), (6, .int (Int32.ofInt x6_137)), (8, .int (Int32.ofInt x8_137))] → W p l e R s m args below meth c H locs 0 0 Q (F0 m 137 ls []) := by
    intro n_137
    induction n_137 with
    | zero =>
      intro x6_137 hx6_137 x8_137 hx8_137 hm_137
      exfalso; omega
    | succ n_137 ih_137 =>
      intro x6_137 hx6_137 x8_137 hx8_137 hm_137 H locs hW hs3_137 ls hl
      have j_190 : 0 ≤ x6_137 ∧ x6_137 ≤ 5 → 0 ≤ x8_137 ∧ x8_137 ≤ 99 → ∀ (H : Heap) (locs : List Loc), tf_n tf_kt g M_X10_tower T s.heap T H locs → tf_s H a0 (g.1.2 10 3) = some (.ref b0) → ∀ (ls : Array Slot), lv_has ls 9 [(0, .ref a0), (6, .int (Int32.ofInt x6_137)), (8, .int (Int32.ofInt x8_137))] → W p l e R s m args below meth c H locs 0 0 Q (F0 m 190 ls []) := by
        intro hx6_190 hx8_190 H locs hW hs3_190 ls hl
        refine lv_iinc (v := Int32.ofInt ((x8_137 + 1))) (lv' := [(8, .int (Int32.ofInt ((x8_137 + 1)))), (0, .ref a0), (6, .int (Int32.ofInt x6_137))]) hx hb dX10_tower_190 hl (k := 2) rfl (Int32.ofInt_add _ _).symm (by decide) rfl (fun ls hl => ?_)
        refine lv_goto (tgt := 137) hx hb dX10_tower_193 (by decide) ?_
        exact ih_137 (x6_137) ⟨by omega, by omega⟩ ((x8_137 + 1)) ⟨by omega, by omega⟩ (by omega) _ _ hW hs3_190 _ (lv_sub hl [1, 2, 0] rfl)
      refine lv_iload hx hb dX10_tower_137 (lv_at hl 2 rfl) ?_
      refine tf_bipush hx hb dX10_tower_139 (by decide) ?_
      refine tf_icmp_ge (tgt := 196) hx hb ⟨by omega, by omega⟩ ⟨by decide, by decide⟩ dX10_tower_141 (by decide) (fun h1 => ?_) (fun h1 => ?_)
      · refine lv_aload_n hx hb dX10_tower_196 rfl (lv_at hl 0 rfl) ?_
        refine lv_iload hx hb dX10_tower_197 (lv_at hl 1 rfl) ?_
        refine tf_calli (va_runV (As := [.int (Int32.ofInt x6_137)]) (rest := []) ⟨hx, hb, hml, hown, hts⟩ (c_X10_tell l g T a0 ha0 (x6_137) ⟨by omega, by omega⟩) (cwV 1 hts gv_X10_117 rfl rfl rfl hd_X10_tell ⟨Nat.le_trans (by decide) hR1, Nat.le_trans (by decide) hR2⟩) (tf_preV hk hW ha0 (ci := 10) rfl rfl trivial) rfl rfl hl.1 rfl (lv_room (Nat.le_of_ble_eq_true rfl)) dX10_tower_199 ⟨Nat.zero_le _, Nat.zero_le _⟩) hW (by decide) (fun z2 H2 locs2 hW hF2 hp2 => ?_)
        have hs3 := tf_keepF hF2 ha0 rfl rfl (by decide) hs3_137
        obtain ⟨hp2_0, hp2_1, hp2_2⟩ := hp2
        exact tf_reti (z := z2) hx hb hr hlocks hQ hW (show (-2147483648) ≤ (z2) ∧ (z2) ≤ 2147483647 by omega) dX10_tower_202
      · refine lv_aload_n hx hb dX10_tower_144 rfl (lv_at hl 0 rfl) ?_
        refine lv_iload hx hb dX10_tower_145 (lv_at hl 1 rfl) ?_
        refine lv_iload hx hb dX10_tower_147 (lv_at hl 2 rfl) ?_
        refine tf_calli (va_runV (As := [.int (Int32.ofInt x6_137), .int (Int32.ofInt x8_137)]) (rest := []) ⟨hx, hb, hml, hown, hts⟩ (c_X10_covers l g T a0 ha0 (x6_137) ⟨by omega, by omega⟩ (x8_137) ⟨by omega, by omega⟩) (cwV 2 hts gv_X10_128 rfl rfl rfl hd_X10_covers ⟨Nat.le_trans (by decide) hR1, Nat.le_trans (by decide) hR2⟩) (tf_preV hk hW ha0 (ci := 10) rfl rfl trivial) rfl rfl hl.1 rfl (lv_room (Nat.le_of_ble_eq_true rfl)) dX10_tower_149 ⟨Nat.zero_le _, Nat.zero_le _⟩) hW (by decide) (fun z4 H4 locs4 hW hF4 hp4 => ?_)
        have hs5 := tf_keepF hF4 ha0 rfl rfl (by decide) hs3_137
        have hp4 : z4 = 0 ∨ z4 = 1 := hp4
        refine tf_if_eq (tgt := 190) hx hb ⟨by omega, by omega⟩ dX10_tower_152 (by decide) (fun h6 => ?_) (fun h6 => ?_)
        · exact j_190 ⟨by omega, by omega⟩ ⟨by omega, by omega⟩ _ _ hW hs5 _ (lv_sub hl [0, 1, 2] rfl)
        · refine lv_aload_n hx hb dX10_tower_155 rfl (lv_at hl 0 rfl) ?_
          refine tf_get hx hb hts inlX10 hown hK (ci := 10) rfl hW ha0 rfl 3 rfl (by decide) (hts _ fl_X10_13) dX10_tower_156 (fun v7 hv7 hsv7 => ?_)
          obtain rfl : v7 = .ref b0 := Option.some.inj (hsv7.symm.trans hs5)
          refine tf_bipush hx hb dX10_tower_159 (by decide) ?_
          refine lv_iload hx hb dX10_tower_161 (lv_at hl 2 rfl) ?_
          refine tf_iadd hx hb dX10_tower_163 ?_
          refine tf_iconst hx hb dX10_tower_164 ?_
          refine tf_rowst hx hb hK hW hb0 rfl (by omega) (by omega) (by decide) ⟨by omega, by omega⟩ (tf_RO_any (tf_ROof hW hb0) (by omega)) dX10_tower_165 (fun H8 locs8 hW hu8 hq8 => ?_)
          have hs9 := tf_keepQ hs5 (hq8 _ (tf_ne ha0 hb0 (by decide)))
          refine lv_aload_n hx hb dX10_tower_166 rfl (lv_at hl 0 rfl) ?_
          refine tf_get hx hb hts inlX10 hown hK (ci := 10) rfl hW ha0 rfl 3 rfl (by decide) (hts _ fl_X10_13) dX10_tower_167 (fun v10 hv10 hsv10 => ?_)
          obtain rfl : v10 = .ref b0 := Option.some.inj (hsv10.symm.trans hs9)
          refine tf_sipush hx hb dX10_tower_170 (by decide) ?_
          refine lv_iload hx hb dX10_tower_173 (lv_at hl 2 rfl) ?_
          refine tf_iadd hx hb dX10_tower_175 ?_
          refine tf_iconst hx hb dX10_tower_176 ?_
          refine tf_rowst hx hb hK hW hb0 rfl (by omega) (by omega) (by decide) ⟨by omega, by omega⟩ (tf_RO_any (tf_ROof hW hb0) (by omega)) dX10_tower_177 (fun H11 locs11 hW hu11 hq11 => ?_)
          have hs12 := tf_keepQ hs9 (hq11 _ (tf_ne ha0 hb0 (by decide)))
          refine lv_aload_n hx hb dX10_tower_178 rfl (lv_at hl 0 rfl) ?_
          refine tf_get hx hb hts inlX10 hown hK (ci := 10) rfl hW ha0 rfl 3 rfl (by decide) (hts _ fl_X10_13) dX10_tower_179 (fun v13 hv13 hsv13 => ?_)
          obtain rfl : v13 = .ref b0 := Option.some.inj (hsv13.symm.trans hs12)
          refine tf_sipush hx hb dX10_tower_182 (by decide) ?_
          refine lv_iload hx hb dX10_tower_185 (lv_at hl 2 rfl) ?_
          refine tf_iadd hx hb dX10_tower_187 ?_
          refine tf_iconst hx hb dX10_tower_188 ?_
          refine tf_rowst hx hb hK hW hb0 rfl (by omega) (by omega) (by decide) ⟨by omega, by omega⟩ (tf_RO_any (tf_ROof hW hb0) (by omega)) dX10_tower_189 (fun H14 locs14 hW hu14 hq14 => ?_)
          have hs15 := tf_keepQ hs12 (hq14 _ (tf_ne ha0 hb0 (by decide)))
          exact j_190 ⟨by omega, by omega⟩ ⟨by omega, by omega⟩ _ _ hW hs15 _ (lv_sub hl [0, 1, 2] rfl)
  refine tf_enter (As := [.ref a0, .int (Int32.ofInt x1), .int (Int32.ofInt x2), .int (Int32.ofInt x3), .int (Int32.ofInt x4), .int (Int32.ofInt x5)]) hargs (Nat.le_of_ble_eq_true rfl) (fun ls hl => ?_)
  have hl : lv_has ls 9 [(0, .ref a0), (1, .int (Int32.ofInt x1)), (2, .int (Int32.ofInt x2)), (3, .int (Int32.ofInt x3)), (4, .int (Int32.ofInt x4)), (5, .int (Int32.ofInt x5))] := hl
  refine lv_aload_n hx hb dX10_tower_0 rfl (lv_at hl 0 rfl) ?_
  refine tf_iconst hx hb dX10_tower_1 ?_
  refine tf_put hx hb hts inlX10 tyX10 tyX10_ok nmX10 hown hK (ci := 10) rfl hW ha0 rfl rfl 0 rfl (by decide) (by decide) (hts _ fl_X10_103) rfl (tf_u0 (by omega) (by omega)) rfl rfl dX10_tower_2 (fun H16 locs16 hW hs16 ht16 hq16 => ?_)
  have hs17 := (ht16 3 (by decide) (by decide)).trans hfb0
  have hs18 := tf_keepCQ hr0 (hq16 _ (tf_ne hb0 ha0 (by decide)))
  refine lv_iload_n hx hb dX10_tower_5 rfl (lv_at hl 1 rfl) ?_
  refine lv_iload_n hx hb dX10_tower_6 rfl (lv_at hl 2 rfl) ?_
  refine lv_iload_n hx hb dX10_tower_7 rfl (lv_at hl 3 rfl) ?_
  refine lv_iload hx hb dX10_tower_8 (lv_at hl 4 rfl) ?_
  refine lv_iload hx hb dX10_tower_10 (lv_at hl 5 rfl) ?_
  refine tf_calli (va_runS (As := [.int (Int32.ofInt x1), .int (Int32.ofInt x2), .int (Int32.ofInt x3), .int (Int32.ofInt x4), .int (Int32.ofInt x5)]) (rest := []) ⟨hx, hb, hml, hown, hts⟩ (c_X10_canBe l g T (x1) ⟨by omega, by omega⟩ (x2) ⟨by omega, by omega⟩ (x3) ⟨by omega, by omega⟩ (x4) ⟨by omega, by omega⟩ (x5) ⟨by omega, by omega⟩) ⟨callB_of 5 hts (gw_ws cm_X10_canBe) rfl rfl rfl (hts _ (tw1 (i := 5) rfl)) (hts _ (tw10 (i := 21) rfl)) hd_X10_canBe.2 ⟨Nat.le_trans (by decide) hR1, Nat.le_trans (by decide) hR2⟩, hts _ (tw10 (i := 22) rfl)⟩ (tf_preS hk hW trivial) rfl rfl hl.1 rfl (lv_room (Nat.le_of_ble_eq_true rfl)) dX10_tower_12 ⟨Nat.zero_le _, Nat.zero_le _⟩) hW (by decide) (fun z19 H19 locs19 hW hF19 hp19 => ?_)
  have hs20 := tf_keepF hF19 ha0 rfl rfl (by decide) hs17
  have hs21 := tf_keepC hF19 hb0 rfl (by decide) hs18
  rcases hp19 with ⟨rfl, h22, h23, h24, h25, h26, h27, h28, h29, h30, h31, h32, h33⟩ | ⟨rfl⟩
  · refine tf_if_ne (tgt := 24) hx hb ⟨by decide, by decide⟩ dX10_tower_15 (by decide) (fun h34 => ?_) (fun h34 => ?_)
    · refine lv_aload_n hx hb dX10_tower_24 rfl (lv_at hl 0 rfl) ?_
      refine lv_iload_n hx hb dX10_tower_25 rfl (lv_at hl 1 rfl) ?_
      refine lv_iload_n hx hb dX10_tower_26 rfl (lv_at hl 2 rfl) ?_
      refine lv_iload_n hx hb dX10_tower_27 rfl (lv_at hl 3 rfl) ?_
      refine lv_iload hx hb dX10_tower_28 (lv_at hl 4 rfl) ?_
      refine tf_calli (va_runV (As := [.int (Int32.ofInt x1), .int (Int32.ofInt x2), .int (Int32.ofInt x3), .int (Int32.ofInt x4)]) (rest := []) ⟨hx, hb, hml, hown, hts⟩ (c_X10_isFree l g T a0 ha0 (x1) ⟨by omega, by omega⟩ (x2) ⟨by omega, by omega⟩ (x3) ⟨by omega, by omega⟩ (x4) ⟨by omega, by omega⟩) (cwV 4 hts gv_X10_161 rfl rfl rfl hd_X10_isFree ⟨Nat.le_trans (by decide) hR1, Nat.le_trans (by decide) hR2⟩) (tf_preV hk hW ha0 (ci := 10) rfl rfl trivial) rfl rfl hl.1 rfl (lv_room (Nat.le_of_ble_eq_true rfl)) dX10_tower_30 ⟨Nat.zero_le _, Nat.zero_le _⟩) hW (by decide) (fun z35 H35 locs35 hW hF35 hp35 => ?_)
      have hs36 := tf_keepF hF35 ha0 rfl rfl (by decide) hs20
      have hs37 := tf_keepC hF35 hb0 rfl (by decide) hs21
      have hp35 : z35 = 0 ∨ z35 = 1 := hp35
      refine tf_if_ne (tgt := 43) hx hb ⟨by omega, by omega⟩ dX10_tower_33 (by decide) (fun h38 => ?_) (fun h38 => ?_)
      · refine lv_aload_n hx hb dX10_tower_43 rfl (lv_at hl 0 rfl) ?_
        refine tf_get hx hb hts inlX10 hown hK (ci := 10) rfl hW ha0 rfl 3 rfl (by decide) (hts _ fl_X10_13) dX10_tower_44 (fun v39 hv39 hsv39 => ?_)
        obtain rfl : v39 = .ref b0 := Option.some.inj (hsv39.symm.trans hs36)
        refine tf_iconst hx hb dX10_tower_47 ?_
        refine tf_iald (t0 := 0) hx hb hK hW hb0 rfl rfl (by omega) (by omega) dX10_tower_48 (fun v40 hv40 hsv40 => ?_)
        obtain ⟨z41, rfl, hz41⟩ := tf_v0 hv40
        have er42 : r0 0 = z41 := hs37 ▸ tf_rw_of (by omega) hsv40 ⟨by omega, by omega⟩
        have hg43 := tf_rd0 (tf_ROof hW hb0) hsv40 ⟨by omega, by omega⟩ (by omega)
        refine lv_istore (lv' := [(6, .int (Int32.ofInt z41)), (0, .ref a0), (1, .int (Int32.ofInt x1)), (2, .int (Int32.ofInt x2)), (3, .int (Int32.ofInt x3)), (4, .int (Int32.ofInt x4)), (5, .int (Int32.ofInt x5))]) hx hb dX10_tower_49 hl (by decide) rfl (fun ls hl => ?_)
        refine lv_iload hx hb dX10_tower_51 (lv_at hl 0 rfl) ?_
        refine tf_bipush hx hb dX10_tower_53 (by decide) ?_
        refine tf_icmp_ne (tgt := 65) hx hb ⟨by omega, by omega⟩ ⟨by decide, by decide⟩ dX10_tower_55 (by decide) (fun h44 => ?_) (fun h44 => ?_)
        · refine tf_bipush hx hb dX10_tower_65 (by decide) ?_
          refine tf_iconst hx hb dX10_tower_67 ?_
          refine lv_iload hx hb dX10_tower_68 (lv_at hl 0 rfl) ?_
          refine tf_imul hx hb dX10_tower_70 ?_
          refine tf_iadd hx hb dX10_tower_71 ?_
          refine lv_istore (lv' := [(7, .int (Int32.ofInt ((11 + (5 * z41))))), (6, .int (Int32.ofInt z41)), (0, .ref a0), (1, .int (Int32.ofInt x1)), (2, .int (Int32.ofInt x2)), (3, .int (Int32.ofInt x3)), (4, .int (Int32.ofInt x4)), (5, .int (Int32.ofInt x5))]) hx hb dX10_tower_72 hl (by decide) rfl (fun ls hl => ?_)
          refine lv_aload_n hx hb dX10_tower_74 rfl (lv_at hl 2 rfl) ?_
          refine tf_get hx hb hts inlX10 hown hK (ci := 10) rfl hW ha0 rfl 3 rfl (by decide) (hts _ fl_X10_13) dX10_tower_75 (fun v45 hv45 hsv45 => ?_)
          obtain rfl : v45 = .ref b0 := Option.some.inj (hsv45.symm.trans hs36)
          refine lv_iload hx hb dX10_tower_78 (lv_at hl 0 rfl) ?_
          refine lv_iload_n hx hb dX10_tower_80 rfl (lv_at hl 3 rfl) ?_
          refine tf_rowst hx hb hK hW hb0 rfl (by omega) (by omega) (by decide) ⟨by omega, by omega⟩ (tf_RO_any (tf_ROof hW hb0) (by omega)) dX10_tower_81 (fun H46 locs46 hW hu46 hq46 => ?_)
          have hs47 := tf_keepQ hs36 (hq46 _ (tf_ne ha0 hb0 (by decide)))
          have hu46 := hu46.trans (congrArg (fun w => tf_up w ((11 + (5 * z41))) (x1)) hs37)
          refine lv_aload_n hx hb dX10_tower_82 rfl (lv_at hl 2 rfl) ?_
          refine tf_get hx hb hts inlX10 hown hK (ci := 10) rfl hW ha0 rfl 3 rfl (by decide) (hts _ fl_X10_13) dX10_tower_83 (fun v48 hv48 hsv48 => ?_)
          obtain rfl : v48 = .ref b0 := Option.some.inj (hsv48.symm.trans hs47)
          refine lv_iload hx hb dX10_tower_86 (lv_at hl 0 rfl) ?_
          refine tf_iconst hx hb dX10_tower_88 ?_
          refine tf_iadd hx hb dX10_tower_89 ?_
          refine lv_iload_n hx hb dX10_tower_90 rfl (lv_at hl 4 rfl) ?_
          refine tf_rowst hx hb hK hW hb0 rfl (by omega) (by omega) (by decide) ⟨by omega, by omega⟩ (tf_RO_any (tf_ROof hW hb0) (by omega)) dX10_tower_91 (fun H49 locs49 hW hu49 hq49 => ?_)
          have hs50 := tf_keepQ hs47 (hq49 _ (tf_ne ha0 hb0 (by decide)))
          have hu49 := hu49.trans (congrArg (fun w => tf_up w (((11 + (5 * z41)) + 1)) (x2)) hu46)
          refine lv_aload_n hx hb dX10_tower_92 rfl (lv_at hl 2 rfl) ?_
          refine tf_get hx hb hts inlX10 hown hK (ci := 10) rfl hW ha0 rfl 3 rfl (by decide) (hts _ fl_X10_13) dX10_tower_93 (fun v51 hv51 hsv51 => ?_)
          obtain rfl : v51 = .ref b0 := Option.some.inj (hsv51.symm.trans hs50)
          refine lv_iload hx hb dX10_tower_96 (lv_at hl 0 rfl) ?_
          refine tf_iconst hx hb dX10_tower_98 ?_
          refine tf_iadd hx hb dX10_tower_99 ?_
          refine lv_iload_n hx hb dX10_tower_100 rfl (lv_at hl 5 rfl) ?_
          refine tf_rowst hx hb hK hW hb0 rfl (by omega) (by omega) (by decide) ⟨by omega, by omega⟩ (tf_RO_any (tf_ROof hW hb0) (by omega)) dX10_tower_101 (fun H52 locs52 hW hu52 hq52 => ?_)
          have hs53 := tf_keepQ hs50 (hq52 _ (tf_ne ha0 hb0 (by decide)))
          have hu52 := hu52.trans (congrArg (fun w => tf_up w (((11 + (5 * z41)) + 2)) (x3)) hu49)
          refine lv_aload_n hx hb dX10_tower_102 rfl (lv_at hl 2 rfl) ?_
          refine tf_get hx hb hts inlX10 hown hK (ci := 10) rfl hW ha0 rfl 3 rfl (by decide) (hts _ fl_X10_13) dX10_tower_103 (fun v54 hv54 hsv54 => ?_)
          obtain rfl : v54 = .ref b0 := Option.some.inj (hsv54.symm.trans hs53)
          refine lv_iload hx hb dX10_tower_106 (lv_at hl 0 rfl) ?_
          refine tf_iconst hx hb dX10_tower_108 ?_
          refine tf_iadd hx hb dX10_tower_109 ?_
          refine lv_iload hx hb dX10_tower_110 (lv_at hl 6 rfl) ?_
          refine tf_rowst hx hb hK hW hb0 rfl (by omega) (by omega) (by decide) ⟨by omega, by omega⟩ (tf_RO_any (tf_ROof hW hb0) (by omega)) dX10_tower_112 (fun H55 locs55 hW hu55 hq55 => ?_)
          have hs56 := tf_keepQ hs53 (hq55 _ (tf_ne ha0 hb0 (by decide)))
          have hu55 := hu55.trans (congrArg (fun w => tf_up w (((11 + (5 * z41)) + 3)) (x4)) hu52)
          refine lv_aload_n hx hb dX10_tower_113 rfl (lv_at hl 2 rfl) ?_
          refine tf_get hx hb hts inlX10 hown hK (ci := 10) rfl hW ha0 rfl 3 rfl (by decide) (hts _ fl_X10_13) dX10_tower_114 (fun v57 hv57 hsv57 => ?_)
          obtain rfl : v57 = .ref b0 := Option.some.inj (hsv57.symm.trans hs56)
          refine lv_iload hx hb dX10_tower_117 (lv_at hl 0 rfl) ?_
          refine tf_iconst hx hb dX10_tower_119 ?_
          refine tf_iadd hx hb dX10_tower_120 ?_
          refine lv_iload hx hb dX10_tower_121 (lv_at hl 7 rfl) ?_
          refine tf_rowst hx hb hK hW hb0 rfl (by omega) (by omega) (by decide) ⟨by omega, by omega⟩ (tf_RO_any (tf_ROof hW hb0) (by omega)) dX10_tower_123 (fun H58 locs58 hW hu58 hq58 => ?_)
          have hs59 := tf_keepQ hs56 (hq58 _ (tf_ne ha0 hb0 (by decide)))
          have hu58 := hu58.trans (congrArg (fun w => tf_up w (((11 + (5 * z41)) + 4)) (x5)) hu55)
          refine lv_aload_n hx hb dX10_tower_124 rfl (lv_at hl 2 rfl) ?_
          refine tf_get hx hb hts inlX10 hown hK (ci := 10) rfl hW ha0 rfl 3 rfl (by decide) (hts _ fl_X10_13) dX10_tower_125 (fun v60 hv60 hsv60 => ?_)
          obtain rfl : v60 = .ref b0 := Option.some.inj (hsv60.symm.trans hs59)
          refine tf_iconst hx hb dX10_tower_128 ?_
          refine lv_dup2_11 hx hb dX10_tower_129 rfl rfl ?_
          refine tf_iald (t0 := 0) hx hb hK hW hb0 rfl rfl (by omega) (by omega) dX10_tower_130 (fun v61 hv61 hsv61 => ?_)
          obtain ⟨z62, rfl, hz62⟩ := tf_v0 hv61
          have er63 : (tf_up (tf_up (tf_up (tf_up (tf_up r0 ((11 + (5 * z41))) (x1)) (((11 + (5 * z41)) + 1)) (x2)) (((11 + (5 * z41)) + 2)) (x3)) (((11 + (5 * z41)) + 3)) (x4)) (((11 + (5 * z41)) + 4)) (x5)) 0 = z62 := hu58 ▸ tf_rw_of (by omega) hsv61 ⟨by omega, by omega⟩
          have hg64 := tf_rd0 (tf_ROof hW hb0) hsv61 ⟨by omega, by omega⟩ (by omega)
          refine tf_iconst hx hb dX10_tower_131 ?_
          refine tf_iadd hx hb dX10_tower_132 ?_
          have e0 := er63
          rw [tf_up_ne (by omega), tf_up_ne (by omega), tf_up_ne (by omega), tf_up_ne (by omega), tf_up_ne (by omega)] at e0
          refine tf_rowst hx hb hK hW hb0 rfl (by omega) (by omega) (by decide) ⟨by omega, by omega⟩ (tf_RO_any (tf_ROof hW hb0) (by omega)) dX10_tower_133 (fun H65 locs65 hW hu65 hq65 => ?_)
          have hs66 := tf_keepQ hs59 (hq65 _ (tf_ne ha0 hb0 (by decide)))
          have hu65 := hu65.trans (congrArg (fun w => tf_up w (0) ((z62 + 1))) hu58)
          refine tf_iconst hx hb dX10_tower_134 ?_
          refine lv_istore (lv' := [(8, .int (Int32.ofInt 0)), (7, .int (Int32.ofInt ((11 + (5 * z41))))), (6, .int (Int32.ofInt z41)), (0, .ref a0), (1, .int (Int32.ofInt x1)), (2, .int (Int32.ofInt x2)), (3, .int (Int32.ofInt x3)), (4, .int (Int32.ofInt x4)), (5, .int (Int32.ofInt x5))]) hx hb dX10_tower_135 hl (by decide) rfl (fun ls hl => ?_)
          exact j_137 ((100 - 0 + 1 : Int)).toNat (z41) ⟨by omega, by omega⟩ (0) ⟨by omega, by omega⟩ (by omega) _ _ hW hs66 _ (lv_sub hl [3, 2, 0] rfl)
        · refine lv_aload_n hx hb dX10_tower_58 rfl (lv_at hl 1 rfl) ?_
          refine tf_bipush hx hb dX10_tower_59 (by decide) ?_
          refine tf_calli (va_runV (As := [.int (Int32.ofInt ((-5)))]) (rest := []) ⟨hx, hb, hml, hown, hts⟩ (c_X10_tell l g T a0 ha0 ((-5)) ⟨by omega, by omega⟩) (cwV 1 hts gv_X10_117 rfl rfl rfl hd_X10_tell ⟨Nat.le_trans (by decide) hR1, Nat.le_trans (by decide) hR2⟩) (tf_preV hk hW ha0 (ci := 10) rfl rfl trivial) rfl rfl hl.1 rfl (lv_room (Nat.le_of_ble_eq_true rfl)) dX10_tower_61 ⟨Nat.zero_le _, Nat.zero_le _⟩) hW (by decide) (fun z67 H67 locs67 hW hF67 hp67 => ?_)
          have hs68 := tf_keepF hF67 ha0 rfl rfl (by decide) hs36
          have hs69 := tf_keepC hF67 hb0 rfl (by decide) hs37
          obtain ⟨hp67_0, hp67_1, hp67_2⟩ := hp67
          exact tf_reti (z := z67) hx hb hr hlocks hQ hW (show (-2147483648) ≤ (z67) ∧ (z67) ≤ 2147483647 by omega) dX10_tower_64
      · refine lv_aload_n hx hb dX10_tower_36 rfl (lv_at hl 0 rfl) ?_
        refine tf_bipush hx hb dX10_tower_37 (by decide) ?_
        refine tf_calli (va_runV (As := [.int (Int32.ofInt ((-3)))]) (rest := []) ⟨hx, hb, hml, hown, hts⟩ (c_X10_tell l g T a0 ha0 ((-3)) ⟨by omega, by omega⟩) (cwV 1 hts gv_X10_117 rfl rfl rfl hd_X10_tell ⟨Nat.le_trans (by decide) hR1, Nat.le_trans (by decide) hR2⟩) (tf_preV hk hW ha0 (ci := 10) rfl rfl trivial) rfl rfl hl.1 rfl (lv_room (Nat.le_of_ble_eq_true rfl)) dX10_tower_39 ⟨Nat.zero_le _, Nat.zero_le _⟩) hW (by decide) (fun z70 H70 locs70 hW hF70 hp70 => ?_)
        have hs71 := tf_keepF hF70 ha0 rfl rfl (by decide) hs36
        have hs72 := tf_keepC hF70 hb0 rfl (by decide) hs37
        obtain ⟨hp70_0, hp70_1, hp70_2⟩ := hp70
        exact tf_reti (z := z70) hx hb hr hlocks hQ hW (show (-2147483648) ≤ (z70) ∧ (z70) ≤ 2147483647 by omega) dX10_tower_42
    · exfalso; omega
  · refine tf_if_ne (tgt := 24) hx hb ⟨by decide, by decide⟩ dX10_tower_15 (by decide) (fun h73 => ?_) (fun h73 => ?_)
    · exfalso; omega
    · refine lv_aload_n hx hb dX10_tower_18 rfl (lv_at hl 0 rfl) ?_
      refine tf_iconst hx hb dX10_tower_19 ?_
      refine tf_calli (va_runV (As := [.int (Int32.ofInt ((-1)))]) (rest := []) ⟨hx, hb, hml, hown, hts⟩ (c_X10_tell l g T a0 ha0 ((-1)) ⟨by omega, by omega⟩) (cwV 1 hts gv_X10_117 rfl rfl rfl hd_X10_tell ⟨Nat.le_trans (by decide) hR1, Nat.le_trans (by decide) hR2⟩) (tf_preV hk hW ha0 (ci := 10) rfl rfl trivial) rfl rfl hl.1 rfl (lv_room (Nat.le_of_ble_eq_true rfl)) dX10_tower_20 ⟨Nat.zero_le _, Nat.zero_le _⟩) hW (by decide) (fun z74 H74 locs74 hW hF74 hp74 => ?_)
      have hs75 := tf_keepF hF74 ha0 rfl rfl (by decide) hs20
      have hs76 := tf_keepC hF74 hb0 rfl (by decide) hs21
      obtain ⟨hp74_0, hp74_1, hp74_2⟩ := hp74
      exact tf_reti (z := z74) hx hb hr hlocks hQ hW (show (-2147483648) ≤ (z74) ∧ (z74) ≤ 2147483647 by omega) dX10_tower_23

abbrev M_X10_place : List (Nat × Nat) := [(27, 0), (28, 0), (50, 0), (50, 1)]
set_option maxHeartbeats 4000000 in
set_option maxRecDepth 100000 in
theorem c_X10_place (l : Launch) (g : tf_G) (T : tf_T) (a0 : Nat) (ha0 : T a0 = some (50, 0)) (x1 : Int) (hp1 : (-2147483648) ≤ x1 ∧ x1 ≤ 2147483647) : Met l yX10_place (cd_X10_place :: wsL_law) ({ frames := 5, cells := 0, slots := 0, locals := 117 }) (tf_P g T [.ref a0, .int (Int32.ofInt x1)] (fun H => True)) (tf_Qi g M_X10_place T (fun z _ _ => (-2147483648) ≤ z ∧ z ≤ 2147483647)) 0 0 (fun q => tf_B g ≤ q) := by
  refine Met.ofW (cc := cX10_place) (maxL := 3) (ret := (some .int)) (by decide) rfl ?_
  intro p e s m args below meth c s₁ B hml hv
  obtain ⟨hargs, hk, hW0, hB, hpre⟩ := hv
  have hx := B.exec
  have hb := B.bytes
  have hr := B.returns
  have hts : ∀ w ∈ wsL_law, w.before args s = true := fun w h => atoms_spec (ws := cd_X10_place :: wsL_law) B.pre w (List.mem_cons_of_mem _ h)
  have hown : s.vm.findClass RX10 = some m.cls := findClass_of_methodNamed B.named
  have hlocks := B.notSynchronized
  have hK := hk.1
  have hW := tf_n.start (M := M_X10_place) hW0 hB
  obtain ⟨Q, hQ⟩ : ∃ q, q = MQ below (tf_Qi g M_X10_place T (fun z _ _ => (-2147483648) ≤ z ∧ z ≤ 2147483647)) args s 0 0 (fun q => tf_B g ≤ q) := ⟨_, rfl⟩
  rw [← hQ]
  obtain ⟨R, hR⟩ : ∃ q, q = (headSpec (cd_X10_place :: wsL_law) ({ frames := 5, cells := 0, slots := 0, locals := 117 })).room := ⟨_, rfl⟩
  rw [← hR]
  have hR1 : 5 ≤ R.frames := by rw [hR]; exact Nat.le_refl _
  have hR2 : 117 ≤ R.locals := by rw [hR]; exact Nat.le_refl _
  have hR3 : 0 ≤ R.cells := by rw [hR]; exact Nat.le_refl _
  have hR4 : 0 ≤ R.slots := by rw [hR]; exact Nat.le_refl _
  have hin := (name_of_methodNamed B.named B.method).1
  clear hR B
  obtain ⟨vb0, hfb0, hokb0⟩ := tf_peek hW ha0 (ci := 10) rfl 3 rfl
  obtain ⟨b0, rfl, hb0⟩ := tf_v1 hokb0
  obtain ⟨r0, hr0⟩ := tf_rname hW b0
  have hror0 : tf_RO r0 := hr0 ▸ tf_ROof hW hb0
  have j_34 : ∀ (H : Heap) (locs : List Loc), tf_n tf_kt g M_X10_place T s.heap T H locs → ∀ (ls : Array Slot), lv_has ls 3 [(0, .ref a0)] → W p l e R s m args below meth c H locs 0 0 Q (F0 m 34 ls []) := by
    intro  H locs hW  ls hl
    refine lv_aload_n hx hb dX10_place_34 rfl (lv_at hl 0 rfl) ?_
    refine tf_bipush hx hb dX10_place_35 (by decide) ?_
    refine tf_calli (va_runV (As := [.int (Int32.ofInt ((-3)))]) (rest := []) ⟨hx, hb, hml, hown, hts⟩ (c_X10_tell l g T a0 ha0 ((-3)) ⟨by omega, by omega⟩) (cwV 1 hts gv_X10_117 rfl rfl rfl hd_X10_tell ⟨Nat.le_trans (by decide) hR1, Nat.le_trans (by decide) hR2⟩) (tf_preV hk hW ha0 (ci := 10) rfl rfl trivial) rfl rfl hl.1 rfl (lv_room (Nat.le_of_ble_eq_true rfl)) dX10_place_37 ⟨Nat.zero_le _, Nat.zero_le _⟩) hW (by decide) (fun z1 H1 locs1 hW hF1 hp1 => ?_)
    obtain ⟨hp1_0, hp1_1, hp1_2⟩ := hp1
    exact tf_reti (z := z1) hx hb hr hlocks hQ hW (show (-2147483648) ≤ (z1) ∧ (z1) ≤ 2147483647 by omega) dX10_place_40
  refine tf_enter (As := [.ref a0, .int (Int32.ofInt x1)]) hargs (Nat.le_of_ble_eq_true rfl) (fun ls hl => ?_)
  have hl : lv_has ls 3 [(0, .ref a0), (1, .int (Int32.ofInt x1))] := hl
  refine lv_aload_n hx hb dX10_place_0 rfl (lv_at hl 0 rfl) ?_
  refine tf_iconst hx hb dX10_place_1 ?_
  refine tf_put hx hb hts inlX10 tyX10 tyX10_ok nmX10 hown hK (ci := 10) rfl hW ha0 rfl rfl 0 rfl (by decide) (by decide) (hts _ fl_X10_103) rfl (tf_u0 (by omega) (by omega)) rfl rfl dX10_place_2 (fun H2 locs2 hW hs2 ht2 hq2 => ?_)
  have hs3 := (ht2 3 (by decide) (by decide)).trans hfb0
  have hs4 := tf_keepCQ hr0 (hq2 _ (tf_ne hb0 ha0 (by decide)))
  refine lv_iload_n hx hb dX10_place_5 rfl (lv_at hl 1 rfl) ?_
  refine tf_calli (va_runS (As := [.int (Int32.ofInt x1)]) (rest := []) ⟨hx, hb, hml, hown, hts⟩ (c_X10_isCell l g T (x1) ⟨by omega, by omega⟩) ⟨callB_of 1 hts (gw_ws cm_X10_isCell) rfl rfl rfl (hts _ (tw1 (i := 5) rfl)) (hts _ (tw11 (i := 19) rfl)) hd_X10_isCell.2 ⟨Nat.le_trans (by decide) hR1, Nat.le_trans (by decide) hR2⟩, hts _ (tw11 (i := 20) rfl)⟩ (tf_preS hk hW trivial) rfl rfl hl.1 rfl (lv_room (Nat.le_of_ble_eq_true rfl)) dX10_place_6 ⟨Nat.zero_le _, Nat.zero_le _⟩) hW (by decide) (fun z5 H5 locs5 hW hF5 hp5 => ?_)
  have hs6 := tf_keepF hF5 ha0 rfl rfl (by decide) hs3
  have hs7 := tf_keepC hF5 hb0 rfl (by decide) hs4
  rcases hp5 with ⟨rfl, h8, h9⟩ | ⟨rfl, h10⟩
  · refine tf_if_ne (tgt := 18) hx hb ⟨by decide, by decide⟩ dX10_place_9 (by decide) (fun h11 => ?_) (fun h11 => ?_)
    · refine lv_aload_n hx hb dX10_place_18 rfl (lv_at hl 0 rfl) ?_
      refine lv_iload_n hx hb dX10_place_19 rfl (lv_at hl 1 rfl) ?_
      refine tf_calli (va_runV (As := [.int (Int32.ofInt x1)]) (rest := []) ⟨hx, hb, hml, hown, hts⟩ (c_X10_isGround l g T a0 ha0 (x1) ⟨by omega, by omega⟩) (cwV 1 hts gv_X10_148 rfl rfl rfl hd_X10_isGround ⟨Nat.le_trans (by decide) hR1, Nat.le_trans (by decide) hR2⟩) (tf_preV hk hW ha0 (ci := 10) rfl rfl trivial) rfl rfl hl.1 rfl (lv_room (Nat.le_of_ble_eq_true rfl)) dX10_place_20 ⟨Nat.zero_le _, Nat.zero_le _⟩) hW (by decide) (fun z12 H12 locs12 hW hF12 hp12 => ?_)
      have hs13 := tf_keepF hF12 ha0 rfl rfl (by decide) hs6
      have hs14 := tf_keepC hF12 hb0 rfl (by decide) hs7
      rcases hp12 with ⟨rfl, h15, h16⟩ | ⟨rfl⟩
      · refine tf_if_eq (tgt := 34) hx hb ⟨by decide, by decide⟩ dX10_place_23 (by decide) (fun h17 => ?_) (fun h17 => ?_)
        · exfalso; omega
        · refine lv_aload_n hx hb dX10_place_26 rfl (lv_at hl 0 rfl) ?_
          refine lv_iload_n hx hb dX10_place_27 rfl (lv_at hl 1 rfl) ?_
          refine tf_calli (va_runV (As := [.int (Int32.ofInt x1)]) (rest := []) ⟨hx, hb, hml, hown, hts⟩ (c_X10_isOfPlace l g T a0 ha0 (x1) ⟨by omega, by omega⟩) (cwV 1 hts gv_X10_154 rfl rfl rfl hd_X10_isOfPlace ⟨Nat.le_trans (by decide) hR1, Nat.le_trans (by decide) hR2⟩) (tf_preV hk hW ha0 (ci := 10) rfl rfl trivial) rfl rfl hl.1 rfl (lv_room (Nat.le_of_ble_eq_true rfl)) dX10_place_28 ⟨Nat.zero_le _, Nat.zero_le _⟩) hW (by decide) (fun z18 H18 locs18 hW hF18 hp18 => ?_)
          have hs19 := tf_keepF hF18 ha0 rfl rfl (by decide) hs13
          have hs20 := tf_keepC hF18 hb0 rfl (by decide) hs14
          have hp18 : z18 = 0 ∨ z18 = 1 := hp18
          refine tf_if_eq (tgt := 41) hx hb ⟨by omega, by omega⟩ dX10_place_31 (by decide) (fun h21 => ?_) (fun h21 => ?_)
          · refine lv_aload_n hx hb dX10_place_41 rfl (lv_at hl 0 rfl) ?_
            refine tf_get hx hb hts inlX10 hown hK (ci := 10) rfl hW ha0 rfl 3 rfl (by decide) (hts _ fl_X10_13) dX10_place_42 (fun v22 hv22 hsv22 => ?_)
            obtain rfl : v22 = .ref b0 := Option.some.inj (hsv22.symm.trans hs19)
            refine tf_iconst hx hb dX10_place_45 ?_
            refine tf_iald (t0 := 0) hx hb hK hW hb0 rfl rfl (by omega) (by omega) dX10_place_46 (fun v23 hv23 hsv23 => ?_)
            obtain ⟨z24, rfl, hz24⟩ := tf_v0 hv23
            have er25 : r0 4 = z24 := hs20 ▸ tf_rw_of (by omega) hsv23 ⟨by omega, by omega⟩
            have hg26 := tf_rd4 (tf_ROof hW hb0) hsv23 ⟨by omega, by omega⟩ (by omega)
            have hg27 := tf_rdM (tf_ROof hW hb0) hsv23 ⟨by omega, by omega⟩ (by omega)
            refine lv_istore_n (lv' := [(2, .int (Int32.ofInt z24)), (0, .ref a0), (1, .int (Int32.ofInt x1))]) hx hb dX10_place_47 rfl hl (by decide) rfl (fun ls hl => ?_)
            refine lv_iload_n hx hb dX10_place_48 rfl (lv_at hl 0 rfl) ?_
            refine tf_bipush hx hb dX10_place_49 (by decide) ?_
            refine tf_icmp_ne (tgt := 61) hx hb ⟨by omega, by omega⟩ ⟨by decide, by decide⟩ dX10_place_51 (by decide) (fun h28 => ?_) (fun h28 => ?_)
            · refine lv_aload_n hx hb dX10_place_61 rfl (lv_at hl 1 rfl) ?_
              refine tf_get hx hb hts inlX10 hown hK (ci := 10) rfl hW ha0 rfl 3 rfl (by decide) (hts _ fl_X10_13) dX10_place_62 (fun v29 hv29 hsv29 => ?_)
              obtain rfl : v29 = .ref b0 := Option.some.inj (hsv29.symm.trans hs19)
              refine tf_sipush hx hb dX10_place_65 (by decide) ?_
              refine lv_iload_n hx hb dX10_place_68 rfl (lv_at hl 0 rfl) ?_
              refine tf_iadd hx hb dX10_place_69 ?_
              refine lv_iload_n hx hb dX10_place_70 rfl (lv_at hl 2 rfl) ?_
              refine tf_rowst hx hb hK hW hb0 rfl (by omega) (by omega) (by decide) ⟨by omega, by omega⟩ (tf_RO_any (tf_ROof hW hb0) (by omega)) dX10_place_71 (fun H30 locs30 hW hu30 hq30 => ?_)
              have hs31 := tf_keepQ hs19 (hq30 _ (tf_ne ha0 hb0 (by decide)))
              have hu30 := hu30.trans (congrArg (fun w => tf_up w ((413 + z24)) (x1)) hs20)
              refine lv_aload_n hx hb dX10_place_72 rfl (lv_at hl 1 rfl) ?_
              refine tf_get hx hb hts inlX10 hown hK (ci := 10) rfl hW ha0 rfl 3 rfl (by decide) (hts _ fl_X10_13) dX10_place_73 (fun v32 hv32 hsv32 => ?_)
              obtain rfl : v32 = .ref b0 := Option.some.inj (hsv32.symm.trans hs31)
              refine tf_iconst hx hb dX10_place_76 ?_
              refine lv_dup2_11 hx hb dX10_place_77 rfl rfl ?_
              refine tf_iald (t0 := 0) hx hb hK hW hb0 rfl rfl (by omega) (by omega) dX10_place_78 (fun v33 hv33 hsv33 => ?_)
              obtain ⟨z34, rfl, hz34⟩ := tf_v0 hv33
              have er35 : (tf_up r0 ((413 + z24)) (x1)) 4 = z34 := hu30 ▸ tf_rw_of (by omega) hsv33 ⟨by omega, by omega⟩
              have hg36 := tf_rd4 (tf_ROof hW hb0) hsv33 ⟨by omega, by omega⟩ (by omega)
              have hg37 := tf_rdM (tf_ROof hW hb0) hsv33 ⟨by omega, by omega⟩ (by omega)
              refine tf_iconst hx hb dX10_place_79 ?_
              refine tf_iadd hx hb dX10_place_80 ?_
              have e0 := er35
              rw [tf_up_ne (by omega)] at e0
              refine tf_rowst hx hb hK hW hb0 rfl (by omega) (by omega) (by decide) ⟨by omega, by omega⟩ (tf_RO_any (tf_ROof hW hb0) (by omega)) dX10_place_81 (fun H38 locs38 hW hu38 hq38 => ?_)
              have hs39 := tf_keepQ hs31 (hq38 _ (tf_ne ha0 hb0 (by decide)))
              have hu38 := hu38.trans (congrArg (fun w => tf_up w (4) ((z34 + 1))) hu30)
              refine lv_aload_n hx hb dX10_place_82 rfl (lv_at hl 1 rfl) ?_
              refine lv_iload_n hx hb dX10_place_83 rfl (lv_at hl 0 rfl) ?_
              refine tf_calli (va_runV (As := [.int (Int32.ofInt z24)]) (rest := []) ⟨hx, hb, hml, hown, hts⟩ (c_X10_tell l g T a0 ha0 (z24) ⟨by omega, by omega⟩) (cwV 1 hts gv_X10_117 rfl rfl rfl hd_X10_tell ⟨Nat.le_trans (by decide) hR1, Nat.le_trans (by decide) hR2⟩) (tf_preV hk hW ha0 (ci := 10) rfl rfl trivial) rfl rfl hl.1 rfl (lv_room (Nat.le_of_ble_eq_true rfl)) dX10_place_84 ⟨Nat.zero_le _, Nat.zero_le _⟩) hW (by decide) (fun z40 H40 locs40 hW hF40 hp40 => ?_)
              have hs41 := tf_keepF hF40 ha0 rfl rfl (by decide) hs39
              obtain ⟨hp40_0, hp40_1, hp40_2⟩ := hp40
              exact tf_reti (z := z40) hx hb hr hlocks hQ hW (show (-2147483648) ≤ (z40) ∧ (z40) ≤ 2147483647 by omega) dX10_place_87
            · refine lv_aload_n hx hb dX10_place_54 rfl (lv_at hl 1 rfl) ?_
              refine tf_bipush hx hb dX10_place_55 (by decide) ?_
              refine tf_calli (va_runV (As := [.int (Int32.ofInt ((-5)))]) (rest := []) ⟨hx, hb, hml, hown, hts⟩ (c_X10_tell l g T a0 ha0 ((-5)) ⟨by omega, by omega⟩) (cwV 1 hts gv_X10_117 rfl rfl rfl hd_X10_tell ⟨Nat.le_trans (by decide) hR1, Nat.le_trans (by decide) hR2⟩) (tf_preV hk hW ha0 (ci := 10) rfl rfl trivial) rfl rfl hl.1 rfl (lv_room (Nat.le_of_ble_eq_true rfl)) dX10_place_57 ⟨Nat.zero_le _, Nat.zero_le _⟩) hW (by decide) (fun z42 H42 locs42 hW hF42 hp42 => ?_)
              have hs43 := tf_keepF hF42 ha0 rfl rfl (by decide) hs19
              have hs44 := tf_keepC hF42 hb0 rfl (by decide) hs20
              obtain ⟨hp42_0, hp42_1, hp42_2⟩ := hp42
              exact tf_reti (z := z42) hx hb hr hlocks hQ hW (show (-2147483648) ≤ (z42) ∧ (z42) ≤ 2147483647 by omega) dX10_place_60
          · exact j_34  _ _ hW  _ (lv_sub hl [0] rfl)
      · refine tf_if_eq (tgt := 34) hx hb ⟨by decide, by decide⟩ dX10_place_23 (by decide) (fun h45 => ?_) (fun h45 => ?_)
        · exact j_34  _ _ hW  _ (lv_sub hl [0] rfl)
        · exfalso; omega
    · exfalso; omega
  · refine tf_if_ne (tgt := 18) hx hb ⟨by decide, by decide⟩ dX10_place_9 (by decide) (fun h46 => ?_) (fun h46 => ?_)
    · exfalso; omega
    · refine lv_aload_n hx hb dX10_place_12 rfl (lv_at hl 0 rfl) ?_
      refine tf_iconst hx hb dX10_place_13 ?_
      refine tf_calli (va_runV (As := [.int (Int32.ofInt ((-1)))]) (rest := []) ⟨hx, hb, hml, hown, hts⟩ (c_X10_tell l g T a0 ha0 ((-1)) ⟨by omega, by omega⟩) (cwV 1 hts gv_X10_117 rfl rfl rfl hd_X10_tell ⟨Nat.le_trans (by decide) hR1, Nat.le_trans (by decide) hR2⟩) (tf_preV hk hW ha0 (ci := 10) rfl rfl trivial) rfl rfl hl.1 rfl (lv_room (Nat.le_of_ble_eq_true rfl)) dX10_place_14 ⟨Nat.zero_le _, Nat.zero_le _⟩) hW (by decide) (fun z47 H47 locs47 hW hF47 hp47 => ?_)
      have hs48 := tf_keepF hF47 ha0 rfl rfl (by decide) hs6
      have hs49 := tf_keepC hF47 hb0 rfl (by decide) hs7
      obtain ⟨hp47_0, hp47_1, hp47_2⟩ := hp47
      exact tf_reti (z := z47) hx hb hr hlocks hQ hW (show (-2147483648) ≤ (z47) ∧ (z47) ≤ 2147483647 by omega) dX10_place_17

abbrev M_X10_work : List (Nat × Nat) := [(27, 0), (28, 0), (50, 0), (50, 1)]
set_option maxHeartbeats 4000000 in
set_option maxRecDepth 100000 in
theorem c_X10_work (l : Launch) (g : tf_G) (T : tf_T) (a0 : Nat) (ha0 : T a0 = some (50, 0)) (x1 : Int) (hp1 : (-2147483648) ≤ x1 ∧ x1 ≤ 2147483647) (x2 : Int) (hp2 : (-2147483648) ≤ x2 ∧ x2 ≤ 2147483647) (x3 : Int) (hp3 : (-2147483648) ≤ x3 ∧ x3 ≤ 2147483647) (x4 : Int) (hp4 : (-2147483648) ≤ x4 ∧ x4 ≤ 2147483647) : Met l yX10_work (cd_X10_work :: wsL_law) ({ frames := 5, cells := 0, slots := 0, locals := 117 }) (tf_P g T [.ref a0, .int (Int32.ofInt x1), .int (Int32.ofInt x2), .int (Int32.ofInt x3), .int (Int32.ofInt x4)] (fun H => True)) (tf_Qi g M_X10_work T (fun z _ _ => (-2147483648) ≤ z ∧ z ≤ 2147483647)) 0 0 (fun q => tf_B g ≤ q) := by
  refine Met.ofW (cc := cX10_work) (maxL := 7) (ret := (some .int)) (by decide) rfl ?_
  intro p e s m args below meth c s₁ B hml hv
  obtain ⟨hargs, hk, hW0, hB, hpre⟩ := hv
  have hx := B.exec
  have hb := B.bytes
  have hr := B.returns
  have hts : ∀ w ∈ wsL_law, w.before args s = true := fun w h => atoms_spec (ws := cd_X10_work :: wsL_law) B.pre w (List.mem_cons_of_mem _ h)
  have hown : s.vm.findClass RX10 = some m.cls := findClass_of_methodNamed B.named
  have hlocks := B.notSynchronized
  have hK := hk.1
  have hW := tf_n.start (M := M_X10_work) hW0 hB
  obtain ⟨Q, hQ⟩ : ∃ q, q = MQ below (tf_Qi g M_X10_work T (fun z _ _ => (-2147483648) ≤ z ∧ z ≤ 2147483647)) args s 0 0 (fun q => tf_B g ≤ q) := ⟨_, rfl⟩
  rw [← hQ]
  obtain ⟨R, hR⟩ : ∃ q, q = (headSpec (cd_X10_work :: wsL_law) ({ frames := 5, cells := 0, slots := 0, locals := 117 })).room := ⟨_, rfl⟩
  rw [← hR]
  have hR1 : 5 ≤ R.frames := by rw [hR]; exact Nat.le_refl _
  have hR2 : 117 ≤ R.locals := by rw [hR]; exact Nat.le_refl _
  have hR3 : 0 ≤ R.cells := by rw [hR]; exact Nat.le_refl _
  have hR4 : 0 ≤ R.slots := by rw [hR]; exact Nat.le_refl _
  have hin := (name_of_methodNamed B.named B.method).1
  clear hR B
  obtain ⟨vb0, hfb0, hokb0⟩ := tf_peek hW ha0 (ci := 10) rfl 3 rfl
  obtain ⟨b0, rfl, hb0⟩ := tf_v1 hokb0
  obtain ⟨r0, hr0⟩ := tf_rname hW b0
  have hror0 : tf_RO r0 := hr0 ▸ tf_ROof hW hb0
  have j_152 : (-2147483648) ≤ x1 ∧ x1 ≤ 2147483647 → (-2147483648) ≤ x2 ∧ x2 ≤ 2147483647 → (-2147483648) ≤ x3 ∧ x3 ≤ 2147483647 → (-2147483648) ≤ x4 ∧ x4 ≤ 2147483647 → (0 ≤ x1 ∧ x1 ≤ 3) → (x1 = 2 → 0 ≤ x2 ∧ x2 ≤ 5) → (x1 ≠ 2 → 0 ≤ x2 ∧ x2 ≤ 99) → (x1 = 3 → 0 ≤ x3 ∧ x3 ≤ 99) → ∀ (H : Heap) (locs : List Loc), tf_n tf_kt g M_X10_work T s.heap T H locs → tf_s H a0 (g.1.2 10 3) = some (.ref b0) → tf_rw H b0 = r0 → ∀ (ls : Array Slot), lv_has ls 7 [(0, .ref a0), (1, .int (Int32.ofInt x1)), (2, .int (Int32.ofInt x2)), (3, .int (Int32.ofInt x3)), (4, .int (Int32.ofInt x4))] → W p l e R s m args below meth c H locs 0 0 Q (F0 m 152 ls []) := by
    intro hx1_152 hx2_152 hx3_152 hx4_152 hi0_152 hi1_152 hi2_152 hi3_152 H locs hW hs3_152 hcROW_152 ls hl
    refine lv_aload_n hx hb dX10_work_152 rfl (lv_at hl 0 rfl) ?_
    refine tf_get hx hb hts inlX10 hown hK (ci := 10) rfl hW ha0 rfl 3 rfl (by decide) (hts _ fl_X10_13) dX10_work_153 (fun v1 hv1 hsv1 => ?_)
    obtain rfl : v1 = .ref b0 := Option.some.inj (hsv1.symm.trans hs3_152)
    refine tf_iconst hx hb dX10_work_156 ?_
    refine tf_iald (t0 := 0) hx hb hK hW hb0 rfl rfl (by omega) (by omega) dX10_work_157 (fun v2 hv2 hsv2 => ?_)
    obtain ⟨z3, rfl, hz3⟩ := tf_v0 hv2
    have er4 : r0 3 = z3 := hcROW_152 ▸ tf_rw_of (by omega) hsv2 ⟨by omega, by omega⟩
    have hg5 := tf_rd3 (tf_ROof hW hb0) hsv2 ⟨by omega, by omega⟩ (by omega)
    refine lv_istore (lv' := [(6, .int (Int32.ofInt z3)), (0, .ref a0), (1, .int (Int32.ofInt x1)), (2, .int (Int32.ofInt x2)), (3, .int (Int32.ofInt x3)), (4, .int (Int32.ofInt x4))]) hx hb dX10_work_158 hl (by decide) rfl (fun ls hl => ?_)
    refine lv_iload hx hb dX10_work_160 (lv_at hl 0 rfl) ?_
    refine tf_bipush hx hb dX10_work_162 (by decide) ?_
    refine tf_icmp_ne (tgt := 174) hx hb ⟨by omega, by omega⟩ ⟨by decide, by decide⟩ dX10_work_164 (by decide) (fun h6 => ?_) (fun h6 => ?_)
    · refine lv_aload_n hx hb dX10_work_174 rfl (lv_at hl 1 rfl) ?_
      refine tf_get hx hb hts inlX10 hown hK (ci := 10) rfl hW ha0 rfl 3 rfl (by decide) (hts _ fl_X10_13) dX10_work_175 (fun v7 hv7 hsv7 => ?_)
      obtain rfl : v7 = .ref b0 := Option.some.inj (hsv7.symm.trans hs3_152)
      refine tf_sipush hx hb dX10_work_178 (by decide) ?_
      refine tf_iconst hx hb dX10_work_181 ?_
      refine lv_iload hx hb dX10_work_182 (lv_at hl 0 rfl) ?_
      refine tf_imul hx hb dX10_work_184 ?_
      refine tf_iadd hx hb dX10_work_185 ?_
      refine lv_iload_n hx hb dX10_work_186 rfl (lv_at hl 2 rfl) ?_
      refine tf_rowst hx hb hK hW hb0 rfl (by omega) (by omega) (by decide) ⟨by omega, by omega⟩ (tf_RO_any (tf_ROof hW hb0) (by rw [hcROW_152]; omega)) dX10_work_187 (fun H8 locs8 hW hu8 hq8 => ?_)
      have hs9 := tf_keepQ hs3_152 (hq8 _ (tf_ne ha0 hb0 (by decide)))
      have hu8 := hu8.trans (congrArg (fun w => tf_up w ((381 + (4 * z3))) (x1)) hcROW_152)
      refine lv_aload_n hx hb dX10_work_188 rfl (lv_at hl 1 rfl) ?_
      refine tf_get hx hb hts inlX10 hown hK (ci := 10) rfl hW ha0 rfl 3 rfl (by decide) (hts _ fl_X10_13) dX10_work_189 (fun v10 hv10 hsv10 => ?_)
      obtain rfl : v10 = .ref b0 := Option.some.inj (hsv10.symm.trans hs9)
      refine tf_sipush hx hb dX10_work_192 (by decide) ?_
      refine tf_iconst hx hb dX10_work_195 ?_
      refine lv_iload hx hb dX10_work_196 (lv_at hl 0 rfl) ?_
      refine tf_imul hx hb dX10_work_198 ?_
      refine tf_iadd hx hb dX10_work_199 ?_
      refine tf_iconst hx hb dX10_work_200 ?_
      refine tf_iadd hx hb dX10_work_201 ?_
      refine lv_iload_n hx hb dX10_work_202 rfl (lv_at hl 3 rfl) ?_
      refine tf_rowst hx hb hK hW hb0 rfl (by omega) (by omega) (by decide) ⟨by omega, by omega⟩ (tf_RO_any (tf_ROof hW hb0) (by rw [hu8, tf_up_ne (by omega)]; omega)) dX10_work_203 (fun H11 locs11 hW hu11 hq11 => ?_)
      have hs12 := tf_keepQ hs9 (hq11 _ (tf_ne ha0 hb0 (by decide)))
      have hu11 := hu11.trans (congrArg (fun w => tf_up w (((381 + (4 * z3)) + 1)) (x2)) hu8)
      refine lv_aload_n hx hb dX10_work_204 rfl (lv_at hl 1 rfl) ?_
      refine tf_get hx hb hts inlX10 hown hK (ci := 10) rfl hW ha0 rfl 3 rfl (by decide) (hts _ fl_X10_13) dX10_work_205 (fun v13 hv13 hsv13 => ?_)
      obtain rfl : v13 = .ref b0 := Option.some.inj (hsv13.symm.trans hs12)
      refine tf_sipush hx hb dX10_work_208 (by decide) ?_
      refine tf_iconst hx hb dX10_work_211 ?_
      refine lv_iload hx hb dX10_work_212 (lv_at hl 0 rfl) ?_
      refine tf_imul hx hb dX10_work_214 ?_
      refine tf_iadd hx hb dX10_work_215 ?_
      refine tf_iconst hx hb dX10_work_216 ?_
      refine tf_iadd hx hb dX10_work_217 ?_
      refine lv_iload_n hx hb dX10_work_218 rfl (lv_at hl 4 rfl) ?_
      refine tf_rowst hx hb hK hW hb0 rfl (by omega) (by omega) (by decide) ⟨by omega, by omega⟩ (tf_RO_any (tf_ROof hW hb0) (by rw [hu11, tf_up_ne (by omega), tf_up_ne (by omega)]; omega)) dX10_work_219 (fun H14 locs14 hW hu14 hq14 => ?_)
      have hs15 := tf_keepQ hs12 (hq14 _ (tf_ne ha0 hb0 (by decide)))
      have hu14 := hu14.trans (congrArg (fun w => tf_up w (((381 + (4 * z3)) + 2)) (x3)) hu11)
      refine lv_aload_n hx hb dX10_work_220 rfl (lv_at hl 1 rfl) ?_
      refine tf_get hx hb hts inlX10 hown hK (ci := 10) rfl hW ha0 rfl 3 rfl (by decide) (hts _ fl_X10_13) dX10_work_221 (fun v16 hv16 hsv16 => ?_)
      obtain rfl : v16 = .ref b0 := Option.some.inj (hsv16.symm.trans hs15)
      refine tf_sipush hx hb dX10_work_224 (by decide) ?_
      refine tf_iconst hx hb dX10_work_227 ?_
      refine lv_iload hx hb dX10_work_228 (lv_at hl 0 rfl) ?_
      refine tf_imul hx hb dX10_work_230 ?_
      refine tf_iadd hx hb dX10_work_231 ?_
      refine tf_iconst hx hb dX10_work_232 ?_
      refine tf_iadd hx hb dX10_work_233 ?_
      refine lv_iload hx hb dX10_work_234 (lv_at hl 5 rfl) ?_
      refine tf_rowst hx hb hK hW hb0 rfl (by omega) (by omega) (by decide) ⟨by omega, by omega⟩ (tf_RO_any (tf_ROof hW hb0) (by rw [hu14, tf_up_ne (by omega), tf_up_ne (by omega), tf_up_ne (by omega)]; omega)) dX10_work_236 (fun H17 locs17 hW hu17 hq17 => ?_)
      have hs18 := tf_keepQ hs15 (hq17 _ (tf_ne ha0 hb0 (by decide)))
      have hu17 := hu17.trans (congrArg (fun w => tf_up w (((381 + (4 * z3)) + 3)) (x4)) hu14)
      refine lv_aload_n hx hb dX10_work_237 rfl (lv_at hl 1 rfl) ?_
      refine tf_get hx hb hts inlX10 hown hK (ci := 10) rfl hW ha0 rfl 3 rfl (by decide) (hts _ fl_X10_13) dX10_work_238 (fun v19 hv19 hsv19 => ?_)
      obtain rfl : v19 = .ref b0 := Option.some.inj (hsv19.symm.trans hs18)
      refine tf_iconst hx hb dX10_work_241 ?_
      refine lv_dup2_11 hx hb dX10_work_242 rfl rfl ?_
      refine tf_iald (t0 := 0) hx hb hK hW hb0 rfl rfl (by omega) (by omega) dX10_work_243 (fun v20 hv20 hsv20 => ?_)
      obtain ⟨z21, rfl, hz21⟩ := tf_v0 hv20
      have er22 : (tf_up (tf_up (tf_up (tf_up r0 ((381 + (4 * z3))) (x1)) (((381 + (4 * z3)) + 1)) (x2)) (((381 + (4 * z3)) + 2)) (x3)) (((381 + (4 * z3)) + 3)) (x4)) 3 = z21 := hu17 ▸ tf_rw_of (by omega) hsv20 ⟨by omega, by omega⟩
      have hg23 := tf_rd3 (tf_ROof hW hb0) hsv20 ⟨by omega, by omega⟩ (by omega)
      refine tf_iconst hx hb dX10_work_244 ?_
      refine tf_iadd hx hb dX10_work_245 ?_
      have e3 := er22
      rw [tf_up_ne (by omega), tf_up_ne (by omega), tf_up_ne (by omega), tf_up_ne (by omega)] at e3
      refine tf_rowst hx hb hK hW hb0 rfl (by omega) (by omega) (by decide) ⟨by omega, by omega⟩ (by rw [hu17, show (z21 + 1) = z3 + 1 by omega]; exact tf_RO_work hror0 (by omega) (by omega) (by omega) (by omega) (by omega)) dX10_work_246 (fun H24 locs24 hW hu24 hq24 => ?_)
      have hs25 := tf_keepQ hs18 (hq24 _ (tf_ne ha0 hb0 (by decide)))
      have hu24 := hu24.trans (congrArg (fun w => tf_up w (3) ((z21 + 1))) hu17)
      refine lv_aload_n hx hb dX10_work_247 rfl (lv_at hl 1 rfl) ?_
      refine lv_iload hx hb dX10_work_248 (lv_at hl 0 rfl) ?_
      refine tf_calli (va_runV (As := [.int (Int32.ofInt z3)]) (rest := []) ⟨hx, hb, hml, hown, hts⟩ (c_X10_tell l g T a0 ha0 (z3) ⟨by omega, by omega⟩) (cwV 1 hts gv_X10_117 rfl rfl rfl hd_X10_tell ⟨Nat.le_trans (by decide) hR1, Nat.le_trans (by decide) hR2⟩) (tf_preV hk hW ha0 (ci := 10) rfl rfl trivial) rfl rfl hl.1 rfl (lv_room (Nat.le_of_ble_eq_true rfl)) dX10_work_250 ⟨Nat.zero_le _, Nat.zero_le _⟩) hW (by decide) (fun z26 H26 locs26 hW hF26 hp26 => ?_)
      have hs27 := tf_keepF hF26 ha0 rfl rfl (by decide) hs25
      obtain ⟨hp26_0, hp26_1, hp26_2⟩ := hp26
      exact tf_reti (z := z26) hx hb hr hlocks hQ hW (show (-2147483648) ≤ (z26) ∧ (z26) ≤ 2147483647 by omega) dX10_work_253
    · refine lv_aload_n hx hb dX10_work_167 rfl (lv_at hl 1 rfl) ?_
      refine tf_bipush hx hb dX10_work_168 (by decide) ?_
      refine tf_calli (va_runV (As := [.int (Int32.ofInt ((-5)))]) (rest := []) ⟨hx, hb, hml, hown, hts⟩ (c_X10_tell l g T a0 ha0 ((-5)) ⟨by omega, by omega⟩) (cwV 1 hts gv_X10_117 rfl rfl rfl hd_X10_tell ⟨Nat.le_trans (by decide) hR1, Nat.le_trans (by decide) hR2⟩) (tf_preV hk hW ha0 (ci := 10) rfl rfl trivial) rfl rfl hl.1 rfl (lv_room (Nat.le_of_ble_eq_true rfl)) dX10_work_170 ⟨Nat.zero_le _, Nat.zero_le _⟩) hW (by decide) (fun z28 H28 locs28 hW hF28 hp28 => ?_)
      have hs29 := tf_keepF hF28 ha0 rfl rfl (by decide) hs3_152
      have hs30 := tf_keepC hF28 hb0 rfl (by decide) hcROW_152
      obtain ⟨hp28_0, hp28_1, hp28_2⟩ := hp28
      exact tf_reti (z := z28) hx hb hr hlocks hQ hW (show (-2147483648) ≤ (z28) ∧ (z28) ≤ 2147483647 by omega) dX10_work_173
  have j_145 : ∀ (H : Heap) (locs : List Loc), tf_n tf_kt g M_X10_work T s.heap T H locs → ∀ (ls : Array Slot), lv_has ls 7 [(0, .ref a0)] → W p l e R s m args below meth c H locs 0 0 Q (F0 m 145 ls []) := by
    intro  H locs hW  ls hl
    refine lv_aload_n hx hb dX10_work_145 rfl (lv_at hl 0 rfl) ?_
    refine tf_bipush hx hb dX10_work_146 (by decide) ?_
    refine tf_calli (va_runV (As := [.int (Int32.ofInt ((-3)))]) (rest := []) ⟨hx, hb, hml, hown, hts⟩ (c_X10_tell l g T a0 ha0 ((-3)) ⟨by omega, by omega⟩) (cwV 1 hts gv_X10_117 rfl rfl rfl hd_X10_tell ⟨Nat.le_trans (by decide) hR1, Nat.le_trans (by decide) hR2⟩) (tf_preV hk hW ha0 (ci := 10) rfl rfl trivial) rfl rfl hl.1 rfl (lv_room (Nat.le_of_ble_eq_true rfl)) dX10_work_148 ⟨Nat.zero_le _, Nat.zero_le _⟩) hW (by decide) (fun z31 H31 locs31 hW hF31 hp31 => ?_)
    obtain ⟨hp31_0, hp31_1, hp31_2⟩ := hp31
    exact tf_reti (z := z31) hx hb hr hlocks hQ hW (show (-2147483648) ≤ (z31) ∧ (z31) ≤ 2147483647 by omega) dX10_work_151
  have j_132 : (-2147483648) ≤ x1 ∧ x1 ≤ 2147483647 → (-2147483648) ≤ x2 ∧ x2 ≤ 2147483647 → (-2147483648) ≤ x3 ∧ x3 ≤ 2147483647 → (-2147483648) ≤ x4 ∧ x4 ≤ 2147483647 → (0 ≤ x1 ∧ x1 ≤ 3) → (x1 = 2 → 0 ≤ x2 ∧ x2 ≤ 5) → (x1 ≠ 2 → 0 ≤ x2 ∧ x2 ≤ 99) → ∀ (H : Heap) (locs : List Loc), tf_n tf_kt g M_X10_work T s.heap T H locs → tf_s H a0 (g.1.2 10 3) = some (.ref b0) → tf_rw H b0 = r0 → ∀ (ls : Array Slot), lv_has ls 7 [(0, .ref a0), (1, .int (Int32.ofInt x1)), (2, .int (Int32.ofInt x2)), (3, .int (Int32.ofInt x3)), (4, .int (Int32.ofInt x4))] → W p l e R s m args below meth c H locs 0 0 Q (F0 m 132 ls []) := by
    intro hx1_132 hx2_132 hx3_132 hx4_132 hi0_132 hi1_132 hi2_132 H locs hW hs3_132 hcROW_132 ls hl
    refine lv_iload_n hx hb dX10_work_132 rfl (lv_at hl 1 rfl) ?_
    refine tf_iconst hx hb dX10_work_133 ?_
    refine tf_icmp_ne (tgt := 152) hx hb ⟨by omega, by omega⟩ ⟨by decide, by decide⟩ dX10_work_134 (by decide) (fun h32 => ?_) (fun h32 => ?_)
    · exact j_152 ⟨by omega, by omega⟩ ⟨by omega, by omega⟩ ⟨by omega, by omega⟩ ⟨by omega, by omega⟩ (by omega) (by omega) (by omega) (by omega) _ _ hW hs3_132 hcROW_132 _ (lv_sub hl [0, 1, 2, 3, 4] rfl)
    · refine lv_aload_n hx hb dX10_work_137 rfl (lv_at hl 0 rfl) ?_
      refine lv_iload_n hx hb dX10_work_138 rfl (lv_at hl 3 rfl) ?_
      refine tf_calli (va_runV (As := [.int (Int32.ofInt x3)]) (rest := []) ⟨hx, hb, hml, hown, hts⟩ (c_X10_isGround l g T a0 ha0 (x3) ⟨by omega, by omega⟩) (cwV 1 hts gv_X10_148 rfl rfl rfl hd_X10_isGround ⟨Nat.le_trans (by decide) hR1, Nat.le_trans (by decide) hR2⟩) (tf_preV hk hW ha0 (ci := 10) rfl rfl trivial) rfl rfl hl.1 rfl (lv_room (Nat.le_of_ble_eq_true rfl)) dX10_work_139 ⟨Nat.zero_le _, Nat.zero_le _⟩) hW (by decide) (fun z33 H33 locs33 hW hF33 hp33 => ?_)
      have hs34 := tf_keepF hF33 ha0 rfl rfl (by decide) hs3_132
      have hs35 := tf_keepC hF33 hb0 rfl (by decide) hcROW_132
      rcases hp33 with ⟨rfl, h36, h37⟩ | ⟨rfl⟩
      · refine tf_if_ne (tgt := 152) hx hb ⟨by decide, by decide⟩ dX10_work_142 (by decide) (fun h38 => ?_) (fun h38 => ?_)
        · exact j_152 ⟨by omega, by omega⟩ ⟨by omega, by omega⟩ ⟨by omega, by omega⟩ ⟨by omega, by omega⟩ (by omega) (by omega) (by omega) (by omega) _ _ hW hs34 hs35 _ (lv_sub hl [0, 1, 2, 3, 4] rfl)
        · exfalso; omega
      · refine tf_if_ne (tgt := 152) hx hb ⟨by decide, by decide⟩ dX10_work_142 (by decide) (fun h39 => ?_) (fun h39 => ?_)
        · exfalso; omega
        · exact j_145  _ _ hW  _ (lv_sub hl [0] rfl)
  have j_119 : (-2147483648) ≤ x1 ∧ x1 ≤ 2147483647 → (-2147483648) ≤ x2 ∧ x2 ≤ 2147483647 → (-2147483648) ≤ x3 ∧ x3 ≤ 2147483647 → (-2147483648) ≤ x4 ∧ x4 ≤ 2147483647 → (0 ≤ x1 ∧ x1 ≤ 3) → (x1 = 2 → 0 ≤ x2 ∧ x2 ≤ 5) → ∀ (H : Heap) (locs : List Loc), tf_n tf_kt g M_X10_work T s.heap T H locs → tf_s H a0 (g.1.2 10 3) = some (.ref b0) → tf_rw H b0 = r0 → ∀ (ls : Array Slot), lv_has ls 7 [(0, .ref a0), (1, .int (Int32.ofInt x1)), (2, .int (Int32.ofInt x2)), (3, .int (Int32.ofInt x3)), (4, .int (Int32.ofInt x4))] → W p l e R s m args below meth c H locs 0 0 Q (F0 m 119 ls []) := by
    intro hx1_119 hx2_119 hx3_119 hx4_119 hi0_119 hi1_119 H locs hW hs3_119 hcROW_119 ls hl
    refine lv_iload_n hx hb dX10_work_119 rfl (lv_at hl 1 rfl) ?_
    refine tf_iconst hx hb dX10_work_120 ?_
    refine tf_icmp_eq (tgt := 132) hx hb ⟨by omega, by omega⟩ ⟨by decide, by decide⟩ dX10_work_121 (by decide) (fun h40 => ?_) (fun h40 => ?_)
    · exact j_132 ⟨by omega, by omega⟩ ⟨by omega, by omega⟩ ⟨by omega, by omega⟩ ⟨by omega, by omega⟩ (by omega) (by omega) (by omega) _ _ hW hs3_119 hcROW_119 _ (lv_sub hl [0, 1, 2, 3, 4] rfl)
    · refine lv_aload_n hx hb dX10_work_124 rfl (lv_at hl 0 rfl) ?_
      refine lv_iload_n hx hb dX10_work_125 rfl (lv_at hl 2 rfl) ?_
      refine tf_calli (va_runV (As := [.int (Int32.ofInt x2)]) (rest := []) ⟨hx, hb, hml, hown, hts⟩ (c_X10_isGround l g T a0 ha0 (x2) ⟨by omega, by omega⟩) (cwV 1 hts gv_X10_148 rfl rfl rfl hd_X10_isGround ⟨Nat.le_trans (by decide) hR1, Nat.le_trans (by decide) hR2⟩) (tf_preV hk hW ha0 (ci := 10) rfl rfl trivial) rfl rfl hl.1 rfl (lv_room (Nat.le_of_ble_eq_true rfl)) dX10_work_126 ⟨Nat.zero_le _, Nat.zero_le _⟩) hW (by decide) (fun z41 H41 locs41 hW hF41 hp41 => ?_)
      have hs42 := tf_keepF hF41 ha0 rfl rfl (by decide) hs3_119
      have hs43 := tf_keepC hF41 hb0 rfl (by decide) hcROW_119
      rcases hp41 with ⟨rfl, h44, h45⟩ | ⟨rfl⟩
      · refine tf_if_eq (tgt := 145) hx hb ⟨by decide, by decide⟩ dX10_work_129 (by decide) (fun h46 => ?_) (fun h46 => ?_)
        · exfalso; omega
        · exact j_132 ⟨by omega, by omega⟩ ⟨by omega, by omega⟩ ⟨by omega, by omega⟩ ⟨by omega, by omega⟩ (by omega) (by omega) (by omega) _ _ hW hs42 hs43 _ (lv_sub hl [0, 1, 2, 3, 4] rfl)
      · refine tf_if_eq (tgt := 145) hx hb ⟨by decide, by decide⟩ dX10_work_129 (by decide) (fun h47 => ?_) (fun h47 => ?_)
        · exact j_145  _ _ hW  _ (lv_sub hl [0] rfl)
        · exfalso; omega
  have j_86 : (-2147483648) ≤ x1 ∧ x1 ≤ 2147483647 → (-2147483648) ≤ x2 ∧ x2 ≤ 2147483647 → (-2147483648) ≤ x3 ∧ x3 ≤ 2147483647 → (-2147483648) ≤ x4 ∧ x4 ≤ 2147483647 → ∀ (y0_86 : Int), 0 ≤ y0_86 ∧ y0_86 ≤ 1 → (y0_86 = 0 ∨ (0 ≤ x1 ∧ x1 ≤ 3)) → ∀ (H : Heap) (locs : List Loc), tf_n tf_kt g M_X10_work T s.heap T H locs → tf_s H a0 (g.1.2 10 3) = some (.ref b0) → tf_rw H b0 = r0 → ∀ (ls : Array Slot), lv_has ls 7 [(0, .ref a0), (1, .int (Int32.ofInt x1)), (2, .int (Int32.ofInt x2)), (3, .int (Int32.ofInt x3)), (4, .int (Int32.ofInt x4))] → W p l e R s m args below meth c H locs 0 0 Q (F0 m 86 ls [.int (Int32.ofInt y0_86)]) := by
    intro hx1_86 hx2_86 hx3_86 hx4_86 y0_86 hy0_86 hi0_86 H locs hW hs3_86 hcROW_86 ls hl
    refine lv_istore (lv' := [(5, .int (Int32.ofInt y0_86)), (0, .ref a0), (1, .int (Int32.ofInt x1)), (2, .int (Int32.ofInt x2)), (3, .int (Int32.ofInt x3)), (4, .int (Int32.ofInt x4))]) hx hb dX10_work_86 hl (by decide) rfl (fun ls hl => ?_)
    refine lv_iload hx hb dX10_work_88 (lv_at hl 0 rfl) ?_
    refine tf_if_ne (tgt := 99) hx hb ⟨by omega, by omega⟩ dX10_work_90 (by decide) (fun h48 => ?_) (fun h48 => ?_)
    · refine lv_iload_n hx hb dX10_work_99 rfl (lv_at hl 2 rfl) ?_
      refine tf_iconst hx hb dX10_work_100 ?_
      refine tf_icmp_ne (tgt := 119) hx hb ⟨by omega, by omega⟩ ⟨by decide, by decide⟩ dX10_work_101 (by decide) (fun h49 => ?_) (fun h49 => ?_)
      · exact j_119 ⟨by omega, by omega⟩ ⟨by omega, by omega⟩ ⟨by omega, by omega⟩ ⟨by omega, by omega⟩ (by omega) (by omega) _ _ hW hs3_86 hcROW_86 _ (lv_sub hl [1, 2, 3, 4, 5] rfl)
      · refine lv_aload_n hx hb dX10_work_104 rfl (lv_at hl 1 rfl) ?_
        refine lv_iload_n hx hb dX10_work_105 rfl (lv_at hl 3 rfl) ?_
        refine tf_calli (va_runV (As := [.int (Int32.ofInt x2)]) (rest := []) ⟨hx, hb, hml, hown, hts⟩ (c_X10_isTower l g T a0 ha0 (x2) ⟨by omega, by omega⟩) (cwV 1 hts gv_X10_165 rfl rfl rfl hd_X10_isTower ⟨Nat.le_trans (by decide) hR1, Nat.le_trans (by decide) hR2⟩) (tf_preV hk hW ha0 (ci := 10) rfl rfl trivial) rfl rfl hl.1 rfl (lv_room (Nat.le_of_ble_eq_true rfl)) dX10_work_106 ⟨Nat.zero_le _, Nat.zero_le _⟩) hW (by decide) (fun z50 H50 locs50 hW hF50 hp50 => ?_)
        have hs51 := tf_keepF hF50 ha0 rfl rfl (by decide) hs3_86
        have hs52 := tf_keepC hF50 hb0 rfl (by decide) hcROW_86
        rcases hp50 with ⟨rfl, h53, h54⟩ | ⟨rfl⟩
        · refine tf_if_ne (tgt := 119) hx hb ⟨by decide, by decide⟩ dX10_work_109 (by decide) (fun h55 => ?_) (fun h55 => ?_)
          · exact j_119 ⟨by omega, by omega⟩ ⟨by omega, by omega⟩ ⟨by omega, by omega⟩ ⟨by omega, by omega⟩ (by omega) (by omega) _ _ hW hs51 hs52 _ (lv_sub hl [1, 2, 3, 4, 5] rfl)
          · exfalso; omega
        · refine tf_if_ne (tgt := 119) hx hb ⟨by decide, by decide⟩ dX10_work_109 (by decide) (fun h56 => ?_) (fun h56 => ?_)
          · exfalso; omega
          · refine lv_aload_n hx hb dX10_work_112 rfl (lv_at hl 1 rfl) ?_
            refine tf_bipush hx hb dX10_work_113 (by decide) ?_
            refine tf_calli (va_runV (As := [.int (Int32.ofInt ((-2)))]) (rest := []) ⟨hx, hb, hml, hown, hts⟩ (c_X10_tell l g T a0 ha0 ((-2)) ⟨by omega, by omega⟩) (cwV 1 hts gv_X10_117 rfl rfl rfl hd_X10_tell ⟨Nat.le_trans (by decide) hR1, Nat.le_trans (by decide) hR2⟩) (tf_preV hk hW ha0 (ci := 10) rfl rfl trivial) rfl rfl hl.1 rfl (lv_room (Nat.le_of_ble_eq_true rfl)) dX10_work_115 ⟨Nat.zero_le _, Nat.zero_le _⟩) hW (by decide) (fun z57 H57 locs57 hW hF57 hp57 => ?_)
            have hs58 := tf_keepF hF57 ha0 rfl rfl (by decide) hs51
            have hs59 := tf_keepC hF57 hb0 rfl (by decide) hs52
            obtain ⟨hp57_0, hp57_1, hp57_2⟩ := hp57
            exact tf_reti (z := z57) hx hb hr hlocks hQ hW (show (-2147483648) ≤ (z57) ∧ (z57) ≤ 2147483647 by omega) dX10_work_118
    · refine lv_aload_n hx hb dX10_work_93 rfl (lv_at hl 1 rfl) ?_
      refine tf_iconst hx hb dX10_work_94 ?_
      refine tf_calli (va_runV (As := [.int (Int32.ofInt ((-1)))]) (rest := []) ⟨hx, hb, hml, hown, hts⟩ (c_X10_tell l g T a0 ha0 ((-1)) ⟨by omega, by omega⟩) (cwV 1 hts gv_X10_117 rfl rfl rfl hd_X10_tell ⟨Nat.le_trans (by decide) hR1, Nat.le_trans (by decide) hR2⟩) (tf_preV hk hW ha0 (ci := 10) rfl rfl trivial) rfl rfl hl.1 rfl (lv_room (Nat.le_of_ble_eq_true rfl)) dX10_work_95 ⟨Nat.zero_le _, Nat.zero_le _⟩) hW (by decide) (fun z60 H60 locs60 hW hF60 hp60 => ?_)
      have hs61 := tf_keepF hF60 ha0 rfl rfl (by decide) hs3_86
      have hs62 := tf_keepC hF60 hb0 rfl (by decide) hcROW_86
      obtain ⟨hp60_0, hp60_1, hp60_2⟩ := hp60
      exact tf_reti (z := z60) hx hb hr hlocks hQ hW (show (-2147483648) ≤ (z60) ∧ (z60) ≤ 2147483647 by omega) dX10_work_98
  have j_85 : (-2147483648) ≤ x1 ∧ x1 ≤ 2147483647 → (-2147483648) ≤ x2 ∧ x2 ≤ 2147483647 → (-2147483648) ≤ x3 ∧ x3 ≤ 2147483647 → (-2147483648) ≤ x4 ∧ x4 ≤ 2147483647 → ∀ (H : Heap) (locs : List Loc), tf_n tf_kt g M_X10_work T s.heap T H locs → tf_s H a0 (g.1.2 10 3) = some (.ref b0) → tf_rw H b0 = r0 → ∀ (ls : Array Slot), lv_has ls 7 [(0, .ref a0), (1, .int (Int32.ofInt x1)), (2, .int (Int32.ofInt x2)), (3, .int (Int32.ofInt x3)), (4, .int (Int32.ofInt x4))] → W p l e R s m args below meth c H locs 0 0 Q (F0 m 85 ls []) := by
    intro hx1_85 hx2_85 hx3_85 hx4_85 H locs hW hs3_85 hcROW_85 ls hl
    refine tf_iconst hx hb dX10_work_85 ?_
    exact j_86 ⟨by omega, by omega⟩ ⟨by omega, by omega⟩ ⟨by omega, by omega⟩ ⟨by omega, by omega⟩ (0) ⟨by omega, by omega⟩ (by omega) _ _ hW hs3_85 hcROW_85 _ (lv_sub hl [0, 1, 2, 3, 4] rfl)
  have j_81 : (-2147483648) ≤ x1 ∧ x1 ≤ 2147483647 → (-2147483648) ≤ x2 ∧ x2 ≤ 2147483647 → 0 ≤ x3 ∧ x3 ≤ 99 → (-2147483648) ≤ x4 ∧ x4 ≤ 2147483647 → (0 ≤ x1 ∧ x1 ≤ 3) → ∀ (H : Heap) (locs : List Loc), tf_n tf_kt g M_X10_work T s.heap T H locs → tf_s H a0 (g.1.2 10 3) = some (.ref b0) → tf_rw H b0 = r0 → ∀ (ls : Array Slot), lv_has ls 7 [(0, .ref a0), (1, .int (Int32.ofInt x1)), (2, .int (Int32.ofInt x2)), (3, .int (Int32.ofInt x3)), (4, .int (Int32.ofInt x4))] → W p l e R s m args below meth c H locs 0 0 Q (F0 m 81 ls []) := by
    intro hx1_81 hx2_81 hx3_81 hx4_81 hi0_81 H locs hW hs3_81 hcROW_81 ls hl
    refine tf_iconst hx hb dX10_work_81 ?_
    refine lv_goto (tgt := 86) hx hb dX10_work_82 (by decide) ?_
    exact j_86 ⟨by omega, by omega⟩ ⟨by omega, by omega⟩ ⟨by omega, by omega⟩ ⟨by omega, by omega⟩ (1) ⟨by omega, by omega⟩ (by omega) _ _ hW hs3_81 hcROW_81 _ (lv_sub hl [0, 1, 2, 3, 4] rfl)
  have j_54 : (-2147483648) ≤ x1 ∧ x1 ≤ 2147483647 → (-2147483648) ≤ x2 ∧ x2 ≤ 2147483647 → (-2147483648) ≤ x3 ∧ x3 ≤ 2147483647 → (-2147483648) ≤ x4 ∧ x4 ≤ 2147483647 → (0 ≤ x1 ∧ x1 ≤ 3) → ∀ (H : Heap) (locs : List Loc), tf_n tf_kt g M_X10_work T s.heap T H locs → tf_s H a0 (g.1.2 10 3) = some (.ref b0) → tf_rw H b0 = r0 → ∀ (ls : Array Slot), lv_has ls 7 [(0, .ref a0), (1, .int (Int32.ofInt x1)), (2, .int (Int32.ofInt x2)), (3, .int (Int32.ofInt x3)), (4, .int (Int32.ofInt x4))] → W p l e R s m args below meth c H locs 0 0 Q (F0 m 54 ls []) := by
    intro hx1_54 hx2_54 hx3_54 hx4_54 hi0_54 H locs hW hs3_54 hcROW_54 ls hl
    refine lv_iload_n hx hb dX10_work_54 rfl (lv_at hl 1 rfl) ?_
    refine tf_iconst hx hb dX10_work_55 ?_
    refine tf_icmp_ne (tgt := 69) hx hb ⟨by omega, by omega⟩ ⟨by decide, by decide⟩ dX10_work_56 (by decide) (fun h63 => ?_) (fun h63 => ?_)
    · refine lv_iload_n hx hb dX10_work_69 rfl (lv_at hl 3 rfl) ?_
      refine tf_i2l hx hb ⟨by omega, by omega⟩ dX10_work_70 ?_
      refine tf_lconst (z := 1) hx hb dX10_work_71 (by decide) ?_
      refine tf_ldc2 (z := 9) hx hb hown (hts _ kl_X10_142) (by decide) dX10_work_72 ?_
      refine tf_calli (va_runS (As := [.long (Int64.ofInt x3), .long (Int64.ofInt 1), .long (Int64.ofInt 9)]) (rest := []) ⟨hx, hb, hml, hown, hts⟩ (c_X10_in l g T (x3) ⟨by omega, by omega⟩ (1) ⟨by omega, by omega⟩ (9) ⟨by omega, by omega⟩) ⟨callB_of 3 hts (gw_ws cm_X10_in) rfl rfl rfl (hts _ (tw1 (i := 5) rfl)) (hts _ (tw11 (i := 3) rfl)) hd_X10_in.2 ⟨Nat.le_trans (by decide) hR1, Nat.le_trans (by decide) hR2⟩, hts _ (tw11 (i := 4) rfl)⟩ (tf_preS hk hW trivial) rfl rfl hl.1 rfl (lv_room (Nat.le_of_ble_eq_true rfl)) dX10_work_75 ⟨Nat.zero_le _, Nat.zero_le _⟩) hW (by decide) (fun z64 H64 locs64 hW hF64 hp64 => ?_)
      have hs65 := tf_keepF hF64 ha0 rfl rfl (by decide) hs3_54
      have hs66 := tf_keepC hF64 hb0 rfl (by decide) hcROW_54
      rcases hp64 with ⟨rfl, h67, h68⟩ | ⟨rfl, h69⟩
      · refine tf_if_eq (tgt := 85) hx hb ⟨by decide, by decide⟩ dX10_work_78 (by decide) (fun h70 => ?_) (fun h70 => ?_)
        · exfalso; omega
        · exact j_81 ⟨by omega, by omega⟩ ⟨by omega, by omega⟩ ⟨by omega, by omega⟩ ⟨by omega, by omega⟩ (by omega) _ _ hW hs65 hs66 _ (lv_sub hl [0, 1, 2, 3, 4] rfl)
      · refine tf_if_eq (tgt := 85) hx hb ⟨by decide, by decide⟩ dX10_work_78 (by decide) (fun h71 => ?_) (fun h71 => ?_)
        · exact j_85 ⟨by omega, by omega⟩ ⟨by omega, by omega⟩ ⟨by omega, by omega⟩ ⟨by omega, by omega⟩ _ _ hW hs65 hs66 _ (lv_sub hl [0, 1, 2, 3, 4] rfl)
        · exfalso; omega
    · refine lv_iload_n hx hb dX10_work_59 rfl (lv_at hl 3 rfl) ?_
      refine tf_calli (va_runS (As := [.int (Int32.ofInt x3)]) (rest := []) ⟨hx, hb, hml, hown, hts⟩ (c_X10_isCell l g T (x3) ⟨by omega, by omega⟩) ⟨callB_of 1 hts (gw_ws cm_X10_isCell) rfl rfl rfl (hts _ (tw1 (i := 5) rfl)) (hts _ (tw11 (i := 19) rfl)) hd_X10_isCell.2 ⟨Nat.le_trans (by decide) hR1, Nat.le_trans (by decide) hR2⟩, hts _ (tw11 (i := 20) rfl)⟩ (tf_preS hk hW trivial) rfl rfl hl.1 rfl (lv_room (Nat.le_of_ble_eq_true rfl)) dX10_work_60 ⟨Nat.zero_le _, Nat.zero_le _⟩) hW (by decide) (fun z72 H72 locs72 hW hF72 hp72 => ?_)
      have hs73 := tf_keepF hF72 ha0 rfl rfl (by decide) hs3_54
      have hs74 := tf_keepC hF72 hb0 rfl (by decide) hcROW_54
      rcases hp72 with ⟨rfl, h75, h76⟩ | ⟨rfl, h77⟩
      · refine tf_if_eq (tgt := 85) hx hb ⟨by decide, by decide⟩ dX10_work_63 (by decide) (fun h78 => ?_) (fun h78 => ?_)
        · exfalso; omega
        · refine lv_goto (tgt := 81) hx hb dX10_work_66 (by decide) ?_
          exact j_81 ⟨by omega, by omega⟩ ⟨by omega, by omega⟩ ⟨by omega, by omega⟩ ⟨by omega, by omega⟩ (by omega) _ _ hW hs73 hs74 _ (lv_sub hl [0, 1, 2, 3, 4] rfl)
      · refine tf_if_eq (tgt := 85) hx hb ⟨by decide, by decide⟩ dX10_work_63 (by decide) (fun h79 => ?_) (fun h79 => ?_)
        · exact j_85 ⟨by omega, by omega⟩ ⟨by omega, by omega⟩ ⟨by omega, by omega⟩ ⟨by omega, by omega⟩ _ _ hW hs73 hs74 _ (lv_sub hl [0, 1, 2, 3, 4] rfl)
        · exfalso; omega
  have j_35 : (-2147483648) ≤ x1 ∧ x1 ≤ 2147483647 → (-2147483648) ≤ x2 ∧ x2 ≤ 2147483647 → (-2147483648) ≤ x3 ∧ x3 ≤ 2147483647 → (-2147483648) ≤ x4 ∧ x4 ≤ 2147483647 → ∀ (y0_35 : Int), 0 ≤ y0_35 ∧ y0_35 ≤ 1 → (y0_35 = 0 ∨ (0 ≤ x1 ∧ x1 ≤ 3)) → ∀ (H : Heap) (locs : List Loc), tf_n tf_kt g M_X10_work T s.heap T H locs → tf_s H a0 (g.1.2 10 3) = some (.ref b0) → tf_rw H b0 = r0 → ∀ (ls : Array Slot), lv_has ls 7 [(0, .ref a0), (1, .int (Int32.ofInt x1)), (2, .int (Int32.ofInt x2)), (3, .int (Int32.ofInt x3)), (4, .int (Int32.ofInt x4))] → W p l e R s m args below meth c H locs 0 0 Q (F0 m 35 ls [.int (Int32.ofInt y0_35)]) := by
    intro hx1_35 hx2_35 hx3_35 hx4_35 y0_35 hy0_35 hi0_35 H locs hW hs3_35 hcROW_35 ls hl
    refine lv_istore (lv' := [(5, .int (Int32.ofInt y0_35)), (0, .ref a0), (1, .int (Int32.ofInt x1)), (2, .int (Int32.ofInt x2)), (3, .int (Int32.ofInt x3)), (4, .int (Int32.ofInt x4))]) hx hb dX10_work_35 hl (by decide) rfl (fun ls hl => ?_)
    refine lv_iload hx hb dX10_work_37 (lv_at hl 0 rfl) ?_
    refine tf_if_eq (tgt := 85) hx hb ⟨by omega, by omega⟩ dX10_work_39 (by decide) (fun h80 => ?_) (fun h80 => ?_)
    · exact j_85 ⟨by omega, by omega⟩ ⟨by omega, by omega⟩ ⟨by omega, by omega⟩ ⟨by omega, by omega⟩ _ _ hW hs3_35 hcROW_35 _ (lv_sub hl [1, 2, 3, 4, 5] rfl)
    · refine lv_iload_n hx hb dX10_work_42 rfl (lv_at hl 2 rfl) ?_
      refine tf_iconst hx hb dX10_work_43 ?_
      refine tf_icmp_eq (tgt := 54) hx hb ⟨by omega, by omega⟩ ⟨by decide, by decide⟩ dX10_work_44 (by decide) (fun h81 => ?_) (fun h81 => ?_)
      · exact j_54 ⟨by omega, by omega⟩ ⟨by omega, by omega⟩ ⟨by omega, by omega⟩ ⟨by omega, by omega⟩ (by omega) _ _ hW hs3_35 hcROW_35 _ (lv_sub hl [1, 2, 3, 4, 5] rfl)
      · refine lv_iload_n hx hb dX10_work_47 rfl (lv_at hl 3 rfl) ?_
        refine tf_calli (va_runS (As := [.int (Int32.ofInt x2)]) (rest := []) ⟨hx, hb, hml, hown, hts⟩ (c_X10_isCell l g T (x2) ⟨by omega, by omega⟩) ⟨callB_of 1 hts (gw_ws cm_X10_isCell) rfl rfl rfl (hts _ (tw1 (i := 5) rfl)) (hts _ (tw11 (i := 19) rfl)) hd_X10_isCell.2 ⟨Nat.le_trans (by decide) hR1, Nat.le_trans (by decide) hR2⟩, hts _ (tw11 (i := 20) rfl)⟩ (tf_preS hk hW trivial) rfl rfl hl.1 rfl (lv_room (Nat.le_of_ble_eq_true rfl)) dX10_work_48 ⟨Nat.zero_le _, Nat.zero_le _⟩) hW (by decide) (fun z82 H82 locs82 hW hF82 hp82 => ?_)
        have hs83 := tf_keepF hF82 ha0 rfl rfl (by decide) hs3_35
        have hs84 := tf_keepC hF82 hb0 rfl (by decide) hcROW_35
        rcases hp82 with ⟨rfl, h85, h86⟩ | ⟨rfl, h87⟩
        · refine tf_if_eq (tgt := 85) hx hb ⟨by decide, by decide⟩ dX10_work_51 (by decide) (fun h88 => ?_) (fun h88 => ?_)
          · exfalso; omega
          · exact j_54 ⟨by omega, by omega⟩ ⟨by omega, by omega⟩ ⟨by omega, by omega⟩ ⟨by omega, by omega⟩ (by omega) _ _ hW hs83 hs84 _ (lv_sub hl [1, 2, 3, 4, 5] rfl)
        · refine tf_if_eq (tgt := 85) hx hb ⟨by decide, by decide⟩ dX10_work_51 (by decide) (fun h89 => ?_) (fun h89 => ?_)
          · exact j_85 ⟨by omega, by omega⟩ ⟨by omega, by omega⟩ ⟨by omega, by omega⟩ ⟨by omega, by omega⟩ _ _ hW hs83 hs84 _ (lv_sub hl [1, 2, 3, 4, 5] rfl)
          · exfalso; omega
  have j_34 : (-2147483648) ≤ x1 ∧ x1 ≤ 2147483647 → (-2147483648) ≤ x2 ∧ x2 ≤ 2147483647 → (-2147483648) ≤ x3 ∧ x3 ≤ 2147483647 → (-2147483648) ≤ x4 ∧ x4 ≤ 2147483647 → ∀ (H : Heap) (locs : List Loc), tf_n tf_kt g M_X10_work T s.heap T H locs → tf_s H a0 (g.1.2 10 3) = some (.ref b0) → tf_rw H b0 = r0 → ∀ (ls : Array Slot), lv_has ls 7 [(0, .ref a0), (1, .int (Int32.ofInt x1)), (2, .int (Int32.ofInt x2)), (3, .int (Int32.ofInt x3)), (4, .int (Int32.ofInt x4))] → W p l e R s m args below meth c H locs 0 0 Q (F0 m 34 ls []) := by
    intro hx1_34 hx2_34 hx3_34 hx4_34 H locs hW hs3_34 hcROW_34 ls hl
    refine tf_iconst hx hb dX10_work_34 ?_
    exact j_35 ⟨by omega, by omega⟩ ⟨by omega, by omega⟩ ⟨by omega, by omega⟩ ⟨by omega, by omega⟩ (0) ⟨by omega, by omega⟩ (by omega) _ _ hW hs3_34 hcROW_34 _ (lv_sub hl [0, 1, 2, 3, 4] rfl)
  refine tf_enter (As := [.ref a0, .int (Int32.ofInt x1), .int (Int32.ofInt x2), .int (Int32.ofInt x3), .int (Int32.ofInt x4)]) hargs (Nat.le_of_ble_eq_true rfl) (fun ls hl => ?_)
  have hl : lv_has ls 7 [(0, .ref a0), (1, .int (Int32.ofInt x1)), (2, .int (Int32.ofInt x2)), (3, .int (Int32.ofInt x3)), (4, .int (Int32.ofInt x4))] := hl
  refine lv_aload_n hx hb dX10_work_0 rfl (lv_at hl 0 rfl) ?_
  refine tf_iconst hx hb dX10_work_1 ?_
  refine tf_put hx hb hts inlX10 tyX10 tyX10_ok nmX10 hown hK (ci := 10) rfl hW ha0 rfl rfl 0 rfl (by decide) (by decide) (hts _ fl_X10_103) rfl (tf_u0 (by omega) (by omega)) rfl rfl dX10_work_2 (fun H90 locs90 hW hs90 ht90 hq90 => ?_)
  have hs91 := (ht90 3 (by decide) (by decide)).trans hfb0
  have hs92 := tf_keepCQ hr0 (hq90 _ (tf_ne hb0 ha0 (by decide)))
  refine lv_iload_n hx hb dX10_work_5 rfl (lv_at hl 1 rfl) ?_
  refine tf_i2l hx hb ⟨by omega, by omega⟩ dX10_work_6 ?_
  refine tf_lconst (z := 0) hx hb dX10_work_7 (by decide) ?_
  refine tf_ldc2 (z := 3) hx hb hown (hts _ kl_X10_122) (by decide) dX10_work_8 ?_
  refine tf_calli (va_runS (As := [.long (Int64.ofInt x1), .long (Int64.ofInt 0), .long (Int64.ofInt 3)]) (rest := []) ⟨hx, hb, hml, hown, hts⟩ (c_X10_in l g T (x1) ⟨by omega, by omega⟩ (0) ⟨by omega, by omega⟩ (3) ⟨by omega, by omega⟩) ⟨callB_of 3 hts (gw_ws cm_X10_in) rfl rfl rfl (hts _ (tw1 (i := 5) rfl)) (hts _ (tw11 (i := 3) rfl)) hd_X10_in.2 ⟨Nat.le_trans (by decide) hR1, Nat.le_trans (by decide) hR2⟩, hts _ (tw11 (i := 4) rfl)⟩ (tf_preS hk hW trivial) rfl rfl hl.1 rfl (lv_room (Nat.le_of_ble_eq_true rfl)) dX10_work_11 ⟨Nat.zero_le _, Nat.zero_le _⟩) hW (by decide) (fun z93 H93 locs93 hW hF93 hp93 => ?_)
  have hs94 := tf_keepF hF93 ha0 rfl rfl (by decide) hs91
  have hs95 := tf_keepC hF93 hb0 rfl (by decide) hs92
  rcases hp93 with ⟨rfl, h96, h97⟩ | ⟨rfl, h98⟩
  · refine tf_if_eq (tgt := 34) hx hb ⟨by decide, by decide⟩ dX10_work_14 (by decide) (fun h99 => ?_) (fun h99 => ?_)
    · exfalso; omega
    · refine lv_iload hx hb dX10_work_17 (lv_at hl 4 rfl) ?_
      refine tf_i2l hx hb ⟨by omega, by omega⟩ dX10_work_19 ?_
      refine tf_lconst (z := 0) hx hb dX10_work_20 (by decide) ?_
      refine tf_ldc2 (z := 999) hx hb hown (hts _ kl_X10_181) (by decide) dX10_work_21 ?_
      refine tf_calli (va_runS (As := [.long (Int64.ofInt x4), .long (Int64.ofInt 0), .long (Int64.ofInt 999)]) (rest := []) ⟨hx, hb, hml, hown, hts⟩ (c_X10_in l g T (x4) ⟨by omega, by omega⟩ (0) ⟨by omega, by omega⟩ (999) ⟨by omega, by omega⟩) ⟨callB_of 3 hts (gw_ws cm_X10_in) rfl rfl rfl (hts _ (tw1 (i := 5) rfl)) (hts _ (tw11 (i := 3) rfl)) hd_X10_in.2 ⟨Nat.le_trans (by decide) hR1, Nat.le_trans (by decide) hR2⟩, hts _ (tw11 (i := 4) rfl)⟩ (tf_preS hk hW trivial) rfl rfl hl.1 rfl (lv_room (Nat.le_of_ble_eq_true rfl)) dX10_work_24 ⟨Nat.zero_le _, Nat.zero_le _⟩) hW (by decide) (fun z100 H100 locs100 hW hF100 hp100 => ?_)
      have hs101 := tf_keepF hF100 ha0 rfl rfl (by decide) hs94
      have hs102 := tf_keepC hF100 hb0 rfl (by decide) hs95
      rcases hp100 with ⟨rfl, h103, h104⟩ | ⟨rfl, h105⟩
      · refine tf_if_eq (tgt := 34) hx hb ⟨by decide, by decide⟩ dX10_work_27 (by decide) (fun h106 => ?_) (fun h106 => ?_)
        · exfalso; omega
        · refine tf_iconst hx hb dX10_work_30 ?_
          refine lv_goto (tgt := 35) hx hb dX10_work_31 (by decide) ?_
          exact j_35 ⟨by omega, by omega⟩ ⟨by omega, by omega⟩ ⟨by omega, by omega⟩ ⟨by omega, by omega⟩ (1) ⟨by omega, by omega⟩ (by omega) _ _ hW hs101 hs102 _ (lv_sub hl [0, 1, 2, 3, 4] rfl)
      · refine tf_if_eq (tgt := 34) hx hb ⟨by decide, by decide⟩ dX10_work_27 (by decide) (fun h107 => ?_) (fun h107 => ?_)
        · exact j_34 ⟨by omega, by omega⟩ ⟨by omega, by omega⟩ ⟨by omega, by omega⟩ ⟨by omega, by omega⟩ _ _ hW hs101 hs102 _ (lv_sub hl [0, 1, 2, 3, 4] rfl)
        · exfalso; omega
  · refine tf_if_eq (tgt := 34) hx hb ⟨by decide, by decide⟩ dX10_work_14 (by decide) (fun h108 => ?_) (fun h108 => ?_)
    · exact j_34 ⟨by omega, by omega⟩ ⟨by omega, by omega⟩ ⟨by omega, by omega⟩ ⟨by omega, by omega⟩ _ _ hW hs94 hs95 _ (lv_sub hl [0, 1, 2, 3, 4] rfl)
    · exfalso; omega

abbrev M_X10_out : List (Nat × Nat) := [(28, 0)]
set_option maxHeartbeats 4000000 in
set_option maxRecDepth 100000 in
theorem c_X10_out (l : Launch) (g : tf_G) (T : tf_T) (a0 : Nat) (ha0 : T a0 = some (50, 0)) (x1 : Int) (hp1 : 0 ≤ x1 ∧ x1 ≤ 7) (b0 : Nat) (hb0 : T b0 = some (28, 5830)) (r0 : Int → Int) (hq0 : x1 < r0 3) : Met l yX10_out (cd_X10_out :: wsL_law) ({ frames := 1, cells := 0, slots := 0, locals := 24 }) (tf_P g T [.ref a0, .int (Int32.ofInt x1)] (fun H => tf_s H a0 (g.1.2 10 3) = some (.ref b0) ∧ tf_rw H b0 = r0)) (tf_Qv g M_X10_out T (fun _ H => ((tf_rw H b0) 3 = r0 3 - 1))) 0 0 (fun q => tf_B g ≤ q) := by
  refine Met.ofW (cc := cX10_out) (maxL := 3) (ret := none) (by decide) rfl ?_
  intro p e s m args below meth c s₁ B hml hv
  obtain ⟨hargs, hk, hW0, hB, hpre⟩ := hv
  obtain ⟨he0, he1⟩ := hpre
  have hx := B.exec
  have hb := B.bytes
  have hr := B.returns
  have hts : ∀ w ∈ wsL_law, w.before args s = true := fun w h => atoms_spec (ws := cd_X10_out :: wsL_law) B.pre w (List.mem_cons_of_mem _ h)
  have hown : s.vm.findClass RX10 = some m.cls := findClass_of_methodNamed B.named
  have hlocks := B.notSynchronized
  have hK := hk.1
  have hW := tf_n.start (M := M_X10_out) hW0 hB
  obtain ⟨Q, hQ⟩ : ∃ q, q = MQ below (tf_Qv g M_X10_out T (fun _ H => ((tf_rw H b0) 3 = r0 3 - 1))) args s 0 0 (fun q => tf_B g ≤ q) := ⟨_, rfl⟩
  rw [← hQ]
  obtain ⟨R, hR⟩ : ∃ q, q = (headSpec (cd_X10_out :: wsL_law) ({ frames := 1, cells := 0, slots := 0, locals := 24 })).room := ⟨_, rfl⟩
  rw [← hR]
  have hR1 : 1 ≤ R.frames := by rw [hR]; exact Nat.le_refl _
  have hR2 : 24 ≤ R.locals := by rw [hR]; exact Nat.le_refl _
  have hR3 : 0 ≤ R.cells := by rw [hR]; exact Nat.le_refl _
  have hR4 : 0 ≤ R.slots := by rw [hR]; exact Nat.le_refl _
  have hin := (name_of_methodNamed B.named B.method).1
  clear hR B
  have hro0 : tf_RO r0 := he1 ▸ tf_ROof hW hb0
  have j_8 : ∀ (n_8 : Nat), ∀ (x2_8 : Int), 381 ≤ x2_8 ∧ x2_8 ≤ 409 → ∀ (rROW_8 : Int → Int), (∀ j, rROW_8 j = if 381 + 4 * x1 ≤ j ∧ j < x2_8 then r0 (j + 4) else r0 j) → (381 + 4 * x1 ≤ x2_8) → (409 - x2_8 + 1 ≤ (n_8 : Int)) → ∀ (H : Heap) (locs : List Loc), tf_n tf_ktw g M_X10_out T s.heap T H locs → tf_s H a0 (g.1.2 10 3) = some (.ref b0) → tf_rw H b0 = rROW_8 → tf_zz g T b0 H → ∀ (ls : Array Slot), lv_has ls 3 [(0, .ref a0), (2, .int (Int32.ofInt x2_8))] → W p l e R s m args below meth c H locs 0 0 Q (F0 m 8 ls []) := by
    intro n_8
    induction n_8 with
    | zero =>
      intro x2_8 hx2_8 rROW_8 hRROW_8 hi0_8 hm_8
      exfalso; omega
    | succ n_8 ih_8 =>
      intro x2_8 hx2_8 rROW_8 hRROW_8 hi0_8 hm_8 H locs hW hs3_8 hcROW_8 hZ ls hl
      refine lv_iload_n hx hb dX10_out_8 rfl (lv_at hl 1 rfl) ?_
      refine tf_sipush hx hb dX10_out_9 (by decide) ?_
      refine tf_icmp_ge (tgt := 35) hx hb ⟨by omega, by omega⟩ ⟨by decide, by decide⟩ dX10_out_12 (by decide) (fun h1 => ?_) (fun h1 => ?_)
      · refine lv_aload_n hx hb dX10_out_35 rfl (lv_at hl 0 rfl) ?_
        refine tf_get hx hb hts inlX10 hown hK (ci := 10) rfl hW ha0 rfl 3 rfl (by decide) (hts _ fl_X10_13) dX10_out_36 (fun v2 hv2 hsv2 => ?_)
        obtain rfl : v2 = .ref b0 := Option.some.inj (hsv2.symm.trans hs3_8)
        refine tf_iconst hx hb dX10_out_39 ?_
        refine lv_dup2_11 hx hb dX10_out_40 rfl rfl ?_
        refine tf_iald (t0 := 0) hx hb hK hW hb0 rfl rfl (by omega) (by omega) dX10_out_41 (fun v3 hv3 hsv3 => ?_)
        obtain ⟨z4, rfl, hz4⟩ := tf_v0 hv3
        have er5 : rROW_8 3 = z4 := hcROW_8 ▸ tf_rw_of (by omega) hsv3 ⟨by omega, by omega⟩
        have e3 := hRROW_8 3
        rw [if_neg (by omega)] at e3
        have hr3 := hro0.2.2.2.1
        refine tf_iconst hx hb dX10_out_42 ?_
        refine tf_isub hx hb dX10_out_43 ?_
        refine tf_rwst (t0 := 0) hx hb hK hW hb0 rfl rfl (by omega) (by omega) (by decide) (tf_u0 (by omega) (by omega)) ⟨by omega, by omega⟩ trivial dX10_out_44 (fun H6 locs6 hW hu6 hq6 => ?_)
        have hZ := tf_zz_st hZ hq6
        have hs7 := tf_keepQ hs3_8 (hq6 _ (tf_ne ha0 hb0 (by decide)))
        have hu6 := hu6.trans (congrArg (fun w => tf_up w (3) ((z4 - 1))) hcROW_8)
        have hRO : tf_RO (tf_up rROW_8 (3) ((z4 - 1))) := tf_RO_out2 (w := x1) hro0 (by omega) (by omega) (fun j => by have h := hRROW_8 j; rwa [show x2_8 = 409 by omega] at h) (by omega)
        have hW := tf_strongR hW hZ hb0 (by rw [hu6]; exact hRO)
        exact tf_retv hx hb hr hlocks hQ hW (by rw [hu6]; exact (by rw [tf_up_at]; omega)) dX10_out_45
      · refine lv_aload_n hx hb dX10_out_15 rfl (lv_at hl 0 rfl) ?_
        refine tf_get hx hb hts inlX10 hown hK (ci := 10) rfl hW ha0 rfl 3 rfl (by decide) (hts _ fl_X10_13) dX10_out_16 (fun v8 hv8 hsv8 => ?_)
        obtain rfl : v8 = .ref b0 := Option.some.inj (hsv8.symm.trans hs3_8)
        refine lv_iload_n hx hb dX10_out_19 rfl (lv_at hl 1 rfl) ?_
        refine lv_aload_n hx hb dX10_out_20 rfl (lv_at hl 0 rfl) ?_
        refine tf_get hx hb hts inlX10 hown hK (ci := 10) rfl hW ha0 rfl 3 rfl (by decide) (hts _ fl_X10_13) dX10_out_21 (fun v9 hv9 hsv9 => ?_)
        obtain rfl : v9 = .ref b0 := Option.some.inj (hsv9.symm.trans hs3_8)
        refine lv_iload_n hx hb dX10_out_24 rfl (lv_at hl 1 rfl) ?_
        refine tf_iconst hx hb dX10_out_25 ?_
        refine tf_iadd hx hb dX10_out_26 ?_
        refine tf_iald (t0 := 0) hx hb hK hW hb0 rfl rfl (by omega) (by omega) dX10_out_27 (fun v10 hv10 hsv10 => ?_)
        obtain ⟨z11, rfl, hz11⟩ := tf_v0 hv10
        have er12 : rROW_8 (x2_8 + 4) = z11 := hcROW_8 ▸ tf_rw_of (by omega) hsv10 ⟨by omega, by omega⟩
        refine tf_rwst (t0 := 0) hx hb hK hW hb0 rfl rfl (by omega) (by omega) (by decide) (tf_u0 (by omega) (by omega)) ⟨by omega, by omega⟩ trivial dX10_out_28 (fun H13 locs13 hW hu13 hq13 => ?_)
        have hZ := tf_zz_st hZ hq13
        have hs14 := tf_keepQ hs3_8 (hq13 _ (tf_ne ha0 hb0 (by decide)))
        have hu13 := hu13.trans (congrArg (fun w => tf_up w (x2_8) (z11)) hcROW_8)
        refine lv_iinc (v := Int32.ofInt ((x2_8 + 1))) (lv' := [(2, .int (Int32.ofInt ((x2_8 + 1)))), (0, .ref a0)]) hx hb dX10_out_29 hl (k := 1) rfl (Int32.ofInt_add _ _).symm (by decide) rfl (fun ls hl => ?_)
        refine lv_goto (tgt := 8) hx hb dX10_out_32 (by decide) ?_
        exact ih_8 ((x2_8 + 1)) ⟨by omega, by omega⟩ (tf_up rROW_8 (x2_8) (z11)) (by first | exact tf_ou_st hRROW_8 er12 (by omega) | exact fun j => by rw [if_neg (by omega)]) (by omega) (by omega) _ _ hW hs14 hu13 hZ _ (lv_sub hl [1, 0] rfl)
  refine tf_enter (As := [.ref a0, .int (Int32.ofInt x1)]) hargs (Nat.le_of_ble_eq_true rfl) (fun ls hl => ?_)
  have hl : lv_has ls 3 [(0, .ref a0), (1, .int (Int32.ofInt x1))] := hl
  have hZ := tf_zz_in hW b0
  have hW := tf_weak hW
  refine tf_sipush hx hb dX10_out_0 (by decide) ?_
  refine tf_iconst hx hb dX10_out_3 ?_
  refine lv_iload_n hx hb dX10_out_4 rfl (lv_at hl 1 rfl) ?_
  refine tf_imul hx hb dX10_out_5 ?_
  refine tf_iadd hx hb dX10_out_6 ?_
  refine lv_istore_n (lv' := [(2, .int (Int32.ofInt ((381 + (4 * x1))))), (0, .ref a0), (1, .int (Int32.ofInt x1))]) hx hb dX10_out_7 rfl hl (by decide) rfl (fun ls hl => ?_)
  exact j_8 ((409 - (381 + (4 * x1)) + 1 : Int)).toNat ((381 + (4 * x1))) ⟨by omega, by omega⟩ r0 (by first | exact tf_ou_st hRROW_8 er12 (by omega) | exact fun j => by rw [if_neg (by omega)]) (by omega) (by omega) _ _ hW he0 he1 hZ _ (lv_sub hl [1, 0] rfl)

abbrev M_X10_drop : List (Nat × Nat) := [(27, 0), (28, 0), (50, 0), (50, 1)]
set_option maxHeartbeats 4000000 in
set_option maxRecDepth 100000 in
theorem c_X10_drop (l : Launch) (g : tf_G) (T : tf_T) (a0 : Nat) (ha0 : T a0 = some (50, 0)) (x1 : Int) (hp1 : (-2147483648) ≤ x1 ∧ x1 ≤ 2147483647) : Met l yX10_drop (cd_X10_drop :: wsL_law) ({ frames := 2, cells := 0, slots := 0, locals := 49 }) (tf_P g T [.ref a0, .int (Int32.ofInt x1)] (fun H => True)) (tf_Qi g M_X10_drop T (fun z _ _ => (-2147483648) ≤ z ∧ z ≤ 2147483647)) 0 0 (fun q => tf_B g ≤ q) := by
  refine Met.ofW (cc := cX10_drop) (maxL := 2) (ret := (some .int)) (by decide) rfl ?_
  intro p e s m args below meth c s₁ B hml hv
  obtain ⟨hargs, hk, hW0, hB, hpre⟩ := hv
  have hx := B.exec
  have hb := B.bytes
  have hr := B.returns
  have hts : ∀ w ∈ wsL_law, w.before args s = true := fun w h => atoms_spec (ws := cd_X10_drop :: wsL_law) B.pre w (List.mem_cons_of_mem _ h)
  have hown : s.vm.findClass RX10 = some m.cls := findClass_of_methodNamed B.named
  have hlocks := B.notSynchronized
  have hK := hk.1
  have hW := tf_n.start (M := M_X10_drop) hW0 hB
  obtain ⟨Q, hQ⟩ : ∃ q, q = MQ below (tf_Qi g M_X10_drop T (fun z _ _ => (-2147483648) ≤ z ∧ z ≤ 2147483647)) args s 0 0 (fun q => tf_B g ≤ q) := ⟨_, rfl⟩
  rw [← hQ]
  obtain ⟨R, hR⟩ : ∃ q, q = (headSpec (cd_X10_drop :: wsL_law) ({ frames := 2, cells := 0, slots := 0, locals := 49 })).room := ⟨_, rfl⟩
  rw [← hR]
  have hR1 : 2 ≤ R.frames := by rw [hR]; exact Nat.le_refl _
  have hR2 : 49 ≤ R.locals := by rw [hR]; exact Nat.le_refl _
  have hR3 : 0 ≤ R.cells := by rw [hR]; exact Nat.le_refl _
  have hR4 : 0 ≤ R.slots := by rw [hR]; exact Nat.le_refl _
  have hin := (name_of_methodNamed B.named B.method).1
  clear hR B
  refine tf_enter (As := [.ref a0, .int (Int32.ofInt x1)]) hargs (Nat.le_of_ble_eq_true rfl) (fun ls hl => ?_)
  have hl : lv_has ls 2 [(0, .ref a0), (1, .int (Int32.ofInt x1))] := hl
  refine lv_aload_n hx hb dX10_drop_0 rfl (lv_at hl 0 rfl) ?_
  refine tf_iconst hx hb dX10_drop_1 ?_
  refine tf_put hx hb hts inlX10 tyX10 tyX10_ok nmX10 hown hK (ci := 10) rfl hW ha0 rfl rfl 0 rfl (by decide) (by decide) (hts _ fl_X10_103) rfl (tf_u0 (by omega) (by omega)) rfl rfl dX10_drop_2 (fun H1 locs1 hW hs1 ht1 hq1 => ?_)
  refine lv_iload_n hx hb dX10_drop_5 rfl (lv_at hl 1 rfl) ?_
  refine tf_i2l hx hb ⟨by omega, by omega⟩ dX10_drop_6 ?_
  refine tf_lconst (z := 0) hx hb dX10_drop_7 (by decide) ?_
  refine lv_aload_n hx hb dX10_drop_8 rfl (lv_at hl 0 rfl) ?_
  refine tf_get hx hb hts inlX10 hown hK (ci := 10) rfl hW ha0 rfl 3 rfl (by decide) (hts _ fl_X10_13) dX10_drop_9 (fun v2 hv2 hsv2 => ?_)
  obtain ⟨ad3, rfl, had3⟩ := tf_v1 hv2
  refine tf_iconst hx hb dX10_drop_12 ?_
  refine tf_iald (t0 := 0) hx hb hK hW had3 rfl rfl (by omega) (by omega) dX10_drop_13 (fun v4 hv4 hsv4 => ?_)
  obtain ⟨z5, rfl, hz5⟩ := tf_v0 hv4
  obtain ⟨r6, hr6⟩ := tf_rname hW ad3
  have hro6 : tf_RO r6 := hr6 ▸ tf_ROof hW had3
  have er7 : r6 3 = z5 := hr6 ▸ tf_rw_of (by omega) hsv4 ⟨by omega, by omega⟩
  have hg8 := tf_rd3 (tf_ROof hW had3) hsv4 ⟨by omega, by omega⟩ (by omega)
  refine tf_i2l hx hb ⟨by omega, by omega⟩ dX10_drop_14 ?_
  refine tf_lconst (z := 1) hx hb dX10_drop_15 (by decide) ?_
  refine tf_lsub hx hb dX10_drop_16 ?_
  refine tf_calli (va_runS (As := [.long (Int64.ofInt x1), .long (Int64.ofInt 0), .long (Int64.ofInt ((z5 - 1)))]) (rest := []) ⟨hx, hb, hml, hown, hts⟩ (c_X10_in l g T (x1) ⟨by omega, by omega⟩ (0) ⟨by omega, by omega⟩ ((z5 - 1)) ⟨by omega, by omega⟩) ⟨callB_of 3 hts (gw_ws cm_X10_in) rfl rfl rfl (hts _ (tw1 (i := 5) rfl)) (hts _ (tw11 (i := 3) rfl)) hd_X10_in.2 ⟨Nat.le_trans (by decide) hR1, Nat.le_trans (by decide) hR2⟩, hts _ (tw11 (i := 4) rfl)⟩ (tf_preS hk hW trivial) rfl rfl hl.1 rfl (lv_room (Nat.le_of_ble_eq_true rfl)) dX10_drop_17 ⟨Nat.zero_le _, Nat.zero_le _⟩) hW (by decide) (fun z9 H9 locs9 hW hF9 hp9 => ?_)
  have hs10 := tf_keepF hF9 ha0 rfl rfl (by decide) hsv2
  have hs11 := tf_keepC hF9 had3 rfl (by decide) hr6
  rcases hp9 with ⟨rfl, h12, h13⟩ | ⟨rfl, h14⟩
  · refine tf_if_ne (tgt := 30) hx hb ⟨by decide, by decide⟩ dX10_drop_20 (by decide) (fun h15 => ?_) (fun h15 => ?_)
    · refine lv_aload_n hx hb dX10_drop_30 rfl (lv_at hl 0 rfl) ?_
      refine lv_iload_n hx hb dX10_drop_31 rfl (lv_at hl 1 rfl) ?_
      refine tf_callv (va_runV (As := [.int (Int32.ofInt x1)]) (rest := []) ⟨hx, hb, hml, hown, hts⟩ (c_X10_out l g T a0 ha0 (x1) ⟨by omega, by omega⟩ ad3 had3 r6 (by omega)) (cwV 1 hts gv_X10_449 rfl rfl rfl hd_X10_out ⟨Nat.le_trans (by decide) hR1, Nat.le_trans (by decide) hR2⟩) (tf_preV hk hW ha0 (ci := 10) rfl rfl ⟨hs10, hs11⟩) rfl rfl hl.1 rfl (lv_room (Nat.le_of_ble_eq_true rfl)) dX10_drop_32 ⟨Nat.zero_le _, Nat.zero_le _⟩) hW (by decide) (fun H16 locs16 hW hF16 hp16 => ?_)
      have hs17 := tf_keepF hF16 ha0 rfl rfl (by decide) hs10
      have ho16_0 := hp16
      obtain ⟨r16_0, hr16_0⟩ := tf_rname hW ad3
      rw [hr16_0] at ho16_0
      refine lv_aload_n hx hb dX10_drop_35 rfl (lv_at hl 0 rfl) ?_
      refine lv_aload_n hx hb dX10_drop_36 rfl (lv_at hl 0 rfl) ?_
      refine tf_get hx hb hts inlX10 hown hK (ci := 10) rfl hW ha0 rfl 3 rfl (by decide) (hts _ fl_X10_13) dX10_drop_37 (fun v18 hv18 hsv18 => ?_)
      obtain rfl : v18 = .ref ad3 := Option.some.inj (hsv18.symm.trans hs17)
      refine tf_iconst hx hb dX10_drop_40 ?_
      refine tf_iald (t0 := 0) hx hb hK hW had3 rfl rfl (by omega) (by omega) dX10_drop_41 (fun v19 hv19 hsv19 => ?_)
      obtain ⟨z20, rfl, hz20⟩ := tf_v0 hv19
      have er21 : r16_0 3 = z20 := hr16_0 ▸ tf_rw_of (by omega) hsv19 ⟨by omega, by omega⟩
      have hg22 := tf_rd3 (tf_ROof hW had3) hsv19 ⟨by omega, by omega⟩ (by omega)
      refine tf_calli (va_runV (As := [.int (Int32.ofInt z20)]) (rest := []) ⟨hx, hb, hml, hown, hts⟩ (c_X10_tell l g T a0 ha0 (z20) ⟨by omega, by omega⟩) (cwV 1 hts gv_X10_117 rfl rfl rfl hd_X10_tell ⟨Nat.le_trans (by decide) hR1, Nat.le_trans (by decide) hR2⟩) (tf_preV hk hW ha0 (ci := 10) rfl rfl trivial) rfl rfl hl.1 rfl (lv_room (Nat.le_of_ble_eq_true rfl)) dX10_drop_42 ⟨Nat.zero_le _, Nat.zero_le _⟩) hW (by decide) (fun z23 H23 locs23 hW hF23 hp23 => ?_)
      have hs24 := tf_keepF hF23 ha0 rfl rfl (by decide) hs17
      have hs25 := tf_keepC hF23 had3 rfl (by decide) hr16_0
      obtain ⟨hp23_0, hp23_1, hp23_2⟩ := hp23
      exact tf_reti (z := z23) hx hb hr hlocks hQ hW (show (-2147483648) ≤ (z23) ∧ (z23) ≤ 2147483647 by omega) dX10_drop_45
    · exfalso; omega
  · refine tf_if_ne (tgt := 30) hx hb ⟨by decide, by decide⟩ dX10_drop_20 (by decide) (fun h26 => ?_) (fun h26 => ?_)
    · exfalso; omega
    · refine lv_aload_n hx hb dX10_drop_23 rfl (lv_at hl 0 rfl) ?_
      refine tf_bipush hx hb dX10_drop_24 (by decide) ?_
      refine tf_calli (va_runV (As := [.int (Int32.ofInt ((-2)))]) (rest := []) ⟨hx, hb, hml, hown, hts⟩ (c_X10_tell l g T a0 ha0 ((-2)) ⟨by omega, by omega⟩) (cwV 1 hts gv_X10_117 rfl rfl rfl hd_X10_tell ⟨Nat.le_trans (by decide) hR1, Nat.le_trans (by decide) hR2⟩) (tf_preV hk hW ha0 (ci := 10) rfl rfl trivial) rfl rfl hl.1 rfl (lv_room (Nat.le_of_ble_eq_true rfl)) dX10_drop_26 ⟨Nat.zero_le _, Nat.zero_le _⟩) hW (by decide) (fun z27 H27 locs27 hW hF27 hp27 => ?_)
      have hs28 := tf_keepF hF27 ha0 rfl rfl (by decide) hs10
      have hs29 := tf_keepC hF27 had3 rfl (by decide) hs11
      obtain ⟨hp27_0, hp27_1, hp27_2⟩ := hp27
      exact tf_reti (z := z27) hx hb hr hlocks hQ hW (show (-2147483648) ≤ (z27) ∧ (z27) ≤ 2147483647 by omega) dX10_drop_29

abbrev M_X10_doWorks : List (Nat × Nat) := [(40, 0), (41, 0), (42, 0), (43, 0), (44, 0)]
set_option maxHeartbeats 4000000 in
set_option maxRecDepth 100000 in
theorem c_X10_doWorks (l : Launch) (g : tf_G) (T : tf_T) (a0 : Nat) (ha0 : T a0 = some (50, 0)) (x1 : Int) (hp1 : (-2147483648) ≤ x1 ∧ x1 ≤ 2147483647) : Met l yX10_doWorks (cd_X10_doWorks :: wsL_law) ({ frames := 6, cells := 0, slots := 0, locals := 139 }) (tf_P g T [.ref a0, .int (Int32.ofInt x1)] (fun H => True)) (tf_Qi g M_X10_doWorks T (fun z _ _ => (-2147483648) ≤ z ∧ z ≤ 2147483647)) 0 0 (fun q => tf_B g ≤ q) := by
  refine Met.ofW (cc := cX10_doWorks) (maxL := 6) (ret := (some .int)) (by decide) rfl ?_
  intro p e s m args below meth c s₁ B hml hv
  obtain ⟨hargs, hk, hW0, hB, hpre⟩ := hv
  have hx := B.exec
  have hb := B.bytes
  have hr := B.returns
  have hts : ∀ w ∈ wsL_law, w.before args s = true := fun w h => atoms_spec (ws := cd_X10_doWorks :: wsL_law) B.pre w (List.mem_cons_of_mem _ h)
  have hown : s.vm.findClass RX10 = some m.cls := findClass_of_methodNamed B.named
  have hlocks := B.notSynchronized
  have hK := hk.1
  have hW := tf_n.start (M := M_X10_doWorks) hW0 hB
  obtain ⟨Q, hQ⟩ : ∃ q, q = MQ below (tf_Qi g M_X10_doWorks T (fun z _ _ => (-2147483648) ≤ z ∧ z ≤ 2147483647)) args s 0 0 (fun q => tf_B g ≤ q) := ⟨_, rfl⟩
  rw [← hQ]
  obtain ⟨R, hR⟩ : ∃ q, q = (headSpec (cd_X10_doWorks :: wsL_law) ({ frames := 6, cells := 0, slots := 0, locals := 139 })).room := ⟨_, rfl⟩
  rw [← hR]
  have hR1 : 6 ≤ R.frames := by rw [hR]; exact Nat.le_refl _
  have hR2 : 139 ≤ R.locals := by rw [hR]; exact Nat.le_refl _
  have hR3 : 0 ≤ R.cells := by rw [hR]; exact Nat.le_refl _
  have hR4 : 0 ≤ R.slots := by rw [hR]; exact Nat.le_refl _
  have hin := (name_of_methodNamed B.named B.method).1
  clear hR B
  obtain ⟨vb0, hfb0, hokb0⟩ := tf_peek hW ha0 (ci := 10) rfl 3 rfl
  obtain ⟨b0, rfl, hb0⟩ := tf_v1 hokb0
  obtain ⟨r0, hr0⟩ := tf_rname hW b0
  have hror0 : tf_RO r0 := hr0 ▸ tf_ROof hW hb0
  have j_8 : ∀ (n_8 : Nat), (-2147483648) ≤ x1 ∧ x1 ≤ 2147483647 → ∀ (x2_8 : Int), (-2147483648) ≤ x2_8 ∧ x2_8 ≤ 2147483647 → ∀ (x3_8 : Int), 0 ≤ x3_8 ∧ x3_8 ≤ 8 → (8 - x3_8 + 1 ≤ (n_8 : Int)) → ∀ (H : Heap) (locs : List Loc), tf_n tf_kt g M_X10_doWorks T s.heap T H locs → tf_s H a0 (g.1.2 10 3) = some (.ref b0) → tf_rw H b0 = r0 → ∀ (ls : Array Slot), lv_has ls 6 [(0, .ref a0), (1, .int (Int32.ofInt x1)), (2, .int (Int32.ofInt x2_8)), (3, .int (Int32.ofInt x3_8))] → W p l e R s m args below meth c H locs 0 0 Q (F0 m 8 ls []) := by
    intro n_8
    induction n_8 with
    | zero =>
      intro hx1_8 x2_8 hx2_8 x3_8 hx3_8 hm_8
      exfalso; omega
    | succ n_8 ih_8 =>
      intro hx1_8 x2_8 hx2_8 x3_8 hx3_8 hm_8 H locs hW hs3_8 hcROW_8 ls hl
      have j_204 : (-2147483648) ≤ x1 ∧ x1 ≤ 2147483647 → ∀ (x2_204 : Int), (-2147483648) ≤ x2_204 ∧ x2_204 ≤ 2147483647 → 0 ≤ x3_8 ∧ x3_8 ≤ 7 → ∀ (H : Heap) (locs : List Loc), tf_n tf_kt g M_X10_doWorks T s.heap T H locs → tf_s H a0 (g.1.2 10 3) = some (.ref b0) → tf_rw H b0 = r0 → ∀ (ls : Array Slot), lv_has ls 6 [(0, .ref a0), (1, .int (Int32.ofInt x1)), (2, .int (Int32.ofInt x2_204)), (3, .int (Int32.ofInt x3_8))] → W p l e R s m args below meth c H locs 0 0 Q (F0 m 204 ls []) := by
        intro hx1_204 x2_204 hx2_204 hx3_204 H locs hW hs3_204 hcROW_204 ls hl
        refine lv_iinc (v := Int32.ofInt ((x3_8 + 1))) (lv' := [(3, .int (Int32.ofInt ((x3_8 + 1)))), (0, .ref a0), (1, .int (Int32.ofInt x1)), (2, .int (Int32.ofInt x2_204))]) hx hb dX10_doWorks_204 hl (k := 3) rfl (Int32.ofInt_add _ _).symm (by decide) rfl (fun ls hl => ?_)
        refine lv_goto (tgt := 8) hx hb dX10_doWorks_207 (by decide) ?_
        exact ih_8 ⟨by omega, by omega⟩ (x2_204) ⟨by omega, by omega⟩ ((x3_8 + 1)) ⟨by omega, by omega⟩ (by omega) _ _ hW hs3_204 hcROW_204 _ (lv_sub hl [1, 2, 3, 0] rfl)
      have j_120 : (-2147483648) ≤ x1 ∧ x1 ≤ 2147483647 → ∀ (x2_120 : Int), (-2147483648) ≤ x2_120 ∧ x2_120 ≤ 2147483647 → 0 ≤ x3_8 ∧ x3_8 ≤ 7 → ∀ (b0_120 : Nat), T b0_120 = some (41, 100) → ∀ (y1_120 : Int), 0 ≤ y1_120 ∧ y1_120 ≤ 99 → ∀ (y2_120 : Int), (-2147483648) ≤ y2_120 ∧ y2_120 ≤ 2147483647 → ∀ (H : Heap) (locs : List Loc), tf_n tf_kt g M_X10_doWorks T s.heap T H locs → tf_s H a0 (g.1.2 10 3) = some (.ref b0) → tf_rw H b0 = r0 → ∀ (ls : Array Slot), lv_has ls 6 [(0, .ref a0), (1, .int (Int32.ofInt x1)), (2, .int (Int32.ofInt x2_120)), (3, .int (Int32.ofInt x3_8))] → W p l e R s m args below meth c H locs 0 0 Q (F0 m 120 ls [.int (Int32.ofInt y2_120), .int (Int32.ofInt y1_120), .ref b0_120]) := by
        intro hx1_120 x2_120 hx2_120 hx3_120 b0_120 hb0_120 y1_120 hy1_120 y2_120 hy2_120 H locs hW hs3_120 hcROW_120 ls hl
        refine tf_iast (t0 := 0) hx hb hK hW hb0_120 rfl rfl (by omega) (by omega) (by decide) (tf_u0 (by omega) (by omega)) dX10_doWorks_120 (fun H1 locs1 hW hs1 ht1 hq1 => ?_)
        have hs2 := tf_keepQ hs3_120 (hq1 _ (tf_ne ha0 hb0_120 (by decide)))
        have hs3 := tf_keepCQ hcROW_120 (hq1 _ (tf_ne hb0 hb0_120 (by decide)))
        refine lv_goto (tgt := 204) hx hb dX10_doWorks_121 (by decide) ?_
        exact j_204 ⟨by omega, by omega⟩ (x2_120) ⟨by omega, by omega⟩ ⟨by omega, by omega⟩ _ _ hW hs2 hs3 _ (lv_sub hl [0, 1, 2, 3] rfl)
      have j_154 : (-2147483648) ≤ x1 ∧ x1 ≤ 2147483647 → ∀ (x2_154 : Int), (-2147483648) ≤ x2_154 ∧ x2_154 ≤ 2147483647 → 0 ≤ x3_8 ∧ x3_8 ≤ 7 → ∀ (b0_154 : Nat), T b0_154 = some (42, 100) → ∀ (y1_154 : Int), 0 ≤ y1_154 ∧ y1_154 ≤ 99 → ∀ (y2_154 : Int), (-2147483648) ≤ y2_154 ∧ y2_154 ≤ 2147483647 → ∀ (H : Heap) (locs : List Loc), tf_n tf_kt g M_X10_doWorks T s.heap T H locs → tf_s H a0 (g.1.2 10 3) = some (.ref b0) → tf_rw H b0 = r0 → ∀ (ls : Array Slot), lv_has ls 6 [(0, .ref a0), (1, .int (Int32.ofInt x1)), (2, .int (Int32.ofInt x2_154)), (3, .int (Int32.ofInt x3_8))] → W p l e R s m args below meth c H locs 0 0 Q (F0 m 154 ls [.int (Int32.ofInt y2_154), .int (Int32.ofInt y1_154), .ref b0_154]) := by
        intro hx1_154 x2_154 hx2_154 hx3_154 b0_154 hb0_154 y1_154 hy1_154 y2_154 hy2_154 H locs hW hs3_154 hcROW_154 ls hl
        refine tf_iast (t0 := 0) hx hb hK hW hb0_154 rfl rfl (by omega) (by omega) (by decide) (tf_u0 (by omega) (by omega)) dX10_doWorks_154 (fun H4 locs4 hW hs4 ht4 hq4 => ?_)
        have hs5 := tf_keepQ hs3_154 (hq4 _ (tf_ne ha0 hb0_154 (by decide)))
        have hs6 := tf_keepCQ hcROW_154 (hq4 _ (tf_ne hb0 hb0_154 (by decide)))
        refine lv_goto (tgt := 204) hx hb dX10_doWorks_155 (by decide) ?_
        exact j_204 ⟨by omega, by omega⟩ (x2_154) ⟨by omega, by omega⟩ ⟨by omega, by omega⟩ _ _ hW hs5 hs6 _ (lv_sub hl [0, 1, 2, 3] rfl)
      have j_192 : (-2147483648) ≤ x1 ∧ x1 ≤ 2147483647 → ∀ (x2_192 : Int), (-2147483648) ≤ x2_192 ∧ x2_192 ≤ 2147483647 → 0 ≤ x3_8 ∧ x3_8 ≤ 7 → ∀ (b0_192 : Nat), T b0_192 = some (44, 7) → ∀ (y1_192 : Int), 0 ≤ y1_192 ∧ y1_192 ≤ 6 → ∀ (y2_192 : Int), (-2147483648) ≤ y2_192 ∧ y2_192 ≤ 2147483647 → ∀ (H : Heap) (locs : List Loc), tf_n tf_kt g M_X10_doWorks T s.heap T H locs → tf_s H a0 (g.1.2 10 3) = some (.ref b0) → tf_rw H b0 = r0 → ∀ (ls : Array Slot), lv_has ls 6 [(0, .ref a0), (1, .int (Int32.ofInt x1)), (2, .int (Int32.ofInt x2_192)), (3, .int (Int32.ofInt x3_8))] → W p l e R s m args below meth c H locs 0 0 Q (F0 m 192 ls [.int (Int32.ofInt y2_192), .int (Int32.ofInt y1_192), .ref b0_192]) := by
        intro hx1_192 x2_192 hx2_192 hx3_192 b0_192 hb0_192 y1_192 hy1_192 y2_192 hy2_192 H locs hW hs3_192 hcROW_192 ls hl
        refine tf_iast (t0 := 0) hx hb hK hW hb0_192 rfl rfl (by omega) (by omega) (by decide) (tf_u0 (by omega) (by omega)) dX10_doWorks_192 (fun H7 locs7 hW hs7 ht7 hq7 => ?_)
        have hs8 := tf_keepQ hs3_192 (hq7 _ (tf_ne ha0 hb0_192 (by decide)))
        have hs9 := tf_keepCQ hcROW_192 (hq7 _ (tf_ne hb0 hb0_192 (by decide)))
        refine lv_goto (tgt := 204) hx hb dX10_doWorks_193 (by decide) ?_
        exact j_204 ⟨by omega, by omega⟩ (x2_192) ⟨by omega, by omega⟩ ⟨by omega, by omega⟩ _ _ hW hs8 hs9 _ (lv_sub hl [0, 1, 2, 3] rfl)
      refine lv_iload_n hx hb dX10_doWorks_8 rfl (lv_at hl 3 rfl) ?_
      refine lv_aload_n hx hb dX10_doWorks_9 rfl (lv_at hl 0 rfl) ?_
      refine tf_get hx hb hts inlX10 hown hK (ci := 10) rfl hW ha0 rfl 3 rfl (by decide) (hts _ fl_X10_13) dX10_doWorks_10 (fun v10 hv10 hsv10 => ?_)
      obtain rfl : v10 = .ref b0 := Option.some.inj (hsv10.symm.trans hs3_8)
      refine tf_iconst hx hb dX10_doWorks_13 ?_
      refine tf_iald (t0 := 0) hx hb hK hW hb0 rfl rfl (by omega) (by omega) dX10_doWorks_14 (fun v11 hv11 hsv11 => ?_)
      obtain ⟨z12, rfl, hz12⟩ := tf_v0 hv11
      have er13 : r0 3 = z12 := hcROW_8 ▸ tf_rw_of (by omega) hsv11 ⟨by omega, by omega⟩
      have hg14 := tf_rd3 (tf_ROof hW hb0) hsv11 ⟨by omega, by omega⟩ (by omega)
      refine tf_icmp_ge (tgt := 210) hx hb ⟨by omega, by omega⟩ ⟨by omega, by omega⟩ dX10_doWorks_15 (by decide) (fun h15 => ?_) (fun h15 => ?_)
      · refine lv_iload_n hx hb dX10_doWorks_210 rfl (lv_at hl 2 rfl) ?_
        exact tf_reti (z := x2_8) hx hb hr hlocks hQ hW (show (-2147483648) ≤ (x2_8) ∧ (x2_8) ≤ 2147483647 by omega) dX10_doWorks_211
      · refine lv_iload_n hx hb dX10_doWorks_18 rfl (lv_at hl 1 rfl) ?_
        refine lv_iload_n hx hb dX10_doWorks_19 rfl (lv_at hl 3 rfl) ?_
        refine tf_calli (va_runS (As := [.int (Int32.ofInt x1), .int (Int32.ofInt x3_8)]) (rest := []) ⟨hx, hb, hml, hown, hts⟩ (c_X10_is l g T (x1) ⟨by omega, by omega⟩ (x3_8) ⟨by omega, by omega⟩) ⟨callB_of 2 hts (gw_ws cm_X10_is) rfl rfl rfl (hts _ (tw1 (i := 5) rfl)) (hts _ (tw35 (i := 16) rfl)) hd_X10_is.2 ⟨Nat.le_trans (by decide) hR1, Nat.le_trans (by decide) hR2⟩, hts _ (tw35 (i := 17) rfl)⟩ (tf_preS hk hW trivial) rfl rfl hl.1 rfl (lv_room (Nat.le_of_ble_eq_true rfl)) dX10_doWorks_20 ⟨Nat.zero_le _, Nat.zero_le _⟩) hW (by decide) (fun z16 H16 locs16 hW hF16 hp16 => ?_)
        have hs17 := tf_keepF hF16 ha0 rfl rfl (by decide) hs3_8
        have hs18 := tf_keepC hF16 hb0 rfl (by decide) hcROW_8
        rcases hp16 with ⟨rfl, h19⟩ | ⟨rfl⟩
        · refine tf_if_eq (tgt := 204) hx hb ⟨by decide, by decide⟩ dX10_doWorks_23 (by decide) (fun h20 => ?_) (fun h20 => ?_)
          · exfalso; omega
          · refine lv_aload_n hx hb dX10_doWorks_26 rfl (lv_at hl 0 rfl) ?_
            refine lv_iload_n hx hb dX10_doWorks_27 rfl (lv_at hl 3 rfl) ?_
            refine tf_iconst hx hb dX10_doWorks_28 ?_
            refine tf_calli (va_runV (As := [.int (Int32.ofInt x3_8), .int (Int32.ofInt 1)]) (rest := []) ⟨hx, hb, hml, hown, hts⟩ (c_X10_ofWork l g T a0 ha0 (x3_8) ⟨by omega, by omega⟩ (1) ⟨by omega, by omega⟩ b0 hb0 r0) (cwV 2 hts gv_X10_139 rfl rfl rfl hd_X10_ofWork ⟨Nat.le_trans (by decide) hR1, Nat.le_trans (by decide) hR2⟩) (tf_preV hk hW ha0 (ci := 10) rfl rfl ⟨hs17, hs18⟩) rfl rfl hl.1 rfl (lv_room (Nat.le_of_ble_eq_true rfl)) dX10_doWorks_29 ⟨Nat.zero_le _, Nat.zero_le _⟩) hW (by decide) (fun zwa Hwa locswa hW hFwa hpwa => ?_)
            have hs21 := tf_keepF hFwa ha0 rfl rfl (by decide) hs17
            have hs22 := tf_keepC hFwa hb0 rfl (by decide) hs18
            obtain ⟨hpwa_0, hpwa_1, hpwa_2⟩ := hpwa
            refine lv_istore (lv' := [(4, .int (Int32.ofInt zwa)), (0, .ref a0), (1, .int (Int32.ofInt x1)), (2, .int (Int32.ofInt x2_8)), (3, .int (Int32.ofInt x3_8))]) hx hb dX10_doWorks_32 hl (by decide) rfl (fun ls hl => ?_)
            refine lv_aload_n hx hb dX10_doWorks_34 rfl (lv_at hl 1 rfl) ?_
            refine lv_iload_n hx hb dX10_doWorks_35 rfl (lv_at hl 4 rfl) ?_
            refine tf_iconst hx hb dX10_doWorks_36 ?_
            refine tf_calli (va_runV (As := [.int (Int32.ofInt x3_8), .int (Int32.ofInt 2)]) (rest := []) ⟨hx, hb, hml, hown, hts⟩ (c_X10_ofWork l g T a0 ha0 (x3_8) ⟨by omega, by omega⟩ (2) ⟨by omega, by omega⟩ b0 hb0 r0) (cwV 2 hts gv_X10_139 rfl rfl rfl hd_X10_ofWork ⟨Nat.le_trans (by decide) hR1, Nat.le_trans (by decide) hR2⟩) (tf_preV hk hW ha0 (ci := 10) rfl rfl ⟨hs21, hs22⟩) rfl rfl hl.1 rfl (lv_room (Nat.le_of_ble_eq_true rfl)) dX10_doWorks_37 ⟨Nat.zero_le _, Nat.zero_le _⟩) hW (by decide) (fun zwb Hwb locswb hW hFwb hpwb => ?_)
            have hs23 := tf_keepF hFwb ha0 rfl rfl (by decide) hs21
            have hs24 := tf_keepC hFwb hb0 rfl (by decide) hs22
            obtain ⟨hpwb_0, hpwb_1, hpwb_2⟩ := hpwb
            refine lv_istore (lv' := [(5, .int (Int32.ofInt zwb)), (4, .int (Int32.ofInt zwa)), (0, .ref a0), (1, .int (Int32.ofInt x1)), (2, .int (Int32.ofInt x2_8)), (3, .int (Int32.ofInt x3_8))]) hx hb dX10_doWorks_40 hl (by decide) rfl (fun ls hl => ?_)
            refine lv_iload_n hx hb dX10_doWorks_42 rfl (lv_at hl 4 rfl) ?_
            refine lv_aload_n hx hb dX10_doWorks_43 rfl (lv_at hl 2 rfl) ?_
            refine lv_iload_n hx hb dX10_doWorks_44 rfl (lv_at hl 5 rfl) ?_
            refine tf_iconst hx hb dX10_doWorks_45 ?_
            refine tf_calli (va_runV (As := [.int (Int32.ofInt x3_8), .int (Int32.ofInt 3)]) (rest := [.int (Int32.ofInt x2_8)]) ⟨hx, hb, hml, hown, hts⟩ (c_X10_ofWork l g T a0 ha0 (x3_8) ⟨by omega, by omega⟩ (3) ⟨by omega, by omega⟩ b0 hb0 r0) (cwV 2 hts gv_X10_139 rfl rfl rfl hd_X10_ofWork ⟨Nat.le_trans (by decide) hR1, Nat.le_trans (by decide) hR2⟩) (tf_preV hk hW ha0 (ci := 10) rfl rfl ⟨hs23, hs24⟩) rfl rfl hl.1 rfl (lv_room (Nat.le_of_ble_eq_true rfl)) dX10_doWorks_46 ⟨Nat.zero_le _, Nat.zero_le _⟩) hW (by decide) (fun zwc Hwc locswc hW hFwc hpwc => ?_)
            have hs25 := tf_keepF hFwc ha0 rfl rfl (by decide) hs23
            have hs26 := tf_keepC hFwc hb0 rfl (by decide) hs24
            obtain ⟨hpwc_0, hpwc_1, hpwc_2⟩ := hpwc
            refine tf_iadd_any hx hb dX10_doWorks_49 (fun z27 hz27 => ?_)
            refine lv_istore_n (lv' := [(2, .int (Int32.ofInt z27)), (5, .int (Int32.ofInt zwb)), (4, .int (Int32.ofInt zwa)), (0, .ref a0), (1, .int (Int32.ofInt x1)), (3, .int (Int32.ofInt x3_8))]) hx hb dX10_doWorks_50 rfl hl (by decide) rfl (fun ls hl => ?_)
            refine lv_aload_n hx hb dX10_doWorks_51 rfl (lv_at hl 3 rfl) ?_
            refine lv_iload_n hx hb dX10_doWorks_52 rfl (lv_at hl 5 rfl) ?_
            refine tf_iconst hx hb dX10_doWorks_53 ?_
            refine tf_calli (va_runV (As := [.int (Int32.ofInt x3_8), .int (Int32.ofInt 0)]) (rest := []) ⟨hx, hb, hml, hown, hts⟩ (c_X10_ofWork l g T a0 ha0 (x3_8) ⟨by omega, by omega⟩ (0) ⟨by omega, by omega⟩ b0 hb0 r0) (cwV 2 hts gv_X10_139 rfl rfl rfl hd_X10_ofWork ⟨Nat.le_trans (by decide) hR1, Nat.le_trans (by decide) hR2⟩) (tf_preV hk hW ha0 (ci := 10) rfl rfl ⟨hs25, hs26⟩) rfl rfl hl.1 rfl (lv_room (Nat.le_of_ble_eq_true rfl)) dX10_doWorks_54 ⟨Nat.zero_le _, Nat.zero_le _⟩) hW (by decide) (fun zws Hws locsws hW hFws hpws => ?_)
            have hs28 := tf_keepF hFws ha0 rfl rfl (by decide) hs25
            have hs29 := tf_keepC hFws hb0 rfl (by decide) hs26
            obtain ⟨hpws_0, hpws_1, hpws_2⟩ := hpws
            have hw0 := hror0.2.2.2.2.2.2.2.2.1 x3_8 (by omega) (by omega)
            unfold tf_wk at hw0
            have hws := hpws_2
            rw [Int.add_zero] at hws
            rcases (show zws = 0 ∨ zws = 1 ∨ zws = 2 ∨ zws < 0 ∨ 2 < zws by omega) with h30 | h30 | h30 | h30 | h30
            · refine tf_tableIn (tgt := 84) hx hb dX10_doWorks_57 h30 (by decide) (by decide) (by decide) rfl (by decide) ?_
              refine lv_aload_n hx hb dX10_doWorks_84 rfl (lv_at hl 3 rfl) ?_
              refine tf_get hx hb hts inlX10 hown hK (ci := 10) rfl hW ha0 rfl 33 rfl (by decide) (hts _ fl_X10_76) dX10_doWorks_85 (fun v31 hv31 hsv31 => ?_)
              obtain ⟨ad32, rfl, had32⟩ := tf_v1 hv31
              refine lv_iload hx hb dX10_doWorks_88 (lv_at hl 2 rfl) ?_
              refine lv_aload_n hx hb dX10_doWorks_90 rfl (lv_at hl 3 rfl) ?_
              refine tf_get hx hb hts inlX10 hown hK (ci := 10) rfl hW ha0 rfl 33 rfl (by decide) (hts _ fl_X10_76) dX10_doWorks_91 (fun v33 hv33 hsv33 => ?_)
              obtain rfl : v33 = .ref ad32 := Option.some.inj (hsv33.symm.trans hsv31)
              refine lv_iload hx hb dX10_doWorks_94 (lv_at hl 2 rfl) ?_
              refine tf_iald (t0 := 0) hx hb hK hW had32 rfl rfl (by omega) (by omega) dX10_doWorks_96 (fun v34 hv34 hsv34 => ?_)
              obtain ⟨z35, rfl, hz35⟩ := tf_v0 hv34
              refine lv_iload hx hb dX10_doWorks_97 (lv_at hl 1 rfl) ?_
              refine tf_iadd_any hx hb dX10_doWorks_99 (fun z36 hz36 => ?_)
              refine tf_bipush hx hb dX10_doWorks_100 (by decide) ?_
              refine tf_icmp_le (tgt := 110) hx hb ⟨by omega, by omega⟩ ⟨by decide, by decide⟩ dX10_doWorks_102 (by decide) (fun h37 => ?_) (fun h37 => ?_)
              · refine lv_aload_n hx hb dX10_doWorks_110 rfl (lv_at hl 3 rfl) ?_
                refine tf_get hx hb hts inlX10 hown hK (ci := 10) rfl hW ha0 rfl 33 rfl (by decide) (hts _ fl_X10_76) dX10_doWorks_111 (fun v38 hv38 hsv38 => ?_)
                obtain rfl : v38 = .ref ad32 := Option.some.inj (hsv38.symm.trans hsv31)
                refine lv_iload hx hb dX10_doWorks_114 (lv_at hl 2 rfl) ?_
                refine tf_iald (t0 := 0) hx hb hK hW had32 rfl rfl (by omega) (by omega) dX10_doWorks_116 (fun v39 hv39 hsv39 => ?_)
                obtain ⟨z40, rfl, hz40⟩ := tf_v0 hv39
                refine lv_iload hx hb dX10_doWorks_117 (lv_at hl 1 rfl) ?_
                refine tf_iadd_any hx hb dX10_doWorks_119 (fun z41 hz41 => ?_)
                exact j_120 ⟨by omega, by omega⟩ (z27) ⟨by omega, by omega⟩ ⟨by omega, by omega⟩ ad32 had32 (zwa) ⟨by omega, by omega⟩ (z41) ⟨by omega, by omega⟩ _ _ hW hs28 hs29 _ (lv_sub hl [3, 4, 0, 5] rfl)
              · refine tf_bipush hx hb dX10_doWorks_105 (by decide) ?_
                refine lv_goto (tgt := 120) hx hb dX10_doWorks_107 (by decide) ?_
                exact j_120 ⟨by omega, by omega⟩ (z27) ⟨by omega, by omega⟩ ⟨by omega, by omega⟩ ad32 had32 (zwa) ⟨by omega, by omega⟩ (9) ⟨by omega, by omega⟩ _ _ hW hs28 hs29 _ (lv_sub hl [3, 4, 0, 5] rfl)
            · refine tf_tableIn (tgt := 124) hx hb dX10_doWorks_57 h30 (by decide) (by decide) (by decide) rfl (by decide) ?_
              refine lv_aload_n hx hb dX10_doWorks_124 rfl (lv_at hl 3 rfl) ?_
              refine tf_get hx hb hts inlX10 hown hK (ci := 10) rfl hW ha0 rfl 34 rfl (by decide) (hts _ fl_X10_79) dX10_doWorks_125 (fun v42 hv42 hsv42 => ?_)
              obtain ⟨ad43, rfl, had43⟩ := tf_v1 hv42
              refine lv_iload hx hb dX10_doWorks_128 (lv_at hl 2 rfl) ?_
              refine lv_iload hx hb dX10_doWorks_130 (lv_at hl 1 rfl) ?_
              refine lv_aload_n hx hb dX10_doWorks_132 rfl (lv_at hl 3 rfl) ?_
              refine tf_get hx hb hts inlX10 hown hK (ci := 10) rfl hW ha0 rfl 34 rfl (by decide) (hts _ fl_X10_79) dX10_doWorks_133 (fun v44 hv44 hsv44 => ?_)
              obtain rfl : v44 = .ref ad43 := Option.some.inj (hsv44.symm.trans hsv42)
              refine lv_iload hx hb dX10_doWorks_136 (lv_at hl 2 rfl) ?_
              refine tf_iald (t0 := 0) hx hb hK hW had43 rfl rfl (by omega) (by omega) dX10_doWorks_138 (fun v45 hv45 hsv45 => ?_)
              obtain ⟨z46, rfl, hz46⟩ := tf_v0 hv45
              refine tf_icmp_le (tgt := 147) hx hb ⟨by omega, by omega⟩ ⟨by omega, by omega⟩ dX10_doWorks_139 (by decide) (fun h47 => ?_) (fun h47 => ?_)
              · refine lv_aload_n hx hb dX10_doWorks_147 rfl (lv_at hl 3 rfl) ?_
                refine tf_get hx hb hts inlX10 hown hK (ci := 10) rfl hW ha0 rfl 34 rfl (by decide) (hts _ fl_X10_79) dX10_doWorks_148 (fun v48 hv48 hsv48 => ?_)
                obtain rfl : v48 = .ref ad43 := Option.some.inj (hsv48.symm.trans hsv42)
                refine lv_iload hx hb dX10_doWorks_151 (lv_at hl 2 rfl) ?_
                refine tf_iald (t0 := 0) hx hb hK hW had43 rfl rfl (by omega) (by omega) dX10_doWorks_153 (fun v49 hv49 hsv49 => ?_)
                obtain ⟨z50, rfl, hz50⟩ := tf_v0 hv49
                exact j_154 ⟨by omega, by omega⟩ (z27) ⟨by omega, by omega⟩ ⟨by omega, by omega⟩ ad43 had43 (zwa) ⟨by omega, by omega⟩ (z50) ⟨by omega, by omega⟩ _ _ hW hs28 hs29 _ (lv_sub hl [3, 4, 0, 5] rfl)
              · refine lv_iload hx hb dX10_doWorks_142 (lv_at hl 1 rfl) ?_
                refine lv_goto (tgt := 154) hx hb dX10_doWorks_144 (by decide) ?_
                exact j_154 ⟨by omega, by omega⟩ (z27) ⟨by omega, by omega⟩ ⟨by omega, by omega⟩ ad43 had43 (zwa) ⟨by omega, by omega⟩ (zwb) ⟨by omega, by omega⟩ _ _ hW hs28 hs29 _ (lv_sub hl [3, 4, 0, 5] rfl)
            · refine tf_tableIn (tgt := 158) hx hb dX10_doWorks_57 h30 (by decide) (by decide) (by decide) rfl (by decide) ?_
              refine lv_aload_n hx hb dX10_doWorks_158 rfl (lv_at hl 3 rfl) ?_
              refine tf_get hx hb hts inlX10 hown hK (ci := 10) rfl hW ha0 rfl 36 rfl (by decide) (hts _ fl_X10_85) dX10_doWorks_159 (fun v51 hv51 hsv51 => ?_)
              obtain ⟨ad52, rfl, had52⟩ := tf_v1 hv51
              refine lv_iload hx hb dX10_doWorks_162 (lv_at hl 2 rfl) ?_
              refine lv_aload_n hx hb dX10_doWorks_164 rfl (lv_at hl 3 rfl) ?_
              refine tf_get hx hb hts inlX10 hown hK (ci := 10) rfl hW ha0 rfl 36 rfl (by decide) (hts _ fl_X10_85) dX10_doWorks_165 (fun v53 hv53 hsv53 => ?_)
              obtain rfl : v53 = .ref ad52 := Option.some.inj (hsv53.symm.trans hsv51)
              refine lv_iload hx hb dX10_doWorks_168 (lv_at hl 2 rfl) ?_
              refine tf_iald (t0 := 0) hx hb hK hW had52 rfl rfl (by omega) (by omega) dX10_doWorks_170 (fun v54 hv54 hsv54 => ?_)
              obtain ⟨z55, rfl, hz55⟩ := tf_v0 hv54
              refine lv_iload hx hb dX10_doWorks_171 (lv_at hl 1 rfl) ?_
              refine tf_isub_any hx hb dX10_doWorks_173 (fun z56 hz56 => ?_)
              refine tf_iconst hx hb dX10_doWorks_174 ?_
              refine tf_icmp_ge (tgt := 182) hx hb ⟨by omega, by omega⟩ ⟨by decide, by decide⟩ dX10_doWorks_175 (by decide) (fun h57 => ?_) (fun h57 => ?_)
              · refine lv_aload_n hx hb dX10_doWorks_182 rfl (lv_at hl 3 rfl) ?_
                refine tf_get hx hb hts inlX10 hown hK (ci := 10) rfl hW ha0 rfl 36 rfl (by decide) (hts _ fl_X10_85) dX10_doWorks_183 (fun v58 hv58 hsv58 => ?_)
                obtain rfl : v58 = .ref ad52 := Option.some.inj (hsv58.symm.trans hsv51)
                refine lv_iload hx hb dX10_doWorks_186 (lv_at hl 2 rfl) ?_
                refine tf_iald (t0 := 0) hx hb hK hW had52 rfl rfl (by omega) (by omega) dX10_doWorks_188 (fun v59 hv59 hsv59 => ?_)
                obtain ⟨z60, rfl, hz60⟩ := tf_v0 hv59
                refine lv_iload hx hb dX10_doWorks_189 (lv_at hl 1 rfl) ?_
                refine tf_isub_any hx hb dX10_doWorks_191 (fun z61 hz61 => ?_)
                exact j_192 ⟨by omega, by omega⟩ (z27) ⟨by omega, by omega⟩ ⟨by omega, by omega⟩ ad52 had52 (zwa) ⟨by omega, by omega⟩ (z61) ⟨by omega, by omega⟩ _ _ hW hs28 hs29 _ (lv_sub hl [3, 4, 0, 5] rfl)
              · refine tf_iconst hx hb dX10_doWorks_178 ?_
                refine lv_goto (tgt := 192) hx hb dX10_doWorks_179 (by decide) ?_
                exact j_192 ⟨by omega, by omega⟩ (z27) ⟨by omega, by omega⟩ ⟨by omega, by omega⟩ ad52 had52 (zwa) ⟨by omega, by omega⟩ (1) ⟨by omega, by omega⟩ _ _ hW hs28 hs29 _ (lv_sub hl [3, 4, 0, 5] rfl)
            · refine tf_tableOut (tgt := 196) hx hb dX10_doWorks_57 ⟨by omega, by omega⟩ (by omega) (by decide) ?_
              refine lv_aload_n hx hb dX10_doWorks_196 rfl (lv_at hl 3 rfl) ?_
              refine lv_iload hx hb dX10_doWorks_197 (lv_at hl 2 rfl) ?_
              refine lv_iload hx hb dX10_doWorks_199 (lv_at hl 1 rfl) ?_
              refine tf_callv (va_runV (As := [.int (Int32.ofInt zwa), .int (Int32.ofInt zwb)]) (rest := []) ⟨hx, hb, hml, hown, hts⟩ (c_X10_moveUse l g T a0 ha0 (zwa) ⟨by omega, by omega⟩ (zwb) ⟨by omega, by omega⟩) (cwV 2 hts gv_X10_452 rfl rfl rfl hd_X10_moveUse ⟨Nat.le_trans (by decide) hR1, Nat.le_trans (by decide) hR2⟩) (tf_preV hk hW ha0 (ci := 10) rfl rfl trivial) rfl rfl hl.1 rfl (lv_room (Nat.le_of_ble_eq_true rfl)) dX10_doWorks_201 ⟨Nat.zero_le _, Nat.zero_le _⟩) hW (by decide) (fun H62 locs62 hW hF62 hp62 => ?_)
              have hs63 := tf_keepF hF62 ha0 rfl rfl (by decide) hs28
              have hs64 := tf_keepC hF62 hb0 rfl (by decide) hs29
              exact j_204 ⟨by omega, by omega⟩ (z27) ⟨by omega, by omega⟩ ⟨by omega, by omega⟩ _ _ hW hs63 hs64 _ (lv_sub hl [3, 4, 0, 5] rfl)
            · refine tf_tableOut (tgt := 196) hx hb dX10_doWorks_57 ⟨by omega, by omega⟩ (by omega) (by decide) ?_
              refine lv_aload_n hx hb dX10_doWorks_196 rfl (lv_at hl 3 rfl) ?_
              refine lv_iload hx hb dX10_doWorks_197 (lv_at hl 2 rfl) ?_
              refine lv_iload hx hb dX10_doWorks_199 (lv_at hl 1 rfl) ?_
              refine tf_callv (va_runV (As := [.int (Int32.ofInt zwa), .int (Int32.ofInt zwb)]) (rest := []) ⟨hx, hb, hml, hown, hts⟩ (c_X10_moveUse l g T a0 ha0 (zwa) ⟨by omega, by omega⟩ (zwb) ⟨by omega, by omega⟩) (cwV 2 hts gv_X10_452 rfl rfl rfl hd_X10_moveUse ⟨Nat.le_trans (by decide) hR1, Nat.le_trans (by decide) hR2⟩) (tf_preV hk hW ha0 (ci := 10) rfl rfl trivial) rfl rfl hl.1 rfl (lv_room (Nat.le_of_ble_eq_true rfl)) dX10_doWorks_201 ⟨Nat.zero_le _, Nat.zero_le _⟩) hW (by decide) (fun H65 locs65 hW hF65 hp65 => ?_)
              have hs66 := tf_keepF hF65 ha0 rfl rfl (by decide) hs28
              have hs67 := tf_keepC hF65 hb0 rfl (by decide) hs29
              exact j_204 ⟨by omega, by omega⟩ (z27) ⟨by omega, by omega⟩ ⟨by omega, by omega⟩ _ _ hW hs66 hs67 _ (lv_sub hl [3, 4, 0, 5] rfl)
        · refine tf_if_eq (tgt := 204) hx hb ⟨by decide, by decide⟩ dX10_doWorks_23 (by decide) (fun h68 => ?_) (fun h68 => ?_)
          · exact j_204 ⟨by omega, by omega⟩ (x2_8) ⟨by omega, by omega⟩ ⟨by omega, by omega⟩ _ _ hW hs17 hs18 _ (lv_sub hl [0, 1, 2, 3] rfl)
          · exfalso; omega
  refine tf_enter (As := [.ref a0, .int (Int32.ofInt x1)]) hargs (Nat.le_of_ble_eq_true rfl) (fun ls hl => ?_)
  have hl : lv_has ls 6 [(0, .ref a0), (1, .int (Int32.ofInt x1))] := hl
  refine lv_aload_n hx hb dX10_doWorks_0 rfl (lv_at hl 0 rfl) ?_
  refine tf_callv (va_runV (As := []) (rest := []) ⟨hx, hb, hml, hown, hts⟩ (c_X10_layAll l g T a0 ha0) (cwV 0 hts gv_X10_405 rfl rfl rfl hd_X10_layAll ⟨Nat.le_trans (by decide) hR1, Nat.le_trans (by decide) hR2⟩) (tf_preV hk hW ha0 (ci := 10) rfl rfl trivial) rfl rfl hl.1 rfl (lv_room (Nat.le_of_ble_eq_true rfl)) dX10_doWorks_1 ⟨Nat.zero_le _, Nat.zero_le _⟩) hW (by decide) (fun H69 locs69 hW hF69 hp69 => ?_)
  have hs70 := tf_keepF hF69 ha0 rfl rfl (by decide) hfb0
  have hs71 := tf_keepC hF69 hb0 rfl (by decide) hr0
  refine tf_iconst hx hb dX10_doWorks_4 ?_
  refine lv_istore_n (lv' := [(2, .int (Int32.ofInt 0)), (0, .ref a0), (1, .int (Int32.ofInt x1))]) hx hb dX10_doWorks_5 rfl hl (by decide) rfl (fun ls hl => ?_)
  refine tf_iconst hx hb dX10_doWorks_6 ?_
  refine lv_istore_n (lv' := [(3, .int (Int32.ofInt 0)), (2, .int (Int32.ofInt 0)), (0, .ref a0), (1, .int (Int32.ofInt x1))]) hx hb dX10_doWorks_7 rfl hl (by decide) rfl (fun ls hl => ?_)
  exact j_8 ((8 - 0 + 1 : Int)).toNat ⟨by omega, by omega⟩ (0) ⟨by omega, by omega⟩ (0) ⟨by omega, by omega⟩ (by omega) _ _ hW hs70 hs71 _ (lv_sub hl [2, 3, 1, 0] rfl)

abbrev M_X10_done : List (Nat × Nat) := [(38, 0), (39, 0), (40, 0), (41, 0), (42, 0), (43, 0), (44, 0), (48, 0), (50, 0), (50, 26), (50, 29), (50, 30), (50, 31), (50, 37), (50, 38), (50, 39), (50, 40), (50, 41), (50, 42)]
set_option maxHeartbeats 4000000 in
set_option maxRecDepth 100000 in
theorem c_X10_done (l : Launch) (g : tf_G) (T : tf_T) (a0 : Nat) (ha0 : T a0 = some (50, 0)) (x1 : Int) (hp1 : (-2147483648) ≤ x1 ∧ x1 ≤ 2147483647) (x2 : Int) (hp2 : (-2147483648) ≤ x2 ∧ x2 ≤ 2147483647) : Met l yX10_done (cd_X10_done :: wsL_law) ({ frames := 9, cells := 0, slots := 0, locals := 224 }) (tf_P g T [.ref a0, .int (Int32.ofInt x1), .int (Int32.ofInt x2)] (fun H => True)) (tf_Qi g M_X10_done T (fun z _ _ => (-2147483648) ≤ z ∧ z ≤ 2147483647)) 0 0 (fun q => tf_B g ≤ q) := by
  refine Met.ofW (cc := cX10_done) (maxL := 7) (ret := (some .int)) (by decide) rfl ?_
  intro p e s m args below meth c s₁ B hml hv
  obtain ⟨hargs, hk, hW0, hB, hpre⟩ := hv
  have hx := B.exec
  have hb := B.bytes
  have hr := B.returns
  have hts : ∀ w ∈ wsL_law, w.before args s = true := fun w h => atoms_spec (ws := cd_X10_done :: wsL_law) B.pre w (List.mem_cons_of_mem _ h)
  have hown : s.vm.findClass RX10 = some m.cls := findClass_of_methodNamed B.named
  have hlocks := B.notSynchronized
  have hK := hk.1
  have hW := tf_n.start (M := M_X10_done) hW0 hB
  obtain ⟨Q, hQ⟩ : ∃ q, q = MQ below (tf_Qi g M_X10_done T (fun z _ _ => (-2147483648) ≤ z ∧ z ≤ 2147483647)) args s 0 0 (fun q => tf_B g ≤ q) := ⟨_, rfl⟩
  rw [← hQ]
  obtain ⟨R, hR⟩ : ∃ q, q = (headSpec (cd_X10_done :: wsL_law) ({ frames := 9, cells := 0, slots := 0, locals := 224 })).room := ⟨_, rfl⟩
  rw [← hR]
  have hR1 : 9 ≤ R.frames := by rw [hR]; exact Nat.le_refl _
  have hR2 : 224 ≤ R.locals := by rw [hR]; exact Nat.le_refl _
  have hR3 : 0 ≤ R.cells := by rw [hR]; exact Nat.le_refl _
  have hR4 : 0 ≤ R.slots := by rw [hR]; exact Nat.le_refl _
  have hin := (name_of_methodNamed B.named B.method).1
  clear hR B
  have j_58 : 0 ≤ x2 ∧ x2 ≤ 3 → ∀ (x3_58 : Int), (-2147483648) ≤ x3_58 ∧ x3_58 ≤ 2147483647 → ∀ (H : Heap) (locs : List Loc), tf_n tf_kt g M_X10_done T s.heap T H locs → ∀ (ls : Array Slot), lv_has ls 7 [(0, .ref a0), (2, .int (Int32.ofInt x2)), (3, .int (Int32.ofInt x3_58))] → W p l e R s m args below meth c H locs 0 0 Q (F0 m 58 ls []) := by
    intro hx2_58 x3_58 hx3_58 H locs hW  ls hl
    refine lv_iload_n hx hb dX10_done_58 rfl (lv_at hl 1 rfl) ?_
    refine tf_if_ne (tgt := 69) hx hb ⟨by omega, by omega⟩ dX10_done_59 (by decide) (fun h1 => ?_) (fun h1 => ?_)
    · refine lv_iload_n hx hb dX10_done_69 rfl (lv_at hl 2 rfl) ?_
      exact tf_reti (z := x3_58) hx hb hr hlocks hQ hW (show (-2147483648) ≤ (x3_58) ∧ (x3_58) ≤ 2147483647 by omega) dX10_done_70
    · refine lv_aload_n hx hb dX10_done_62 rfl (lv_at hl 0 rfl) ?_
      refine tf_calli (va_runV (As := []) (rest := []) ⟨hx, hb, hml, hown, hts⟩ (c_X10_overAll l g T a0 ha0) (cwV 0 hts gv_X10_422 rfl rfl rfl hd_X10_overAll ⟨Nat.le_trans (by decide) hR1, Nat.le_trans (by decide) hR2⟩) (tf_preV hk hW ha0 (ci := 10) rfl rfl trivial) rfl rfl hl.1 rfl (lv_room (Nat.le_of_ble_eq_true rfl)) dX10_done_63 ⟨Nat.zero_le _, Nat.zero_le _⟩) hW (by decide) (fun z2 H2 locs2 hW hF2 hp2 => ?_)
      obtain ⟨hp2_0, hp2_1⟩ := hp2
      refine lv_goto (tgt := 70) hx hb dX10_done_66 (by decide) ?_
      exact tf_reti (z := z2) hx hb hr hlocks hQ hW (show (-2147483648) ≤ (z2) ∧ (z2) ≤ 2147483647 by omega) dX10_done_70
  have j_81 : ∀ (n_81 : Nat), 1 ≤ x2 ∧ x2 ≤ 2 → ∀ (x4_81 : Int), (-2147483648) ≤ x4_81 ∧ x4_81 ≤ 2147483647 → ∀ (x5_81 : Int), (-1) ≤ x5_81 ∧ x5_81 ≤ 99 → ∀ (x6_81 : Int), (-1) ≤ x6_81 ∧ x6_81 ≤ 99 → (x6_81 + 2 ≤ (n_81 : Int)) → ∀ (H : Heap) (locs : List Loc), tf_n tf_kt g M_X10_done T s.heap T H locs → ∀ (ls : Array Slot), lv_has ls 7 [(0, .ref a0), (2, .int (Int32.ofInt x2)), (4, .int (Int32.ofInt x4_81)), (5, .int (Int32.ofInt x5_81)), (6, .int (Int32.ofInt x6_81))] → W p l e R s m args below meth c H locs 0 0 Q (F0 m 81 ls []) := by
    intro n_81
    induction n_81 with
    | zero =>
      intro hx2_81 x4_81 hx4_81 x5_81 hx5_81 x6_81 hx6_81 hm_81
      exfalso; omega
    | succ n_81 ih_81 =>
      intro hx2_81 x4_81 hx4_81 x5_81 hx5_81 x6_81 hx6_81 hm_81 H locs hW  ls hl
      have j_154 : 1 ≤ x2 ∧ x2 ≤ 2 → ∀ (x4_154 : Int), (-2147483648) ≤ x4_154 ∧ x4_154 ≤ 2147483647 → ∀ (x5_154 : Int), (-1) ≤ x5_154 ∧ x5_154 ≤ 99 → 0 ≤ x6_81 ∧ x6_81 ≤ 99 → ∀ (H : Heap) (locs : List Loc), tf_n tf_kt g M_X10_done T s.heap T H locs → ∀ (ls : Array Slot), lv_has ls 7 [(0, .ref a0), (2, .int (Int32.ofInt x2)), (4, .int (Int32.ofInt x4_154)), (5, .int (Int32.ofInt x5_154)), (6, .int (Int32.ofInt x6_81))] → W p l e R s m args below meth c H locs 0 0 Q (F0 m 154 ls []) := by
        intro hx2_154 x4_154 hx4_154 x5_154 hx5_154 hx6_154 H locs hW  ls hl
        refine lv_iinc (v := Int32.ofInt ((x6_81 + (-1)))) (lv' := [(6, .int (Int32.ofInt ((x6_81 + (-1))))), (0, .ref a0), (2, .int (Int32.ofInt x2)), (4, .int (Int32.ofInt x4_154)), (5, .int (Int32.ofInt x5_154))]) hx hb dX10_done_154 hl (k := 4) rfl (Int32.ofInt_add _ _).symm (by decide) rfl (fun ls hl => ?_)
        refine lv_goto (tgt := 81) hx hb dX10_done_157 (by decide) ?_
        exact ih_81 ⟨by omega, by omega⟩ (x4_154) ⟨by omega, by omega⟩ (x5_154) ⟨by omega, by omega⟩ ((x6_81 + (-1))) ⟨by omega, by omega⟩ (by omega) _ _ hW  _ (lv_sub hl [1, 2, 3, 4, 0] rfl)
      refine lv_iload hx hb dX10_done_81 (lv_at hl 4 rfl) ?_
      refine tf_if_lt (tgt := 160) hx hb ⟨by omega, by omega⟩ dX10_done_83 (by decide) (fun h3 => ?_) (fun h3 => ?_)
      · refine lv_iload_n hx hb dX10_done_160 rfl (lv_at hl 1 rfl) ?_
        refine tf_iconst hx hb dX10_done_161 ?_
        refine tf_icmp_ne (tgt := 170) hx hb ⟨by omega, by omega⟩ ⟨by decide, by decide⟩ dX10_done_162 (by decide) (fun h4 => ?_) (fun h4 => ?_)
        · refine lv_iload hx hb dX10_done_170 (lv_at hl 3 rfl) ?_
          exact tf_reti (z := x5_81) hx hb hr hlocks hQ hW (show (-2147483648) ≤ (x5_81) ∧ (x5_81) ≤ 2147483647 by omega) dX10_done_172
        · refine lv_iload hx hb dX10_done_165 (lv_at hl 2 rfl) ?_
          refine lv_goto (tgt := 172) hx hb dX10_done_167 (by decide) ?_
          exact tf_reti (z := x4_81) hx hb hr hlocks hQ hW (show (-2147483648) ≤ (x4_81) ∧ (x4_81) ≤ 2147483647 by omega) dX10_done_172
      · refine lv_aload_n hx hb dX10_done_86 rfl (lv_at hl 0 rfl) ?_
        refine tf_get hx hb hts inlX10 hown hK (ci := 10) rfl hW ha0 rfl 32 rfl (by decide) (hts _ fl_X10_73) dX10_done_87 (fun v5 hv5 hsv5 => ?_)
        obtain ⟨ad6, rfl, had6⟩ := tf_v1 hv5
        refine lv_iload hx hb dX10_done_90 (lv_at hl 4 rfl) ?_
        refine tf_iald (t0 := 0) hx hb hK hW had6 rfl rfl (by omega) (by omega) dX10_done_92 (fun v7 hv7 hsv7 => ?_)
        obtain ⟨z8, rfl, hz8⟩ := tf_v0 hv7
        refine tf_iconst hx hb dX10_done_93 ?_
        refine tf_icmp_ne (tgt := 154) hx hb ⟨by omega, by omega⟩ ⟨by decide, by decide⟩ dX10_done_94 (by decide) (fun h9 => ?_) (fun h9 => ?_)
        · exact j_154 ⟨by omega, by omega⟩ (x4_81) ⟨by omega, by omega⟩ (x5_81) ⟨by omega, by omega⟩ ⟨by omega, by omega⟩ _ _ hW  _ (lv_sub hl [0, 1, 2, 3, 4] rfl)
        · refine lv_aload_n hx hb dX10_done_97 rfl (lv_at hl 0 rfl) ?_
          refine tf_get hx hb hts inlX10 hown hK (ci := 10) rfl hW ha0 rfl 35 rfl (by decide) (hts _ fl_X10_82) dX10_done_98 (fun v10 hv10 hsv10 => ?_)
          obtain ⟨ad11, rfl, had11⟩ := tf_v1 hv10
          refine lv_iload hx hb dX10_done_101 (lv_at hl 4 rfl) ?_
          refine tf_iald (t0 := 0) hx hb hK hW had11 rfl rfl (by omega) (by omega) dX10_done_103 (fun v12 hv12 hsv12 => ?_)
          obtain ⟨z13, rfl, hz13⟩ := tf_v0 hv12
          obtain ⟨r14, hr14⟩ := tf_rname hW ad11
          have er15 : r14 x6_81 = z13 := hr14 ▸ tf_rw_of (by omega) hsv12 ⟨by omega, by omega⟩
          refine tf_if_le (tgt := 154) hx hb ⟨by omega, by omega⟩ dX10_done_104 (by decide) (fun h16 => ?_) (fun h16 => ?_)
          · exact j_154 ⟨by omega, by omega⟩ (x4_81) ⟨by omega, by omega⟩ (x5_81) ⟨by omega, by omega⟩ ⟨by omega, by omega⟩ _ _ hW  _ (lv_sub hl [0, 1, 2, 3, 4] rfl)
          · refine lv_aload_n hx hb dX10_done_107 rfl (lv_at hl 0 rfl) ?_
            refine lv_iload hx hb dX10_done_108 (lv_at hl 4 rfl) ?_
            refine lv_aload_n hx hb dX10_done_110 rfl (lv_at hl 0 rfl) ?_
            refine lv_aload_n hx hb dX10_done_111 rfl (lv_at hl 0 rfl) ?_
            refine tf_get hx hb hts inlX10 hown hK (ci := 10) rfl hW ha0 rfl 35 rfl (by decide) (hts _ fl_X10_82) dX10_done_112 (fun v17 hv17 hsv17 => ?_)
            obtain rfl : v17 = .ref ad11 := Option.some.inj (hsv17.symm.trans hsv10)
            refine lv_iload hx hb dX10_done_115 (lv_at hl 4 rfl) ?_
            refine tf_iald (t0 := 0) hx hb hK hW had11 rfl rfl (by omega) (by omega) dX10_done_117 (fun v18 hv18 hsv18 => ?_)
            obtain ⟨z19, rfl, hz19⟩ := tf_v0 hv18
            have er20 : r14 x6_81 = z19 := hr14 ▸ tf_rw_of (by omega) hsv18 ⟨by omega, by omega⟩
            refine tf_calli (va_runV (As := [.int (Int32.ofInt z19)]) (rest := [.int (Int32.ofInt x6_81), .ref a0]) ⟨hx, hb, hml, hown, hts⟩ (c_X10_paceOf l g T a0 ha0 (z19) ⟨by omega, by omega⟩) (cwV 1 hts gv_X10_413 rfl rfl rfl hd_X10_paceOf ⟨Nat.le_trans (by decide) hR1, Nat.le_trans (by decide) hR2⟩) (tf_preV hk hW ha0 (ci := 10) rfl rfl trivial) rfl rfl hl.1 rfl (lv_room (Nat.le_of_ble_eq_true rfl)) dX10_done_118 ⟨Nat.zero_le _, Nat.zero_le _⟩) hW (by decide) (fun z21 H21 locs21 hW hF21 hp21 => ?_)
            have hs22 := tf_keepF hF21 ha0 rfl rfl (by decide) hsv10
            have hs23 := tf_keepC hF21 had11 rfl (by decide) hr14
            obtain ⟨hp21_0, hp21_1⟩ := hp21
            refine tf_calli (va_runV (As := [.int (Int32.ofInt x6_81), .int (Int32.ofInt z21)]) (rest := []) ⟨hx, hb, hml, hown, hts⟩ (c_X10_hoursAbove l g T a0 ha0 (x6_81) ⟨by omega, by omega⟩ (z21) ⟨by omega, by omega⟩) (cwV 2 hts gv_X10_416 rfl rfl rfl hd_X10_hoursAbove ⟨Nat.le_trans (by decide) hR1, Nat.le_trans (by decide) hR2⟩) (tf_preV hk hW ha0 (ci := 10) rfl rfl trivial) rfl rfl hl.1 rfl (lv_room (Nat.le_of_ble_eq_true rfl)) dX10_done_121 ⟨Nat.zero_le _, Nat.zero_le _⟩) hW (by decide) (fun z24 H24 locs24 hW hF24 hp24 => ?_)
            have hs25 := tf_keepF hF24 ha0 rfl rfl (by decide) hs22
            have hs26 := tf_keepC hF24 had11 rfl (by decide) hs23
            obtain ⟨hp24_0, hp24_1⟩ := hp24
            refine lv_aload_n hx hb dX10_done_124 rfl (lv_at hl 0 rfl) ?_
            refine tf_get hx hb hts inlX10 hown hK (ci := 10) rfl hW ha0 rfl 46 rfl (by decide) (hts _ fl_X10_97) dX10_done_125 (fun v27 hv27 hsv27 => ?_)
            obtain ⟨ad28, rfl, had28⟩ := tf_v1 hv27
            refine tf_bipush hx hb dX10_done_128 (by decide) ?_
            refine lv_aload_n hx hb dX10_done_130 rfl (lv_at hl 0 rfl) ?_
            refine tf_get hx hb hts inlX10 hown hK (ci := 10) rfl hW ha0 rfl 35 rfl (by decide) (hts _ fl_X10_82) dX10_done_131 (fun v29 hv29 hsv29 => ?_)
            obtain rfl : v29 = .ref ad11 := Option.some.inj (hsv29.symm.trans hs25)
            refine lv_iload hx hb dX10_done_134 (lv_at hl 4 rfl) ?_
            refine tf_iald (t0 := 0) hx hb hK hW had11 rfl rfl (by omega) (by omega) dX10_done_136 (fun v30 hv30 hsv30 => ?_)
            obtain ⟨z31, rfl, hz31⟩ := tf_v0 hv30
            have er32 : r14 x6_81 = z31 := hs26 ▸ tf_rw_of (by omega) hsv30 ⟨by omega, by omega⟩
            refine tf_iconst hx hb dX10_done_137 ?_
            refine tf_isub hx hb dX10_done_138 ?_
            refine tf_imul hx hb dX10_done_139 ?_
            refine lv_iload hx hb dX10_done_140 (lv_at hl 4 rfl) ?_
            refine tf_iadd hx hb dX10_done_142 ?_
            refine tf_iald (t0 := 0) hx hb hK hW had28 rfl rfl (by omega) (by omega) dX10_done_143 (fun v33 hv33 hsv33 => ?_)
            obtain ⟨z34, rfl, hz34⟩ := tf_v0 hv33
            refine tf_icmp_le (tgt := 154) hx hb ⟨by omega, by omega⟩ ⟨by omega, by omega⟩ dX10_done_144 (by decide) (fun h35 => ?_) (fun h35 => ?_)
            · exact j_154 ⟨by omega, by omega⟩ (x4_81) ⟨by omega, by omega⟩ (x5_81) ⟨by omega, by omega⟩ ⟨by omega, by omega⟩ _ _ hW  _ (lv_sub hl [0, 1, 2, 3, 4] rfl)
            · obtain ⟨z36, ez36, hz36⟩ := tf_any (Int32.ofInt (x4_81) + Int32.ofInt 1)
              refine lv_iinc (v := Int32.ofInt (z36)) (lv' := [(4, .int (Int32.ofInt z36)), (0, .ref a0), (2, .int (Int32.ofInt x2)), (5, .int (Int32.ofInt x5_81)), (6, .int (Int32.ofInt x6_81))]) hx hb dX10_done_147 hl (k := 2) rfl ez36 (by decide) rfl (fun ls hl => ?_)
              refine lv_iload hx hb dX10_done_150 (lv_at hl 4 rfl) ?_
              refine lv_istore (lv' := [(5, .int (Int32.ofInt x6_81)), (4, .int (Int32.ofInt z36)), (0, .ref a0), (2, .int (Int32.ofInt x2)), (6, .int (Int32.ofInt x6_81))]) hx hb dX10_done_152 hl (by decide) rfl (fun ls hl => ?_)
              exact j_154 ⟨by omega, by omega⟩ (z36) ⟨by omega, by omega⟩ (x6_81) ⟨by omega, by omega⟩ ⟨by omega, by omega⟩ _ _ hW  _ (lv_sub hl [2, 3, 1, 0, 4] rfl)
  refine tf_enter (As := [.ref a0, .int (Int32.ofInt x1), .int (Int32.ofInt x2)]) hargs (Nat.le_of_ble_eq_true rfl) (fun ls hl => ?_)
  have hl : lv_has ls 7 [(0, .ref a0), (1, .int (Int32.ofInt x1)), (2, .int (Int32.ofInt x2))] := hl
  refine lv_aload_n hx hb dX10_done_0 rfl (lv_at hl 0 rfl) ?_
  refine tf_iconst hx hb dX10_done_1 ?_
  refine tf_put hx hb hts inlX10 tyX10 tyX10_ok nmX10 hown hK (ci := 10) rfl hW ha0 rfl rfl 0 rfl (by decide) (by decide) (hts _ fl_X10_103) rfl (tf_u0 (by omega) (by omega)) rfl rfl dX10_done_2 (fun H37 locs37 hW hs37 ht37 hq37 => ?_)
  refine lv_iload_n hx hb dX10_done_5 rfl (lv_at hl 1 rfl) ?_
  refine tf_i2l hx hb ⟨by omega, by omega⟩ dX10_done_6 ?_
  refine tf_lconst (z := 0) hx hb dX10_done_7 (by decide) ?_
  refine tf_iconst hx hb dX10_done_8 ?_
  refine lv_aload_n hx hb dX10_done_9 rfl (lv_at hl 0 rfl) ?_
  refine tf_get hx hb hts inlX10 hown hK (ci := 10) rfl hW ha0 rfl 3 rfl (by decide) (hts _ fl_X10_13) dX10_done_10 (fun v38 hv38 hsv38 => ?_)
  obtain ⟨ad39, rfl, had39⟩ := tf_v1 hv38
  refine tf_iconst hx hb dX10_done_13 ?_
  refine tf_iald (t0 := 0) hx hb hK hW had39 rfl rfl (by omega) (by omega) dX10_done_14 (fun v40 hv40 hsv40 => ?_)
  obtain ⟨z41, rfl, hz41⟩ := tf_v0 hv40
  have hg42 := tf_rd3 (tf_ROof hW had39) hsv40 ⟨by omega, by omega⟩ (by omega)
  refine tf_ishl_any hx hb dX10_done_15 (fun z43 hz43 => ?_)
  refine tf_i2l hx hb ⟨by omega, by omega⟩ dX10_done_16 ?_
  refine tf_lconst (z := 1) hx hb dX10_done_17 (by decide) ?_
  refine tf_lsub hx hb dX10_done_18 ?_
  refine tf_calli (va_runS (As := [.long (Int64.ofInt x1), .long (Int64.ofInt 0), .long (Int64.ofInt ((z43 - 1)))]) (rest := []) ⟨hx, hb, hml, hown, hts⟩ (c_X10_in l g T (x1) ⟨by omega, by omega⟩ (0) ⟨by omega, by omega⟩ ((z43 - 1)) ⟨by omega, by omega⟩) ⟨callB_of 3 hts (gw_ws cm_X10_in) rfl rfl rfl (hts _ (tw1 (i := 5) rfl)) (hts _ (tw11 (i := 3) rfl)) hd_X10_in.2 ⟨Nat.le_trans (by decide) hR1, Nat.le_trans (by decide) hR2⟩, hts _ (tw11 (i := 4) rfl)⟩ (tf_preS hk hW trivial) rfl rfl hl.1 rfl (lv_room (Nat.le_of_ble_eq_true rfl)) dX10_done_19 ⟨Nat.zero_le _, Nat.zero_le _⟩) hW (by decide) (fun z44 H44 locs44 hW hF44 hp44 => ?_)
  rcases hp44 with ⟨rfl, h45, h46⟩ | ⟨rfl, h47⟩
  · refine tf_if_eq (tgt := 37) hx hb ⟨by decide, by decide⟩ dX10_done_22 (by decide) (fun h48 => ?_) (fun h48 => ?_)
    · exfalso; omega
    · refine lv_iload_n hx hb dX10_done_25 rfl (lv_at hl 2 rfl) ?_
      refine tf_i2l hx hb ⟨by omega, by omega⟩ dX10_done_26 ?_
      refine tf_lconst (z := 0) hx hb dX10_done_27 (by decide) ?_
      refine tf_ldc2 (z := 3) hx hb hown (hts _ kl_X10_122) (by decide) dX10_done_28 ?_
      refine tf_calli (va_runS (As := [.long (Int64.ofInt x2), .long (Int64.ofInt 0), .long (Int64.ofInt 3)]) (rest := []) ⟨hx, hb, hml, hown, hts⟩ (c_X10_in l g T (x2) ⟨by omega, by omega⟩ (0) ⟨by omega, by omega⟩ (3) ⟨by omega, by omega⟩) ⟨callB_of 3 hts (gw_ws cm_X10_in) rfl rfl rfl (hts _ (tw1 (i := 5) rfl)) (hts _ (tw11 (i := 3) rfl)) hd_X10_in.2 ⟨Nat.le_trans (by decide) hR1, Nat.le_trans (by decide) hR2⟩, hts _ (tw11 (i := 4) rfl)⟩ (tf_preS hk hW trivial) rfl rfl hl.1 rfl (lv_room (Nat.le_of_ble_eq_true rfl)) dX10_done_31 ⟨Nat.zero_le _, Nat.zero_le _⟩) hW (by decide) (fun z49 H49 locs49 hW hF49 hp49 => ?_)
      rcases hp49 with ⟨rfl, h50, h51⟩ | ⟨rfl, h52⟩
      · refine tf_if_ne (tgt := 39) hx hb ⟨by decide, by decide⟩ dX10_done_34 (by decide) (fun h53 => ?_) (fun h53 => ?_)
        · refine lv_aload_n hx hb dX10_done_39 rfl (lv_at hl 0 rfl) ?_
          refine tf_callv (va_runV (As := []) (rest := []) ⟨hx, hb, hml, hown, hts⟩ (c_X10_findAboves l g T a0 ha0) (cwV 0 hts gv_X10_455 rfl rfl rfl hd_X10_findAboves ⟨Nat.le_trans (by decide) hR1, Nat.le_trans (by decide) hR2⟩) (tf_preV hk hW ha0 (ci := 10) rfl rfl trivial) rfl rfl hl.1 rfl (lv_room (Nat.le_of_ble_eq_true rfl)) dX10_done_40 ⟨Nat.zero_le _, Nat.zero_le _⟩) hW (by decide) (fun H54 locs54 hW hF54 hp54 => ?_)
          refine lv_aload_n hx hb dX10_done_43 rfl (lv_at hl 0 rfl) ?_
          refine lv_iload_n hx hb dX10_done_44 rfl (lv_at hl 1 rfl) ?_
          refine tf_calli (va_runV (As := [.int (Int32.ofInt x1)]) (rest := []) ⟨hx, hb, hml, hown, hts⟩ (c_X10_doWorks l g T a0 ha0 (x1) ⟨by omega, by omega⟩) (cwV 1 hts gv_X10_458 rfl rfl rfl hd_X10_doWorks ⟨Nat.le_trans (by decide) hR1, Nat.le_trans (by decide) hR2⟩) (tf_preV hk hW ha0 (ci := 10) rfl rfl trivial) rfl rfl hl.1 rfl (lv_room (Nat.le_of_ble_eq_true rfl)) dX10_done_45 ⟨Nat.zero_le _, Nat.zero_le _⟩) hW (by decide) (fun z55 H55 locs55 hW hF55 hp55 => ?_)
          obtain ⟨hp55_0, hp55_1⟩ := hp55
          refine lv_istore_n (lv' := [(3, .int (Int32.ofInt z55)), (0, .ref a0), (1, .int (Int32.ofInt x1)), (2, .int (Int32.ofInt x2))]) hx hb dX10_done_48 rfl hl (by decide) rfl (fun ls hl => ?_)
          refine lv_iload_n hx hb dX10_done_49 rfl (lv_at hl 3 rfl) ?_
          refine tf_if_eq (tgt := 58) hx hb ⟨by omega, by omega⟩ dX10_done_50 (by decide) (fun h56 => ?_) (fun h56 => ?_)
          · exact j_58 ⟨by omega, by omega⟩ (z55) ⟨by omega, by omega⟩ _ _ hW  _ (lv_sub hl [1, 3, 0] rfl)
          · refine lv_iload_n hx hb dX10_done_53 rfl (lv_at hl 3 rfl) ?_
            refine tf_iconst hx hb dX10_done_54 ?_
            refine tf_icmp_ne (tgt := 71) hx hb ⟨by omega, by omega⟩ ⟨by decide, by decide⟩ dX10_done_55 (by decide) (fun h57 => ?_) (fun h57 => ?_)
            · refine tf_iconst hx hb dX10_done_71 ?_
              refine lv_istore (lv' := [(4, .int (Int32.ofInt 0)), (3, .int (Int32.ofInt z55)), (0, .ref a0), (1, .int (Int32.ofInt x1)), (2, .int (Int32.ofInt x2))]) hx hb dX10_done_72 hl (by decide) rfl (fun ls hl => ?_)
              refine tf_iconst hx hb dX10_done_74 ?_
              refine lv_istore (lv' := [(5, .int (Int32.ofInt ((-1)))), (4, .int (Int32.ofInt 0)), (3, .int (Int32.ofInt z55)), (0, .ref a0), (1, .int (Int32.ofInt x1)), (2, .int (Int32.ofInt x2))]) hx hb dX10_done_75 hl (by decide) rfl (fun ls hl => ?_)
              refine tf_bipush hx hb dX10_done_77 (by decide) ?_
              refine lv_istore (lv' := [(6, .int (Int32.ofInt 99)), (5, .int (Int32.ofInt ((-1)))), (4, .int (Int32.ofInt 0)), (3, .int (Int32.ofInt z55)), (0, .ref a0), (1, .int (Int32.ofInt x1)), (2, .int (Int32.ofInt x2))]) hx hb dX10_done_79 hl (by decide) rfl (fun ls hl => ?_)
              exact j_81 ((99 + 2 : Int)).toNat ⟨by omega, by omega⟩ (0) ⟨by omega, by omega⟩ ((-1)) ⟨by omega, by omega⟩ (99) ⟨by omega, by omega⟩ (by omega) _ _ hW  _ (lv_sub hl [4, 6, 2, 1, 0] rfl)
            · exact j_58 ⟨by omega, by omega⟩ (z55) ⟨by omega, by omega⟩ _ _ hW  _ (lv_sub hl [1, 3, 0] rfl)
        · exfalso; omega
      · refine tf_if_ne (tgt := 39) hx hb ⟨by decide, by decide⟩ dX10_done_34 (by decide) (fun h58 => ?_) (fun h58 => ?_)
        · exfalso; omega
        · refine tf_iconst hx hb dX10_done_37 ?_
          exact tf_reti (z := (-1)) hx hb hr hlocks hQ hW (show (-2147483648) ≤ ((-1)) ∧ ((-1)) ≤ 2147483647 by omega) dX10_done_38
  · refine tf_if_eq (tgt := 37) hx hb ⟨by decide, by decide⟩ dX10_done_22 (by decide) (fun h59 => ?_) (fun h59 => ?_)
    · refine tf_iconst hx hb dX10_done_37 ?_
      exact tf_reti (z := (-1)) hx hb hr hlocks hQ hW (show (-2147483648) ≤ ((-1)) ∧ ((-1)) ≤ 2147483647 by omega) dX10_done_38
    · exfalso; omega

abbrev M_X10_least : List (Nat × Nat) := [(38, 0), (39, 0), (40, 0), (41, 0), (42, 0), (43, 0), (44, 0), (50, 0), (50, 26), (50, 29), (50, 30), (50, 31), (50, 37), (50, 38), (50, 39), (50, 40), (50, 41), (50, 42)]
set_option maxHeartbeats 4000000 in
set_option maxRecDepth 100000 in
theorem c_X10_least (l : Launch) (g : tf_G) (T : tf_T) (a0 : Nat) (ha0 : T a0 = some (50, 0)) (x1 : Int) (hp1 : (-2147483648) ≤ x1 ∧ x1 ≤ 2147483647) : Met l yX10_least (cd_X10_least :: wsL_law) ({ frames := 9, cells := 0, slots := 0, locals := 224 }) (tf_P g T [.ref a0, .int (Int32.ofInt x1)] (fun H => True)) (tf_Qi g M_X10_least T (fun z _ _ => (-2147483648) ≤ z ∧ z ≤ 2147483647)) 0 0 (fun q => tf_B g ≤ q) := by
  refine Met.ofW (cc := cX10_least) (maxL := 9) (ret := (some .int)) (by decide) rfl ?_
  intro p e s m args below meth c s₁ B hml hv
  obtain ⟨hargs, hk, hW0, hB, hpre⟩ := hv
  have hx := B.exec
  have hb := B.bytes
  have hr := B.returns
  have hts : ∀ w ∈ wsL_law, w.before args s = true := fun w h => atoms_spec (ws := cd_X10_least :: wsL_law) B.pre w (List.mem_cons_of_mem _ h)
  have hown : s.vm.findClass RX10 = some m.cls := findClass_of_methodNamed B.named
  have hlocks := B.notSynchronized
  have hK := hk.1
  have hW := tf_n.start (M := M_X10_least) hW0 hB
  obtain ⟨Q, hQ⟩ : ∃ q, q = MQ below (tf_Qi g M_X10_least T (fun z _ _ => (-2147483648) ≤ z ∧ z ≤ 2147483647)) args s 0 0 (fun q => tf_B g ≤ q) := ⟨_, rfl⟩
  rw [← hQ]
  obtain ⟨R, hR⟩ : ∃ q, q = (headSpec (cd_X10_least :: wsL_law) ({ frames := 9, cells := 0, slots := 0, locals := 224 })).room := ⟨_, rfl⟩
  rw [← hR]
  have hR1 : 9 ≤ R.frames := by rw [hR]; exact Nat.le_refl _
  have hR2 : 224 ≤ R.locals := by rw [hR]; exact Nat.le_refl _
  have hR3 : 0 ≤ R.cells := by rw [hR]; exact Nat.le_refl _
  have hR4 : 0 ≤ R.slots := by rw [hR]; exact Nat.le_refl _
  have hin := (name_of_methodNamed B.named B.method).1
  clear hR B
  have j_29 : ∀ (n_29 : Nat), 0 ≤ x1 ∧ x1 ≤ 2 → ∀ (x2_29 : Int), (-1) ≤ x2_29 ∧ x2_29 ≤ 2147483646 → ∀ (x3_29 : Int), 0 ≤ x3_29 ∧ x3_29 ≤ 3996000 → ∀ (x4_29 : Int), (-2147483648) ≤ x4_29 ∧ x4_29 ≤ 2147483647 → ∀ (x5_29 : Int), 0 ≤ x5_29 ∧ x5_29 ≤ 2147483647 → (2147483647 - x5_29 + 1 ≤ (n_29 : Int)) → ∀ (H : Heap) (locs : List Loc), tf_n tf_kt g M_X10_least T s.heap T H locs → ∀ (ls : Array Slot), lv_has ls 9 [(0, .ref a0), (1, .int (Int32.ofInt x1)), (2, .int (Int32.ofInt x2_29)), (3, .int (Int32.ofInt x3_29)), (4, .int (Int32.ofInt x4_29)), (5, .int (Int32.ofInt x5_29))] → W p l e R s m args below meth c H locs 0 0 Q (F0 m 29 ls []) := by
    intro n_29
    induction n_29 with
    | zero =>
      intro hx1_29 x2_29 hx2_29 x3_29 hx3_29 x4_29 hx4_29 x5_29 hx5_29 hm_29
      exfalso; omega
    | succ n_29 ih_29 =>
      intro hx1_29 x2_29 hx2_29 x3_29 hx3_29 x4_29 hx4_29 x5_29 hx5_29 hm_29 H locs hW  ls hl
      have j_123 : 0 ≤ x1 ∧ x1 ≤ 2 → ∀ (x2_123 : Int), (-1) ≤ x2_123 ∧ x2_123 ≤ 2147483646 → ∀ (x3_123 : Int), 0 ≤ x3_123 ∧ x3_123 ≤ 3996000 → 0 ≤ x5_29 ∧ x5_29 ≤ 2147483646 → ∀ (y0_123 : Int), (-2147483648) ≤ y0_123 ∧ y0_123 ≤ 2147483647 → ∀ (H : Heap) (locs : List Loc), tf_n tf_kt g M_X10_least T s.heap T H locs → ∀ (ls : Array Slot), lv_has ls 9 [(0, .ref a0), (1, .int (Int32.ofInt x1)), (2, .int (Int32.ofInt x2_123)), (3, .int (Int32.ofInt x3_123)), (5, .int (Int32.ofInt x5_29))] → W p l e R s m args below meth c H locs 0 0 Q (F0 m 123 ls [.int (Int32.ofInt y0_123)]) := by
        intro hx1_123 x2_123 hx2_123 x3_123 hx3_123 hx5_123 y0_123 hy0_123 H locs hW  ls hl
        refine lv_istore (lv' := [(4, .int (Int32.ofInt y0_123)), (0, .ref a0), (1, .int (Int32.ofInt x1)), (2, .int (Int32.ofInt x2_123)), (3, .int (Int32.ofInt x3_123)), (5, .int (Int32.ofInt x5_29))]) hx hb dX10_least_123 hl (by decide) rfl (fun ls hl => ?_)
        refine lv_iinc (v := Int32.ofInt ((x5_29 + 1))) (lv' := [(5, .int (Int32.ofInt ((x5_29 + 1)))), (4, .int (Int32.ofInt y0_123)), (0, .ref a0), (1, .int (Int32.ofInt x1)), (2, .int (Int32.ofInt x2_123)), (3, .int (Int32.ofInt x3_123))]) hx hb dX10_least_125 hl (k := 5) rfl (Int32.ofInt_add _ _).symm (by decide) rfl (fun ls hl => ?_)
        refine lv_goto (tgt := 29) hx hb dX10_least_128 (by decide) ?_
        exact ih_29 ⟨by omega, by omega⟩ (x2_123) ⟨by omega, by omega⟩ (x3_123) ⟨by omega, by omega⟩ (y0_123) ⟨by omega, by omega⟩ ((x5_29 + 1)) ⟨by omega, by omega⟩ (by omega) _ _ hW  _ (lv_sub hl [2, 3, 4, 5, 1, 0] rfl)
      have j_110 : 0 ≤ x1 ∧ x1 ≤ 2 → ∀ (x2_110 : Int), (-1) ≤ x2_110 ∧ x2_110 ≤ 2147483646 → (-2147483648) ≤ x4_29 ∧ x4_29 ≤ 2147483647 → 0 ≤ x5_29 ∧ x5_29 ≤ 2147483646 → ∀ (x6_110 : Int), (-2147483648) ≤ x6_110 ∧ x6_110 ≤ 2147483647 → ∀ (x8_110 : Int), 0 ≤ x8_110 ∧ x8_110 ≤ 1 → ∀ (y0_110 : Int), 0 ≤ y0_110 ∧ y0_110 ≤ 3996000 → ∀ (H : Heap) (locs : List Loc), tf_n tf_kt g M_X10_least T s.heap T H locs → ∀ (ls : Array Slot), lv_has ls 9 [(0, .ref a0), (1, .int (Int32.ofInt x1)), (2, .int (Int32.ofInt x2_110)), (4, .int (Int32.ofInt x4_29)), (5, .int (Int32.ofInt x5_29)), (6, .int (Int32.ofInt x6_110)), (8, .int (Int32.ofInt x8_110))] → W p l e R s m args below meth c H locs 0 0 Q (F0 m 110 ls [.int (Int32.ofInt y0_110)]) := by
        intro hx1_110 x2_110 hx2_110 hx4_110 hx5_110 x6_110 hx6_110 x8_110 hx8_110 y0_110 hy0_110 H locs hW  ls hl
        refine lv_istore_n (lv' := [(3, .int (Int32.ofInt y0_110)), (0, .ref a0), (1, .int (Int32.ofInt x1)), (2, .int (Int32.ofInt x2_110)), (4, .int (Int32.ofInt x4_29)), (5, .int (Int32.ofInt x5_29)), (6, .int (Int32.ofInt x6_110)), (8, .int (Int32.ofInt x8_110))]) hx hb dX10_least_110 rfl hl (by decide) rfl (fun ls hl => ?_)
        refine lv_iload hx hb dX10_least_111 (lv_at hl 7 rfl) ?_
        refine tf_if_eq (tgt := 121) hx hb ⟨by omega, by omega⟩ dX10_least_113 (by decide) (fun h1 => ?_) (fun h1 => ?_)
        · refine lv_iload hx hb dX10_least_121 (lv_at hl 4 rfl) ?_
          exact j_123 ⟨by omega, by omega⟩ (x2_110) ⟨by omega, by omega⟩ (y0_110) ⟨by omega, by omega⟩ ⟨by omega, by omega⟩ (x4_29) ⟨by omega, by omega⟩ _ _ hW  _ (lv_sub hl [1, 2, 3, 0, 5] rfl)
        · refine lv_iload hx hb dX10_least_116 (lv_at hl 6 rfl) ?_
          refine lv_goto (tgt := 123) hx hb dX10_least_118 (by decide) ?_
          exact j_123 ⟨by omega, by omega⟩ (x2_110) ⟨by omega, by omega⟩ (y0_110) ⟨by omega, by omega⟩ ⟨by omega, by omega⟩ (x6_110) ⟨by omega, by omega⟩ _ _ hW  _ (lv_sub hl [1, 2, 3, 0, 5] rfl)
      have j_98 : 0 ≤ x1 ∧ x1 ≤ 2 → 0 ≤ x3_29 ∧ x3_29 ≤ 3996000 → (-2147483648) ≤ x4_29 ∧ x4_29 ≤ 2147483647 → 0 ≤ x5_29 ∧ x5_29 ≤ 2147483646 → ∀ (x6_98 : Int), (-2147483648) ≤ x6_98 ∧ x6_98 ≤ 2147483647 → ∀ (x7_98 : Int), 0 ≤ x7_98 ∧ x7_98 ≤ 3996000 → ∀ (x8_98 : Int), 0 ≤ x8_98 ∧ x8_98 ≤ 1 → ∀ (y0_98 : Int), (-1) ≤ y0_98 ∧ y0_98 ≤ 2147483646 → ∀ (H : Heap) (locs : List Loc), tf_n tf_kt g M_X10_least T s.heap T H locs → ∀ (ls : Array Slot), lv_has ls 9 [(0, .ref a0), (1, .int (Int32.ofInt x1)), (3, .int (Int32.ofInt x3_29)), (4, .int (Int32.ofInt x4_29)), (5, .int (Int32.ofInt x5_29)), (6, .int (Int32.ofInt x6_98)), (7, .int (Int32.ofInt x7_98)), (8, .int (Int32.ofInt x8_98))] → W p l e R s m args below meth c H locs 0 0 Q (F0 m 98 ls [.int (Int32.ofInt y0_98)]) := by
        intro hx1_98 hx3_98 hx4_98 hx5_98 x6_98 hx6_98 x7_98 hx7_98 x8_98 hx8_98 y0_98 hy0_98 H locs hW  ls hl
        refine lv_istore_n (lv' := [(2, .int (Int32.ofInt y0_98)), (0, .ref a0), (1, .int (Int32.ofInt x1)), (3, .int (Int32.ofInt x3_29)), (4, .int (Int32.ofInt x4_29)), (5, .int (Int32.ofInt x5_29)), (6, .int (Int32.ofInt x6_98)), (7, .int (Int32.ofInt x7_98)), (8, .int (Int32.ofInt x8_98))]) hx hb dX10_least_98 rfl hl (by decide) rfl (fun ls hl => ?_)
        refine lv_iload hx hb dX10_least_99 (lv_at hl 8 rfl) ?_
        refine tf_if_eq (tgt := 109) hx hb ⟨by omega, by omega⟩ dX10_least_101 (by decide) (fun h2 => ?_) (fun h2 => ?_)
        · refine lv_iload_n hx hb dX10_least_109 rfl (lv_at hl 3 rfl) ?_
          exact j_110 ⟨by omega, by omega⟩ (y0_98) ⟨by omega, by omega⟩ ⟨by omega, by omega⟩ ⟨by omega, by omega⟩ (x6_98) ⟨by omega, by omega⟩ (x8_98) ⟨by omega, by omega⟩ (x3_29) ⟨by omega, by omega⟩ _ _ hW  _ (lv_sub hl [1, 2, 0, 4, 5, 6, 8] rfl)
        · refine lv_iload hx hb dX10_least_104 (lv_at hl 7 rfl) ?_
          refine lv_goto (tgt := 110) hx hb dX10_least_106 (by decide) ?_
          exact j_110 ⟨by omega, by omega⟩ (y0_98) ⟨by omega, by omega⟩ ⟨by omega, by omega⟩ ⟨by omega, by omega⟩ (x6_98) ⟨by omega, by omega⟩ (x8_98) ⟨by omega, by omega⟩ (x7_98) ⟨by omega, by omega⟩ _ _ hW  _ (lv_sub hl [1, 2, 0, 4, 5, 6, 8] rfl)
      have j_85 : 0 ≤ x1 ∧ x1 ≤ 2 → (-1) ≤ x2_29 ∧ x2_29 ≤ 2147483646 → 0 ≤ x3_29 ∧ x3_29 ≤ 3996000 → (-2147483648) ≤ x4_29 ∧ x4_29 ≤ 2147483647 → 0 ≤ x5_29 ∧ x5_29 ≤ 2147483646 → ∀ (x6_85 : Int), (-2147483648) ≤ x6_85 ∧ x6_85 ≤ 2147483647 → ∀ (x7_85 : Int), 0 ≤ x7_85 ∧ x7_85 ≤ 3996000 → ∀ (y0_85 : Int), 0 ≤ y0_85 ∧ y0_85 ≤ 1 → ∀ (H : Heap) (locs : List Loc), tf_n tf_kt g M_X10_least T s.heap T H locs → ∀ (ls : Array Slot), lv_has ls 9 [(0, .ref a0), (1, .int (Int32.ofInt x1)), (2, .int (Int32.ofInt x2_29)), (3, .int (Int32.ofInt x3_29)), (4, .int (Int32.ofInt x4_29)), (5, .int (Int32.ofInt x5_29)), (6, .int (Int32.ofInt x6_85)), (7, .int (Int32.ofInt x7_85))] → W p l e R s m args below meth c H locs 0 0 Q (F0 m 85 ls [.int (Int32.ofInt y0_85)]) := by
        intro hx1_85 hx2_85 hx3_85 hx4_85 hx5_85 x6_85 hx6_85 x7_85 hx7_85 y0_85 hy0_85 H locs hW  ls hl
        refine lv_istore (lv' := [(8, .int (Int32.ofInt y0_85)), (0, .ref a0), (1, .int (Int32.ofInt x1)), (2, .int (Int32.ofInt x2_29)), (3, .int (Int32.ofInt x3_29)), (4, .int (Int32.ofInt x4_29)), (5, .int (Int32.ofInt x5_29)), (6, .int (Int32.ofInt x6_85)), (7, .int (Int32.ofInt x7_85))]) hx hb dX10_least_85 hl (by decide) rfl (fun ls hl => ?_)
        refine lv_iload hx hb dX10_least_87 (lv_at hl 0 rfl) ?_
        refine tf_if_eq (tgt := 97) hx hb ⟨by omega, by omega⟩ dX10_least_89 (by decide) (fun h3 => ?_) (fun h3 => ?_)
        · refine lv_iload_n hx hb dX10_least_97 rfl (lv_at hl 3 rfl) ?_
          exact j_98 ⟨by omega, by omega⟩ ⟨by omega, by omega⟩ ⟨by omega, by omega⟩ ⟨by omega, by omega⟩ (x6_85) ⟨by omega, by omega⟩ (x7_85) ⟨by omega, by omega⟩ (y0_85) ⟨by omega, by omega⟩ (x2_29) ⟨by omega, by omega⟩ _ _ hW  _ (lv_sub hl [1, 2, 4, 5, 6, 7, 8, 0] rfl)
        · refine lv_iload hx hb dX10_least_92 (lv_at hl 6 rfl) ?_
          refine lv_goto (tgt := 98) hx hb dX10_least_94 (by decide) ?_
          exact j_98 ⟨by omega, by omega⟩ ⟨by omega, by omega⟩ ⟨by omega, by omega⟩ ⟨by omega, by omega⟩ (x6_85) ⟨by omega, by omega⟩ (x7_85) ⟨by omega, by omega⟩ (y0_85) ⟨by omega, by omega⟩ (x5_29) ⟨by omega, by omega⟩ _ _ hW  _ (lv_sub hl [1, 2, 4, 5, 6, 7, 8, 0] rfl)
      have j_80 : 0 ≤ x1 ∧ x1 ≤ 2 → (-1) ≤ x2_29 ∧ x2_29 ≤ 2147483646 → 0 ≤ x3_29 ∧ x3_29 ≤ 3996000 → (-2147483648) ≤ x4_29 ∧ x4_29 ≤ 2147483647 → 0 ≤ x5_29 ∧ x5_29 ≤ 2147483646 → ∀ (x6_80 : Int), (-2147483648) ≤ x6_80 ∧ x6_80 ≤ 2147483647 → ∀ (x7_80 : Int), 0 ≤ x7_80 ∧ x7_80 ≤ 3996000 → ∀ (H : Heap) (locs : List Loc), tf_n tf_kt g M_X10_least T s.heap T H locs → ∀ (ls : Array Slot), lv_has ls 9 [(0, .ref a0), (1, .int (Int32.ofInt x1)), (2, .int (Int32.ofInt x2_29)), (3, .int (Int32.ofInt x3_29)), (4, .int (Int32.ofInt x4_29)), (5, .int (Int32.ofInt x5_29)), (6, .int (Int32.ofInt x6_80)), (7, .int (Int32.ofInt x7_80))] → W p l e R s m args below meth c H locs 0 0 Q (F0 m 80 ls []) := by
        intro hx1_80 hx2_80 hx3_80 hx4_80 hx5_80 x6_80 hx6_80 x7_80 hx7_80 H locs hW  ls hl
        refine tf_iconst hx hb dX10_least_80 ?_
        refine lv_goto (tgt := 85) hx hb dX10_least_81 (by decide) ?_
        exact j_85 ⟨by omega, by omega⟩ ⟨by omega, by omega⟩ ⟨by omega, by omega⟩ ⟨by omega, by omega⟩ ⟨by omega, by omega⟩ (x6_80) ⟨by omega, by omega⟩ (x7_80) ⟨by omega, by omega⟩ (1) ⟨by omega, by omega⟩ _ _ hW  _ (lv_sub hl [0, 1, 2, 3, 4, 5, 6, 7] rfl)
      have j_84 : 0 ≤ x1 ∧ x1 ≤ 2 → 0 ≤ x2_29 ∧ x2_29 ≤ 2147483646 → 0 ≤ x3_29 ∧ x3_29 ≤ 3996000 → (-2147483648) ≤ x4_29 ∧ x4_29 ≤ 2147483647 → 0 ≤ x5_29 ∧ x5_29 ≤ 2147483646 → ∀ (x6_84 : Int), (-2147483648) ≤ x6_84 ∧ x6_84 ≤ 2147483647 → ∀ (x7_84 : Int), 0 ≤ x7_84 ∧ x7_84 ≤ 3996000 → ∀ (H : Heap) (locs : List Loc), tf_n tf_kt g M_X10_least T s.heap T H locs → ∀ (ls : Array Slot), lv_has ls 9 [(0, .ref a0), (1, .int (Int32.ofInt x1)), (2, .int (Int32.ofInt x2_29)), (3, .int (Int32.ofInt x3_29)), (4, .int (Int32.ofInt x4_29)), (5, .int (Int32.ofInt x5_29)), (6, .int (Int32.ofInt x6_84)), (7, .int (Int32.ofInt x7_84))] → W p l e R s m args below meth c H locs 0 0 Q (F0 m 84 ls []) := by
        intro hx1_84 hx2_84 hx3_84 hx4_84 hx5_84 x6_84 hx6_84 x7_84 hx7_84 H locs hW  ls hl
        refine tf_iconst hx hb dX10_least_84 ?_
        exact j_85 ⟨by omega, by omega⟩ ⟨by omega, by omega⟩ ⟨by omega, by omega⟩ ⟨by omega, by omega⟩ ⟨by omega, by omega⟩ (x6_84) ⟨by omega, by omega⟩ (x7_84) ⟨by omega, by omega⟩ (0) ⟨by omega, by omega⟩ _ _ hW  _ (lv_sub hl [0, 1, 2, 3, 4, 5, 6, 7] rfl)
      refine lv_iload hx hb dX10_least_29 (lv_at hl 5 rfl) ?_
      refine tf_iconst hx hb dX10_least_31 ?_
      refine lv_aload_n hx hb dX10_least_32 rfl (lv_at hl 0 rfl) ?_
      refine tf_get hx hb hts inlX10 hown hK (ci := 10) rfl hW ha0 rfl 3 rfl (by decide) (hts _ fl_X10_13) dX10_least_33 (fun v4 hv4 hsv4 => ?_)
      obtain ⟨ad5, rfl, had5⟩ := tf_v1 hv4
      refine tf_iconst hx hb dX10_least_36 ?_
      refine tf_iald (t0 := 0) hx hb hK hW had5 rfl rfl (by omega) (by omega) dX10_least_37 (fun v6 hv6 hsv6 => ?_)
      obtain ⟨z7, rfl, hz7⟩ := tf_v0 hv6
      have hg8 := tf_rd3 (tf_ROof hW had5) hsv6 ⟨by omega, by omega⟩ (by omega)
      refine tf_ishl_any hx hb dX10_least_38 (fun z9 hz9 => ?_)
      refine tf_icmp_ge (tgt := 131) hx hb ⟨by omega, by omega⟩ ⟨by omega, by omega⟩ dX10_least_39 (by decide) (fun h10 => ?_) (fun h10 => ?_)
      · refine lv_iload_n hx hb dX10_least_131 rfl (lv_at hl 1 rfl) ?_
        refine tf_if_ne (tgt := 140) hx hb ⟨by omega, by omega⟩ dX10_least_132 (by decide) (fun h11 => ?_) (fun h11 => ?_)
        · refine lv_iload_n hx hb dX10_least_140 rfl (lv_at hl 1 rfl) ?_
          refine tf_iconst hx hb dX10_least_141 ?_
          refine tf_icmp_ne (tgt := 149) hx hb ⟨by omega, by omega⟩ ⟨by decide, by decide⟩ dX10_least_142 (by decide) (fun h12 => ?_) (fun h12 => ?_)
          · refine lv_iload_n hx hb dX10_least_149 rfl (lv_at hl 3 rfl) ?_
            exact tf_reti (z := x3_29) hx hb hr hlocks hQ hW (show (-2147483648) ≤ (x3_29) ∧ (x3_29) ≤ 2147483647 by omega) dX10_least_150
          · refine lv_iload_n hx hb dX10_least_145 rfl (lv_at hl 2 rfl) ?_
            refine lv_goto (tgt := 150) hx hb dX10_least_146 (by decide) ?_
            exact tf_reti (z := x2_29) hx hb hr hlocks hQ hW (show (-2147483648) ≤ (x2_29) ∧ (x2_29) ≤ 2147483647 by omega) dX10_least_150
        · refine lv_iload hx hb dX10_least_135 (lv_at hl 4 rfl) ?_
          refine lv_goto (tgt := 150) hx hb dX10_least_137 (by decide) ?_
          exact tf_reti (z := x4_29) hx hb hr hlocks hQ hW (show (-2147483648) ≤ (x4_29) ∧ (x4_29) ≤ 2147483647 by omega) dX10_least_150
      · refine lv_aload_n hx hb dX10_least_42 rfl (lv_at hl 0 rfl) ?_
        refine lv_iload hx hb dX10_least_43 (lv_at hl 5 rfl) ?_
        refine tf_calli (va_runV (As := [.int (Int32.ofInt x5_29)]) (rest := []) ⟨hx, hb, hml, hown, hts⟩ (c_X10_doWorks l g T a0 ha0 (x5_29) ⟨by omega, by omega⟩) (cwV 1 hts gv_X10_458 rfl rfl rfl hd_X10_doWorks ⟨Nat.le_trans (by decide) hR1, Nat.le_trans (by decide) hR2⟩) (tf_preV hk hW ha0 (ci := 10) rfl rfl trivial) rfl rfl hl.1 rfl (lv_room (Nat.le_of_ble_eq_true rfl)) dX10_least_45 ⟨Nat.zero_le _, Nat.zero_le _⟩) hW (by decide) (fun z13 H13 locs13 hW hF13 hp13 => ?_)
        obtain ⟨hp13_0, hp13_1⟩ := hp13
        refine lv_istore (lv' := [(6, .int (Int32.ofInt z13)), (0, .ref a0), (1, .int (Int32.ofInt x1)), (2, .int (Int32.ofInt x2_29)), (3, .int (Int32.ofInt x3_29)), (4, .int (Int32.ofInt x4_29)), (5, .int (Int32.ofInt x5_29))]) hx hb dX10_least_48 hl (by decide) rfl (fun ls hl => ?_)
        refine lv_aload_n hx hb dX10_least_50 rfl (lv_at hl 1 rfl) ?_
        refine tf_calli (va_runV (As := []) (rest := []) ⟨hx, hb, hml, hown, hts⟩ (c_X10_overAll l g T a0 ha0) (cwV 0 hts gv_X10_422 rfl rfl rfl hd_X10_overAll ⟨Nat.le_trans (by decide) hR1, Nat.le_trans (by decide) hR2⟩) (tf_preV hk hW ha0 (ci := 10) rfl rfl trivial) rfl rfl hl.1 rfl (lv_room (Nat.le_of_ble_eq_true rfl)) dX10_least_51 ⟨Nat.zero_le _, Nat.zero_le _⟩) hW (by decide) (fun z14 H14 locs14 hW hF14 hp14 => ?_)
        obtain ⟨hp14_0, hp14_1⟩ := hp14
        refine lv_istore (lv' := [(7, .int (Int32.ofInt z14)), (6, .int (Int32.ofInt z13)), (0, .ref a0), (1, .int (Int32.ofInt x1)), (2, .int (Int32.ofInt x2_29)), (3, .int (Int32.ofInt x3_29)), (4, .int (Int32.ofInt x4_29)), (5, .int (Int32.ofInt x5_29))]) hx hb dX10_least_54 hl (by decide) rfl (fun ls hl => ?_)
        refine lv_iload_n hx hb dX10_least_56 rfl (lv_at hl 4 rfl) ?_
        refine tf_iconst hx hb dX10_least_57 ?_
        refine tf_icmp_eq (tgt := 80) hx hb ⟨by omega, by omega⟩ ⟨by decide, by decide⟩ dX10_least_58 (by decide) (fun h15 => ?_) (fun h15 => ?_)
        · exact j_80 ⟨by omega, by omega⟩ ⟨by omega, by omega⟩ ⟨by omega, by omega⟩ ⟨by omega, by omega⟩ ⟨by omega, by omega⟩ (z13) ⟨by omega, by omega⟩ (z14) ⟨by omega, by omega⟩ _ _ hW  _ (lv_sub hl [2, 3, 4, 5, 6, 7, 1, 0] rfl)
        · refine lv_iload hx hb dX10_least_61 (lv_at hl 0 rfl) ?_
          refine lv_iload_n hx hb dX10_least_63 rfl (lv_at hl 5 rfl) ?_
          refine tf_icmp_lt (tgt := 80) hx hb ⟨by omega, by omega⟩ ⟨by omega, by omega⟩ dX10_least_64 (by decide) (fun h16 => ?_) (fun h16 => ?_)
          · exact j_80 ⟨by omega, by omega⟩ ⟨by omega, by omega⟩ ⟨by omega, by omega⟩ ⟨by omega, by omega⟩ ⟨by omega, by omega⟩ (z13) ⟨by omega, by omega⟩ (z14) ⟨by omega, by omega⟩ _ _ hW  _ (lv_sub hl [2, 3, 4, 5, 6, 7, 1, 0] rfl)
          · refine lv_iload hx hb dX10_least_67 (lv_at hl 0 rfl) ?_
            refine lv_iload_n hx hb dX10_least_69 rfl (lv_at hl 5 rfl) ?_
            refine tf_icmp_ne (tgt := 84) hx hb ⟨by omega, by omega⟩ ⟨by omega, by omega⟩ dX10_least_70 (by decide) (fun h17 => ?_) (fun h17 => ?_)
            · exact j_84 ⟨by omega, by omega⟩ ⟨by omega, by omega⟩ ⟨by omega, by omega⟩ ⟨by omega, by omega⟩ ⟨by omega, by omega⟩ (z13) ⟨by omega, by omega⟩ (z14) ⟨by omega, by omega⟩ _ _ hW  _ (lv_sub hl [2, 3, 4, 5, 6, 7, 1, 0] rfl)
            · refine lv_iload hx hb dX10_least_73 (lv_at hl 1 rfl) ?_
              refine lv_iload hx hb dX10_least_75 (lv_at hl 6 rfl) ?_
              refine tf_icmp_ge (tgt := 84) hx hb ⟨by omega, by omega⟩ ⟨by omega, by omega⟩ dX10_least_77 (by decide) (fun h18 => ?_) (fun h18 => ?_)
              · exact j_84 ⟨by omega, by omega⟩ ⟨by omega, by omega⟩ ⟨by omega, by omega⟩ ⟨by omega, by omega⟩ ⟨by omega, by omega⟩ (z13) ⟨by omega, by omega⟩ (z14) ⟨by omega, by omega⟩ _ _ hW  _ (lv_sub hl [2, 3, 4, 5, 6, 7, 1, 0] rfl)
              · exact j_80 ⟨by omega, by omega⟩ ⟨by omega, by omega⟩ ⟨by omega, by omega⟩ ⟨by omega, by omega⟩ ⟨by omega, by omega⟩ (z13) ⟨by omega, by omega⟩ (z14) ⟨by omega, by omega⟩ _ _ hW  _ (lv_sub hl [2, 3, 4, 5, 6, 7, 1, 0] rfl)
  refine tf_enter (As := [.ref a0, .int (Int32.ofInt x1)]) hargs (Nat.le_of_ble_eq_true rfl) (fun ls hl => ?_)
  have hl : lv_has ls 9 [(0, .ref a0), (1, .int (Int32.ofInt x1))] := hl
  refine lv_aload_n hx hb dX10_least_0 rfl (lv_at hl 0 rfl) ?_
  refine tf_iconst hx hb dX10_least_1 ?_
  refine tf_put hx hb hts inlX10 tyX10 tyX10_ok nmX10 hown hK (ci := 10) rfl hW ha0 rfl rfl 0 rfl (by decide) (by decide) (hts _ fl_X10_103) rfl (tf_u0 (by omega) (by omega)) rfl rfl dX10_least_2 (fun H19 locs19 hW hs19 ht19 hq19 => ?_)
  refine lv_iload_n hx hb dX10_least_5 rfl (lv_at hl 1 rfl) ?_
  refine tf_i2l hx hb ⟨by omega, by omega⟩ dX10_least_6 ?_
  refine tf_lconst (z := 0) hx hb dX10_least_7 (by decide) ?_
  refine tf_ldc2 (z := 2) hx hb hown (hts _ kl_X10_171) (by decide) dX10_least_8 ?_
  refine tf_calli (va_runS (As := [.long (Int64.ofInt x1), .long (Int64.ofInt 0), .long (Int64.ofInt 2)]) (rest := []) ⟨hx, hb, hml, hown, hts⟩ (c_X10_in l g T (x1) ⟨by omega, by omega⟩ (0) ⟨by omega, by omega⟩ (2) ⟨by omega, by omega⟩) ⟨callB_of 3 hts (gw_ws cm_X10_in) rfl rfl rfl (hts _ (tw1 (i := 5) rfl)) (hts _ (tw11 (i := 3) rfl)) hd_X10_in.2 ⟨Nat.le_trans (by decide) hR1, Nat.le_trans (by decide) hR2⟩, hts _ (tw11 (i := 4) rfl)⟩ (tf_preS hk hW trivial) rfl rfl hl.1 rfl (lv_room (Nat.le_of_ble_eq_true rfl)) dX10_least_11 ⟨Nat.zero_le _, Nat.zero_le _⟩) hW (by decide) (fun z20 H20 locs20 hW hF20 hp20 => ?_)
  rcases hp20 with ⟨rfl, h21, h22⟩ | ⟨rfl, h23⟩
  · refine tf_if_ne (tgt := 19) hx hb ⟨by decide, by decide⟩ dX10_least_14 (by decide) (fun h24 => ?_) (fun h24 => ?_)
    · refine tf_iconst hx hb dX10_least_19 ?_
      refine lv_istore_n (lv' := [(2, .int (Int32.ofInt ((-1)))), (0, .ref a0), (1, .int (Int32.ofInt x1))]) hx hb dX10_least_20 rfl hl (by decide) rfl (fun ls hl => ?_)
      refine tf_iconst hx hb dX10_least_21 ?_
      refine lv_istore_n (lv' := [(3, .int (Int32.ofInt 0)), (2, .int (Int32.ofInt ((-1)))), (0, .ref a0), (1, .int (Int32.ofInt x1))]) hx hb dX10_least_22 rfl hl (by decide) rfl (fun ls hl => ?_)
      refine tf_iconst hx hb dX10_least_23 ?_
      refine lv_istore (lv' := [(4, .int (Int32.ofInt 0)), (3, .int (Int32.ofInt 0)), (2, .int (Int32.ofInt ((-1)))), (0, .ref a0), (1, .int (Int32.ofInt x1))]) hx hb dX10_least_24 hl (by decide) rfl (fun ls hl => ?_)
      refine tf_iconst hx hb dX10_least_26 ?_
      refine lv_istore (lv' := [(5, .int (Int32.ofInt 0)), (4, .int (Int32.ofInt 0)), (3, .int (Int32.ofInt 0)), (2, .int (Int32.ofInt ((-1)))), (0, .ref a0), (1, .int (Int32.ofInt x1))]) hx hb dX10_least_27 hl (by decide) rfl (fun ls hl => ?_)
      exact j_29 ((2147483647 - 0 + 1 : Int)).toNat ⟨by omega, by omega⟩ ((-1)) ⟨by omega, by omega⟩ (0) ⟨by omega, by omega⟩ (0) ⟨by omega, by omega⟩ (0) ⟨by omega, by omega⟩ (by omega) _ _ hW  _ (lv_sub hl [4, 5, 3, 2, 1, 0] rfl)
    · exfalso; omega
  · refine tf_if_ne (tgt := 19) hx hb ⟨by decide, by decide⟩ dX10_least_14 (by decide) (fun h25 => ?_) (fun h25 => ?_)
    · exfalso; omega
    · refine tf_iconst hx hb dX10_least_17 ?_
      exact tf_reti (z := (-1)) hx hb hr hlocks hQ hW (show (-2147483648) ≤ ((-1)) ∧ ((-1)) ≤ 2147483647 by omega) dX10_least_18

abbrev M_X10_build : List (Nat × Nat) := [(27, 0), (28, 0), (38, 0), (39, 0), (40, 0), (41, 0), (42, 0), (43, 0), (44, 0), (50, 0), (50, 1), (50, 26), (50, 29), (50, 30), (50, 31), (50, 37), (50, 38), (50, 39), (50, 40), (50, 41), (50, 42)]
set_option maxHeartbeats 4000000 in
set_option maxRecDepth 100000 in
theorem c_X10_build (l : Launch) (g : tf_G) (T : tf_T) (a0 : Nat) (ha0 : T a0 = some (50, 0)) (x1 : Int) (hp1 : (-2147483648) ≤ x1 ∧ x1 ≤ 2147483647) : Met l yX10_build (cd_X10_build :: wsL_law) ({ frames := 9, cells := 0, slots := 0, locals := 224 }) (tf_P g T [.ref a0, .int (Int32.ofInt x1)] (fun H => True)) (tf_Qi g M_X10_build T (fun z _ _ => (-2147483648) ≤ z ∧ z ≤ 2147483647)) 0 0 (fun q => tf_B g ≤ q) := by
  refine Met.ofW (cc := cX10_build) (maxL := 4) (ret := (some .int)) (by decide) rfl ?_
  intro p e s m args below meth c s₁ B hml hv
  obtain ⟨hargs, hk, hW0, hB, hpre⟩ := hv
  have hx := B.exec
  have hb := B.bytes
  have hr := B.returns
  have hts : ∀ w ∈ wsL_law, w.before args s = true := fun w h => atoms_spec (ws := cd_X10_build :: wsL_law) B.pre w (List.mem_cons_of_mem _ h)
  have hown : s.vm.findClass RX10 = some m.cls := findClass_of_methodNamed B.named
  have hlocks := B.notSynchronized
  have hK := hk.1
  have hW := tf_n.start (M := M_X10_build) hW0 hB
  obtain ⟨Q, hQ⟩ : ∃ q, q = MQ below (tf_Qi g M_X10_build T (fun z _ _ => (-2147483648) ≤ z ∧ z ≤ 2147483647)) args s 0 0 (fun q => tf_B g ≤ q) := ⟨_, rfl⟩
  rw [← hQ]
  obtain ⟨R, hR⟩ : ∃ q, q = (headSpec (cd_X10_build :: wsL_law) ({ frames := 9, cells := 0, slots := 0, locals := 224 })).room := ⟨_, rfl⟩
  rw [← hR]
  have hR1 : 9 ≤ R.frames := by rw [hR]; exact Nat.le_refl _
  have hR2 : 224 ≤ R.locals := by rw [hR]; exact Nat.le_refl _
  have hR3 : 0 ≤ R.cells := by rw [hR]; exact Nat.le_refl _
  have hR4 : 0 ≤ R.slots := by rw [hR]; exact Nat.le_refl _
  have hin := (name_of_methodNamed B.named B.method).1
  clear hR B
  obtain ⟨vb0, hfb0, hokb0⟩ := tf_peek hW ha0 (ci := 10) rfl 3 rfl
  obtain ⟨b0, rfl, hb0⟩ := tf_v1 hokb0
  obtain ⟨r0, hr0⟩ := tf_rname hW b0
  have hror0 : tf_RO r0 := hr0 ▸ tf_ROof hW hb0
  have j_174 : ∀ (y1_174 : Int), 0 ≤ y1_174 ∧ y1_174 ≤ 3996000 → ∀ (H : Heap) (locs : List Loc), tf_n tf_kt g M_X10_build T s.heap T H locs → ∀ (ls : Array Slot), lv_has ls 4 [] → W p l e R s m args below meth c H locs 0 0 Q (F0 m 174 ls [.int (Int32.ofInt y1_174), .ref a0]) := by
    intro y1_174 hy1_174 H locs hW  ls hl
    refine tf_calli (va_runV (As := [.int (Int32.ofInt y1_174)]) (rest := []) ⟨hx, hb, hml, hown, hts⟩ (c_X10_tell l g T a0 ha0 (y1_174) ⟨by omega, by omega⟩) (cwV 1 hts gv_X10_117 rfl rfl rfl hd_X10_tell ⟨Nat.le_trans (by decide) hR1, Nat.le_trans (by decide) hR2⟩) (tf_preV hk hW ha0 (ci := 10) rfl rfl trivial) rfl rfl hl.1 rfl (lv_room (Nat.le_of_ble_eq_true rfl)) dX10_build_174 ⟨Nat.zero_le _, Nat.zero_le _⟩) hW (by decide) (fun z1 H1 locs1 hW hF1 hp1 => ?_)
    obtain ⟨hp1_0, hp1_1, hp1_2⟩ := hp1
    exact tf_reti (z := z1) hx hb hr hlocks hQ hW (show (-2147483648) ≤ (z1) ∧ (z1) ≤ 2147483647 by omega) dX10_build_177
  have j_138 : ∀ (n_138 : Nat), 0 ≤ x1 ∧ x1 ≤ 255 → ∀ (x2_138 : Int), (-2147483648) ≤ x2_138 ∧ x2_138 ≤ 2147483647 → ∀ (x3_138 : Int), (-1) ≤ x3_138 ∧ x3_138 ≤ 7 → ∀ (rROW_138 : Int → Int), (tf_bw x1 x3_138 (rROW_138 3)) → (x3_138 - (-1) + 1 ≤ (n_138 : Int)) → ∀ (H : Heap) (locs : List Loc), tf_n tf_kt g M_X10_build T s.heap T H locs → tf_s H a0 (g.1.2 10 3) = some (.ref b0) → tf_rw H b0 = rROW_138 → ∀ (ls : Array Slot), lv_has ls 4 [(0, .ref a0), (1, .int (Int32.ofInt x1)), (2, .int (Int32.ofInt x2_138)), (3, .int (Int32.ofInt x3_138))] → W p l e R s m args below meth c H locs 0 0 Q (F0 m 138 ls []) := by
    intro n_138
    induction n_138 with
    | zero =>
      intro hx1_138 x2_138 hx2_138 x3_138 hx3_138 rROW_138 hRROW_138 hm_138
      exfalso; omega
    | succ n_138 ih_138 =>
      intro hx1_138 x2_138 hx2_138 x3_138 hx3_138 rROW_138 hRROW_138 hm_138 H locs hW hs3_138 hcROW_138 ls hl
      have j_155 : 0 ≤ x1 ∧ x1 ≤ 255 → (-2147483648) ≤ x2_138 ∧ x2_138 ≤ 2147483647 → 0 ≤ x3_138 ∧ x3_138 ≤ 7 → ∀ (rROW_155 : Int → Int), (tf_bw x1 (x3_138 + (-1)) (rROW_155 3)) → ∀ (H : Heap) (locs : List Loc), tf_n tf_kt g M_X10_build T s.heap T H locs → tf_s H a0 (g.1.2 10 3) = some (.ref b0) → tf_rw H b0 = rROW_155 → ∀ (ls : Array Slot), lv_has ls 4 [(0, .ref a0), (1, .int (Int32.ofInt x1)), (2, .int (Int32.ofInt x2_138)), (3, .int (Int32.ofInt x3_138))] → W p l e R s m args below meth c H locs 0 0 Q (F0 m 155 ls []) := by
        intro hx1_155 hx2_155 hx3_155 rROW_155 hRROW_155 H locs hW hs3_155 hcROW_155 ls hl
        refine lv_iinc (v := Int32.ofInt ((x3_138 + (-1)))) (lv' := [(3, .int (Int32.ofInt ((x3_138 + (-1))))), (0, .ref a0), (1, .int (Int32.ofInt x1)), (2, .int (Int32.ofInt x2_138))]) hx hb dX10_build_155 hl (k := 3) rfl (Int32.ofInt_add _ _).symm (by decide) rfl (fun ls hl => ?_)
        refine lv_goto (tgt := 138) hx hb dX10_build_158 (by decide) ?_
        exact ih_138 ⟨by omega, by omega⟩ (x2_138) ⟨by omega, by omega⟩ ((x3_138 + (-1))) ⟨by omega, by omega⟩ rROW_155 (by first | exact hRROW_155 | (rw [hRROW_100]; exact tf_bw_in _ (by omega))) (by omega) _ _ hW hs3_155 hcROW_155 _ (lv_sub hl [1, 2, 3, 0] rfl)
      refine lv_iload_n hx hb dX10_build_138 rfl (lv_at hl 3 rfl) ?_
      refine tf_if_lt (tgt := 161) hx hb ⟨by omega, by omega⟩ dX10_build_139 (by decide) (fun h2 => ?_) (fun h2 => ?_)
      · refine lv_aload_n hx hb dX10_build_161 rfl (lv_at hl 0 rfl) ?_
        refine lv_iload_n hx hb dX10_build_162 rfl (lv_at hl 2 rfl) ?_
        refine tf_if_ge (tgt := 170) hx hb ⟨by omega, by omega⟩ dX10_build_163 (by decide) (fun h3 => ?_) (fun h3 => ?_)
        · refine lv_aload_n hx hb dX10_build_170 rfl (lv_at hl 0 rfl) ?_
          refine tf_calli (va_runV (As := []) (rest := [.ref a0]) ⟨hx, hb, hml, hown, hts⟩ (c_X10_overAll l g T a0 ha0) (cwV 0 hts gv_X10_422 rfl rfl rfl hd_X10_overAll ⟨Nat.le_trans (by decide) hR1, Nat.le_trans (by decide) hR2⟩) (tf_preV hk hW ha0 (ci := 10) rfl rfl trivial) rfl rfl hl.1 rfl (lv_room (Nat.le_of_ble_eq_true rfl)) dX10_build_171 ⟨Nat.zero_le _, Nat.zero_le _⟩) hW (by decide) (fun z4 H4 locs4 hW hF4 hp4 => ?_)
          have hs5 := tf_keepF hF4 ha0 rfl rfl (by decide) hs3_138
          have hs6 := tf_keepC hF4 hb0 rfl (by decide) hcROW_138
          obtain ⟨hp4_0, hp4_1⟩ := hp4
          exact j_174 (z4) ⟨by omega, by omega⟩ _ _ hW  _ (lv_sub hl [] rfl)
        · refine tf_iconst hx hb dX10_build_166 ?_
          refine lv_goto (tgt := 174) hx hb dX10_build_167 (by decide) ?_
          exact j_174 (0) ⟨by omega, by omega⟩ _ _ hW  _ (lv_sub hl [] rfl)
      · refine lv_iload_n hx hb dX10_build_142 rfl (lv_at hl 1 rfl) ?_
        refine lv_iload_n hx hb dX10_build_143 rfl (lv_at hl 3 rfl) ?_
        refine tf_calli (va_runS (As := [.int (Int32.ofInt x1), .int (Int32.ofInt x3_138)]) (rest := []) ⟨hx, hb, hml, hown, hts⟩ (c_X10_is l g T (x1) ⟨by omega, by omega⟩ (x3_138) ⟨by omega, by omega⟩) ⟨callB_of 2 hts (gw_ws cm_X10_is) rfl rfl rfl (hts _ (tw1 (i := 5) rfl)) (hts _ (tw35 (i := 16) rfl)) hd_X10_is.2 ⟨Nat.le_trans (by decide) hR1, Nat.le_trans (by decide) hR2⟩, hts _ (tw35 (i := 17) rfl)⟩ (tf_preS hk hW trivial) rfl rfl hl.1 rfl (lv_room (Nat.le_of_ble_eq_true rfl)) dX10_build_144 ⟨Nat.zero_le _, Nat.zero_le _⟩) hW (by decide) (fun z7 H7 locs7 hW hF7 hp7 => ?_)
        have hs8 := tf_keepF hF7 ha0 rfl rfl (by decide) hs3_138
        have hs9 := tf_keepC hF7 hb0 rfl (by decide) hcROW_138
        rcases hp7 with ⟨rfl, hbit⟩ | ⟨rfl⟩
        · refine tf_if_eq (tgt := 155) hx hb ⟨by decide, by decide⟩ dX10_build_147 (by decide) (fun h10 => ?_) (fun h10 => ?_)
          · exfalso; omega
          · refine lv_aload_n hx hb dX10_build_150 rfl (lv_at hl 0 rfl) ?_
            refine lv_iload_n hx hb dX10_build_151 rfl (lv_at hl 3 rfl) ?_
            refine tf_callv (va_runV (As := [.int (Int32.ofInt x3_138)]) (rest := []) ⟨hx, hb, hml, hown, hts⟩ (c_X10_out l g T a0 ha0 (x3_138) ⟨by omega, by omega⟩ b0 hb0 rROW_138 (hRROW_138 x3_138 (by omega) (by omega) (hbit (by omega) (by omega) (by omega)))) (cwV 1 hts gv_X10_449 rfl rfl rfl hd_X10_out ⟨Nat.le_trans (by decide) hR1, Nat.le_trans (by decide) hR2⟩) (tf_preV hk hW ha0 (ci := 10) rfl rfl ⟨hs8, hs9⟩) rfl rfl hl.1 rfl (lv_room (Nat.le_of_ble_eq_true rfl)) dX10_build_152 ⟨Nat.zero_le _, Nat.zero_le _⟩) hW (by decide) (fun HO locsO hW hFO hpO => ?_)
            have hs11 := tf_keepF hFO ha0 rfl rfl (by decide) hs8
            have hoO_0 := hpO
            obtain ⟨rO_0, hrO_0⟩ := tf_rname hW b0
            rw [hrO_0] at hoO_0
            exact j_155 ⟨by omega, by omega⟩ ⟨by omega, by omega⟩ ⟨by omega, by omega⟩ rO_0 (by first | exact tf_bw_no hRROW_138 | (rw [hoO_0]; exact tf_bw_out hRROW_138 (by omega) (hbit (by omega) (by omega) (by omega)))) _ _ hW hs11 hrO_0 _ (lv_sub hl [0, 1, 2, 3] rfl)
        · refine tf_if_eq (tgt := 155) hx hb ⟨by decide, by decide⟩ dX10_build_147 (by decide) (fun h12 => ?_) (fun h12 => ?_)
          · exact j_155 ⟨by omega, by omega⟩ ⟨by omega, by omega⟩ ⟨by omega, by omega⟩ rROW_138 (by first | exact tf_bw_no hRROW_138 | (rw [hoO_0]; exact tf_bw_out hRROW_138 (by omega) (hbit (by omega) (by omega) (by omega)))) _ _ hW hs8 hs9 _ (lv_sub hl [0, 1, 2, 3] rfl)
          · exfalso; omega
  have j_100 : ∀ (n_100 : Nat), 0 ≤ x1 ∧ x1 ≤ 255 → ∀ (x2_100 : Int), (-2147483648) ≤ x2_100 ∧ x2_100 ≤ 2147483647 → ∀ (x3_100 : Int), 0 ≤ x3_100 ∧ x3_100 ≤ 6 → ∀ (rROW_100 : Int → Int), (rROW_100 3 = r0 3) → (x1 < tf_p2 (r0 3)) → (6 - x3_100 + 1 ≤ (n_100 : Int)) → ∀ (H : Heap) (locs : List Loc), tf_n tf_kt g M_X10_build T s.heap T H locs → tf_s H a0 (g.1.2 10 3) = some (.ref b0) → tf_rw H b0 = rROW_100 → ∀ (ls : Array Slot), lv_has ls 4 [(0, .ref a0), (1, .int (Int32.ofInt x1)), (2, .int (Int32.ofInt x2_100)), (3, .int (Int32.ofInt x3_100))] → W p l e R s m args below meth c H locs 0 0 Q (F0 m 100 ls []) := by
    intro n_100
    induction n_100 with
    | zero =>
      intro hx1_100 x2_100 hx2_100 x3_100 hx3_100 rROW_100 hRROW_100 hi0_100 hm_100
      exfalso; omega
    | succ n_100 ih_100 =>
      intro hx1_100 x2_100 hx2_100 x3_100 hx3_100 rROW_100 hRROW_100 hi0_100 hm_100 H locs hW hs3_100 hcROW_100 ls hl
      refine lv_iload_n hx hb dX10_build_100 rfl (lv_at hl 3 rfl) ?_
      refine lv_aload_n hx hb dX10_build_101 rfl (lv_at hl 0 rfl) ?_
      refine tf_get hx hb hts inlX10 hown hK (ci := 10) rfl hW ha0 rfl 3 rfl (by decide) (hts _ fl_X10_13) dX10_build_102 (fun v13 hv13 hsv13 => ?_)
      obtain rfl : v13 = .ref b0 := Option.some.inj (hsv13.symm.trans hs3_100)
      refine tf_iconst hx hb dX10_build_105 ?_
      refine tf_iald (t0 := 0) hx hb hK hW hb0 rfl rfl (by omega) (by omega) dX10_build_106 (fun v14 hv14 hsv14 => ?_)
      obtain ⟨z15, rfl, hz15⟩ := tf_v0 hv14
      have er16 : rROW_100 0 = z15 := hcROW_100 ▸ tf_rw_of (by omega) hsv14 ⟨by omega, by omega⟩
      have hg17 := tf_rd0 (tf_ROof hW hb0) hsv14 ⟨by omega, by omega⟩ (by omega)
      refine tf_icmp_ge (tgt := 135) hx hb ⟨by omega, by omega⟩ ⟨by omega, by omega⟩ dX10_build_107 (by decide) (fun h18 => ?_) (fun h18 => ?_)
      · refine tf_bipush hx hb dX10_build_135 (by decide) ?_
        refine lv_istore_n (lv' := [(3, .int (Int32.ofInt 7)), (0, .ref a0), (1, .int (Int32.ofInt x1)), (2, .int (Int32.ofInt x2_100))]) hx hb dX10_build_137 rfl hl (by decide) rfl (fun ls hl => ?_)
        exact j_138 ((7 - (-1) + 1 : Int)).toNat ⟨by omega, by omega⟩ (x2_100) ⟨by omega, by omega⟩ (7) ⟨by omega, by omega⟩ rROW_100 (by first | exact hRROW_155 | (rw [hRROW_100]; exact tf_bw_in _ (by omega))) (by omega) _ _ hW hs3_100 hcROW_100 _ (lv_sub hl [1, 2, 3, 0] rfl)
      · refine lv_aload_n hx hb dX10_build_110 rfl (lv_at hl 0 rfl) ?_
        refine tf_get hx hb hts inlX10 hown hK (ci := 10) rfl hW ha0 rfl 3 rfl (by decide) (hts _ fl_X10_13) dX10_build_111 (fun v19 hv19 hsv19 => ?_)
        obtain rfl : v19 = .ref b0 := Option.some.inj (hsv19.symm.trans hs3_100)
        refine tf_bipush hx hb dX10_build_114 (by decide) ?_
        refine tf_iconst hx hb dX10_build_116 ?_
        refine lv_iload_n hx hb dX10_build_117 rfl (lv_at hl 3 rfl) ?_
        refine tf_imul hx hb dX10_build_118 ?_
        refine tf_iadd hx hb dX10_build_119 ?_
        refine tf_iconst hx hb dX10_build_120 ?_
        refine tf_iadd hx hb dX10_build_121 ?_
        refine lv_aload_n hx hb dX10_build_122 rfl (lv_at hl 0 rfl) ?_
        refine tf_get hx hb hts inlX10 hown hK (ci := 10) rfl hW ha0 rfl 36 rfl (by decide) (hts _ fl_X10_85) dX10_build_123 (fun v20 hv20 hsv20 => ?_)
        obtain ⟨ad21, rfl, had21⟩ := tf_v1 hv20
        refine lv_iload_n hx hb dX10_build_126 rfl (lv_at hl 3 rfl) ?_
        refine tf_iald (t0 := 0) hx hb hK hW had21 rfl rfl (by omega) (by omega) dX10_build_127 (fun v22 hv22 hsv22 => ?_)
        obtain ⟨z23, rfl, hz23⟩ := tf_v0 hv22
        refine tf_rowst hx hb hK hW hb0 rfl (by omega) (by omega) (by decide) ⟨by omega, by omega⟩ (tf_RO_any (tf_ROof hW hb0) (by omega)) dX10_build_128 (fun H24 locs24 hW hu24 hq24 => ?_)
        have hs25 := tf_keepQ hs3_100 (hq24 _ (tf_ne ha0 hb0 (by decide)))
        have hu24 := hu24.trans (congrArg (fun w => tf_up w (((11 + (5 * x3_100)) + 4)) (z23)) hcROW_100)
        refine lv_iinc (v := Int32.ofInt ((x3_100 + 1))) (lv' := [(3, .int (Int32.ofInt ((x3_100 + 1)))), (0, .ref a0), (1, .int (Int32.ofInt x1)), (2, .int (Int32.ofInt x2_100))]) hx hb dX10_build_129 hl (k := 3) rfl (Int32.ofInt_add _ _).symm (by decide) rfl (fun ls hl => ?_)
        refine lv_goto (tgt := 100) hx hb dX10_build_132 (by decide) ?_
        exact ih_100 ⟨by omega, by omega⟩ (x2_100) ⟨by omega, by omega⟩ ((x3_100 + 1)) ⟨by omega, by omega⟩ (tf_up rROW_100 (((11 + (5 * x3_100)) + 4)) (z23)) (by first | exact hRROW_39 | (rw [tf_up_ne (by omega)]; exact hRROW_100)) (by omega) (by omega) _ _ hW hs25 hu24 _ (lv_sub hl [1, 2, 3, 0] rfl)
  have j_39 : ∀ (n_39 : Nat), 0 ≤ x1 ∧ x1 ≤ 255 → ∀ (x2_39 : Int), (-2147483648) ≤ x2_39 ∧ x2_39 ≤ 2147483647 → ∀ (x3_39 : Int), 0 ≤ x3_39 ∧ x3_39 ≤ 100 → ∀ (rROW_39 : Int → Int), (rROW_39 3 = r0 3) → (x1 < tf_p2 (r0 3)) → (100 - x3_39 + 1 ≤ (n_39 : Int)) → ∀ (H : Heap) (locs : List Loc), tf_n tf_kt g M_X10_build T s.heap T H locs → tf_s H a0 (g.1.2 10 3) = some (.ref b0) → tf_rw H b0 = rROW_39 → ∀ (ls : Array Slot), lv_has ls 4 [(0, .ref a0), (1, .int (Int32.ofInt x1)), (2, .int (Int32.ofInt x2_39)), (3, .int (Int32.ofInt x3_39))] → W p l e R s m args below meth c H locs 0 0 Q (F0 m 39 ls []) := by
    intro n_39
    induction n_39 with
    | zero =>
      intro hx1_39 x2_39 hx2_39 x3_39 hx3_39 rROW_39 hRROW_39 hi0_39 hm_39
      exfalso; omega
    | succ n_39 ih_39 =>
      intro hx1_39 x2_39 hx2_39 x3_39 hx3_39 rROW_39 hRROW_39 hi0_39 hm_39 H locs hW hs3_39 hcROW_39 ls hl
      refine lv_iload_n hx hb dX10_build_39 rfl (lv_at hl 3 rfl) ?_
      refine tf_bipush hx hb dX10_build_40 (by decide) ?_
      refine tf_icmp_ge (tgt := 98) hx hb ⟨by omega, by omega⟩ ⟨by decide, by decide⟩ dX10_build_42 (by decide) (fun h26 => ?_) (fun h26 => ?_)
      · refine tf_iconst hx hb dX10_build_98 ?_
        refine lv_istore_n (lv' := [(3, .int (Int32.ofInt 0)), (0, .ref a0), (1, .int (Int32.ofInt x1)), (2, .int (Int32.ofInt x2_39))]) hx hb dX10_build_99 rfl hl (by decide) rfl (fun ls hl => ?_)
        exact j_100 ((6 - 0 + 1 : Int)).toNat ⟨by omega, by omega⟩ (x2_39) ⟨by omega, by omega⟩ (0) ⟨by omega, by omega⟩ rROW_39 (by first | exact hRROW_39 | (rw [tf_up_ne (by omega)]; exact hRROW_100)) (by omega) (by omega) _ _ hW hs3_39 hcROW_39 _ (lv_sub hl [1, 2, 3, 0] rfl)
      · refine lv_aload_n hx hb dX10_build_45 rfl (lv_at hl 0 rfl) ?_
        refine tf_get hx hb hts inlX10 hown hK (ci := 10) rfl hW ha0 rfl 3 rfl (by decide) (hts _ fl_X10_13) dX10_build_46 (fun v27 hv27 hsv27 => ?_)
        obtain rfl : v27 = .ref b0 := Option.some.inj (hsv27.symm.trans hs3_39)
        refine tf_bipush hx hb dX10_build_49 (by decide) ?_
        refine lv_iload_n hx hb dX10_build_51 rfl (lv_at hl 3 rfl) ?_
        refine tf_iadd hx hb dX10_build_52 ?_
        refine lv_aload_n hx hb dX10_build_53 rfl (lv_at hl 0 rfl) ?_
        refine tf_get hx hb hts inlX10 hown hK (ci := 10) rfl hW ha0 rfl 33 rfl (by decide) (hts _ fl_X10_76) dX10_build_54 (fun v28 hv28 hsv28 => ?_)
        obtain ⟨ad29, rfl, had29⟩ := tf_v1 hv28
        refine lv_iload_n hx hb dX10_build_57 rfl (lv_at hl 3 rfl) ?_
        refine tf_iald (t0 := 0) hx hb hK hW had29 rfl rfl (by omega) (by omega) dX10_build_58 (fun v30 hv30 hsv30 => ?_)
        obtain ⟨z31, rfl, hz31⟩ := tf_v0 hv30
        refine tf_rowst hx hb hK hW hb0 rfl (by omega) (by omega) (by decide) ⟨by omega, by omega⟩ (tf_RO_any (tf_ROof hW hb0) (by omega)) dX10_build_59 (fun H32 locs32 hW hu32 hq32 => ?_)
        have hs33 := tf_keepQ hs3_39 (hq32 _ (tf_ne ha0 hb0 (by decide)))
        have hu32 := hu32.trans (congrArg (fun w => tf_up w ((41 + x3_39)) (z31)) hcROW_39)
        refine lv_aload_n hx hb dX10_build_60 rfl (lv_at hl 0 rfl) ?_
        refine tf_get hx hb hts inlX10 hown hK (ci := 10) rfl hW ha0 rfl 3 rfl (by decide) (hts _ fl_X10_13) dX10_build_61 (fun v34 hv34 hsv34 => ?_)
        obtain rfl : v34 = .ref b0 := Option.some.inj (hsv34.symm.trans hs33)
        refine tf_sipush hx hb dX10_build_64 (by decide) ?_
        refine lv_iload_n hx hb dX10_build_67 rfl (lv_at hl 3 rfl) ?_
        refine tf_iadd hx hb dX10_build_68 ?_
        refine lv_aload_n hx hb dX10_build_69 rfl (lv_at hl 0 rfl) ?_
        refine tf_get hx hb hts inlX10 hown hK (ci := 10) rfl hW ha0 rfl 34 rfl (by decide) (hts _ fl_X10_79) dX10_build_70 (fun v35 hv35 hsv35 => ?_)
        obtain ⟨ad36, rfl, had36⟩ := tf_v1 hv35
        refine lv_iload_n hx hb dX10_build_73 rfl (lv_at hl 3 rfl) ?_
        refine tf_iald (t0 := 0) hx hb hK hW had36 rfl rfl (by omega) (by omega) dX10_build_74 (fun v37 hv37 hsv37 => ?_)
        obtain ⟨z38, rfl, hz38⟩ := tf_v0 hv37
        refine tf_rowst hx hb hK hW hb0 rfl (by omega) (by omega) (by decide) ⟨by omega, by omega⟩ (tf_RO_any (tf_ROof hW hb0) (by omega)) dX10_build_75 (fun H39 locs39 hW hu39 hq39 => ?_)
        have hs40 := tf_keepQ hs33 (hq39 _ (tf_ne ha0 hb0 (by decide)))
        have hu39 := hu39.trans (congrArg (fun w => tf_up w ((141 + x3_39)) (z38)) hu32)
        refine lv_aload_n hx hb dX10_build_76 rfl (lv_at hl 0 rfl) ?_
        refine tf_get hx hb hts inlX10 hown hK (ci := 10) rfl hW ha0 rfl 3 rfl (by decide) (hts _ fl_X10_13) dX10_build_77 (fun v41 hv41 hsv41 => ?_)
        obtain rfl : v41 = .ref b0 := Option.some.inj (hsv41.symm.trans hs40)
        refine tf_sipush hx hb dX10_build_80 (by decide) ?_
        refine lv_iload_n hx hb dX10_build_83 rfl (lv_at hl 3 rfl) ?_
        refine tf_iadd hx hb dX10_build_84 ?_
        refine lv_aload_n hx hb dX10_build_85 rfl (lv_at hl 0 rfl) ?_
        refine tf_get hx hb hts inlX10 hown hK (ci := 10) rfl hW ha0 rfl 35 rfl (by decide) (hts _ fl_X10_82) dX10_build_86 (fun v42 hv42 hsv42 => ?_)
        obtain ⟨ad43, rfl, had43⟩ := tf_v1 hv42
        refine lv_iload_n hx hb dX10_build_89 rfl (lv_at hl 3 rfl) ?_
        refine tf_iald (t0 := 0) hx hb hK hW had43 rfl rfl (by omega) (by omega) dX10_build_90 (fun v44 hv44 hsv44 => ?_)
        obtain ⟨z45, rfl, hz45⟩ := tf_v0 hv44
        refine tf_rowst hx hb hK hW hb0 rfl (by omega) (by omega) (by decide) ⟨by omega, by omega⟩ (tf_RO_any (tf_ROof hW hb0) (by omega)) dX10_build_91 (fun H46 locs46 hW hu46 hq46 => ?_)
        have hs47 := tf_keepQ hs40 (hq46 _ (tf_ne ha0 hb0 (by decide)))
        have hu46 := hu46.trans (congrArg (fun w => tf_up w ((241 + x3_39)) (z45)) hu39)
        refine lv_iinc (v := Int32.ofInt ((x3_39 + 1))) (lv' := [(3, .int (Int32.ofInt ((x3_39 + 1)))), (0, .ref a0), (1, .int (Int32.ofInt x1)), (2, .int (Int32.ofInt x2_39))]) hx hb dX10_build_92 hl (k := 3) rfl (Int32.ofInt_add _ _).symm (by decide) rfl (fun ls hl => ?_)
        refine lv_goto (tgt := 39) hx hb dX10_build_95 (by decide) ?_
        exact ih_39 ⟨by omega, by omega⟩ (x2_39) ⟨by omega, by omega⟩ ((x3_39 + 1)) ⟨by omega, by omega⟩ (tf_up (tf_up (tf_up rROW_39 ((41 + x3_39)) (z31)) ((141 + x3_39)) (z38)) ((241 + x3_39)) (z45)) (by first | rfl | (rw [tf_up_ne (by omega), tf_up_ne (by omega), tf_up_ne (by omega)]; exact hRROW_39)) (by omega) (by omega) _ _ hW hs47 hu46 _ (lv_sub hl [1, 2, 3, 0] rfl)
  refine tf_enter (As := [.ref a0, .int (Int32.ofInt x1)]) hargs (Nat.le_of_ble_eq_true rfl) (fun ls hl => ?_)
  have hl : lv_has ls 4 [(0, .ref a0), (1, .int (Int32.ofInt x1))] := hl
  refine lv_aload_n hx hb dX10_build_0 rfl (lv_at hl 0 rfl) ?_
  refine tf_iconst hx hb dX10_build_1 ?_
  refine tf_put hx hb hts inlX10 tyX10 tyX10_ok nmX10 hown hK (ci := 10) rfl hW ha0 rfl rfl 0 rfl (by decide) (by decide) (hts _ fl_X10_103) rfl (tf_u0 (by omega) (by omega)) rfl rfl dX10_build_2 (fun H48 locs48 hW hs48 ht48 hq48 => ?_)
  have hs49 := (ht48 3 (by decide) (by decide)).trans hfb0
  have hs50 := tf_keepCQ hr0 (hq48 _ (tf_ne hb0 ha0 (by decide)))
  refine lv_iload_n hx hb dX10_build_5 rfl (lv_at hl 1 rfl) ?_
  refine tf_i2l hx hb ⟨by omega, by omega⟩ dX10_build_6 ?_
  refine tf_lconst (z := 0) hx hb dX10_build_7 (by decide) ?_
  refine tf_iconst hx hb dX10_build_8 ?_
  refine lv_aload_n hx hb dX10_build_9 rfl (lv_at hl 0 rfl) ?_
  refine tf_get hx hb hts inlX10 hown hK (ci := 10) rfl hW ha0 rfl 3 rfl (by decide) (hts _ fl_X10_13) dX10_build_10 (fun v51 hv51 hsv51 => ?_)
  obtain rfl : v51 = .ref b0 := Option.some.inj (hsv51.symm.trans hs49)
  refine tf_iconst hx hb dX10_build_13 ?_
  refine tf_iald (t0 := 0) hx hb hK hW hb0 rfl rfl (by omega) (by omega) dX10_build_14 (fun v52 hv52 hsv52 => ?_)
  obtain ⟨z53, rfl, hz53⟩ := tf_v0 hv52
  have er54 : r0 3 = z53 := hs50 ▸ tf_rw_of (by omega) hsv52 ⟨by omega, by omega⟩
  have hg55 := tf_rd3 (tf_ROof hW hb0) hsv52 ⟨by omega, by omega⟩ (by omega)
  refine tf_ishl_e hx hb dX10_build_15 (fun zsh ezsh hzsh => ?_)
  have hzsh2 := tf_sh8 (m := z53) (by omega) (by omega) hzsh ezsh
  have hzsh3 : zsh = tf_p2 (r0 3) := by rw [er54]; exact hzsh2.1
  refine tf_i2l hx hb ⟨by omega, by omega⟩ dX10_build_16 ?_
  refine tf_lconst (z := 1) hx hb dX10_build_17 (by decide) ?_
  refine tf_lsub hx hb dX10_build_18 ?_
  refine tf_calli (va_runS (As := [.long (Int64.ofInt x1), .long (Int64.ofInt 0), .long (Int64.ofInt ((zsh - 1)))]) (rest := []) ⟨hx, hb, hml, hown, hts⟩ (c_X10_in l g T (x1) ⟨by omega, by omega⟩ (0) ⟨by omega, by omega⟩ ((zsh - 1)) ⟨by omega, by omega⟩) ⟨callB_of 3 hts (gw_ws cm_X10_in) rfl rfl rfl (hts _ (tw1 (i := 5) rfl)) (hts _ (tw11 (i := 3) rfl)) hd_X10_in.2 ⟨Nat.le_trans (by decide) hR1, Nat.le_trans (by decide) hR2⟩, hts _ (tw11 (i := 4) rfl)⟩ (tf_preS hk hW trivial) rfl rfl hl.1 rfl (lv_room (Nat.le_of_ble_eq_true rfl)) dX10_build_19 ⟨Nat.zero_le _, Nat.zero_le _⟩) hW (by decide) (fun z56 H56 locs56 hW hF56 hp56 => ?_)
  have hs57 := tf_keepF hF56 ha0 rfl rfl (by decide) hs49
  have hs58 := tf_keepC hF56 hb0 rfl (by decide) hs50
  rcases hp56 with ⟨rfl, h59, h60⟩ | ⟨rfl, h61⟩
  · refine tf_if_ne (tgt := 31) hx hb ⟨by decide, by decide⟩ dX10_build_22 (by decide) (fun h62 => ?_) (fun h62 => ?_)
    · refine lv_aload_n hx hb dX10_build_31 rfl (lv_at hl 0 rfl) ?_
      refine lv_iload_n hx hb dX10_build_32 rfl (lv_at hl 1 rfl) ?_
      refine tf_calli (va_runV (As := [.int (Int32.ofInt x1)]) (rest := []) ⟨hx, hb, hml, hown, hts⟩ (c_X10_doWorks l g T a0 ha0 (x1) ⟨by omega, by omega⟩) (cwV 1 hts gv_X10_458 rfl rfl rfl hd_X10_doWorks ⟨Nat.le_trans (by decide) hR1, Nat.le_trans (by decide) hR2⟩) (tf_preV hk hW ha0 (ci := 10) rfl rfl trivial) rfl rfl hl.1 rfl (lv_room (Nat.le_of_ble_eq_true rfl)) dX10_build_33 ⟨Nat.zero_le _, Nat.zero_le _⟩) hW (by decide) (fun z63 H63 locs63 hW hF63 hp63 => ?_)
      have hs64 := tf_keepF hF63 ha0 rfl rfl (by decide) hs57
      have hs65 := tf_keepC hF63 hb0 rfl (by decide) hs58
      obtain ⟨hp63_0, hp63_1⟩ := hp63
      refine lv_istore_n (lv' := [(2, .int (Int32.ofInt z63)), (0, .ref a0), (1, .int (Int32.ofInt x1))]) hx hb dX10_build_36 rfl hl (by decide) rfl (fun ls hl => ?_)
      refine tf_iconst hx hb dX10_build_37 ?_
      refine lv_istore_n (lv' := [(3, .int (Int32.ofInt 0)), (2, .int (Int32.ofInt z63)), (0, .ref a0), (1, .int (Int32.ofInt x1))]) hx hb dX10_build_38 rfl hl (by decide) rfl (fun ls hl => ?_)
      exact j_39 ((100 - 0 + 1 : Int)).toNat ⟨by omega, by omega⟩ (z63) ⟨by omega, by omega⟩ (0) ⟨by omega, by omega⟩ r0 (by first | rfl | (rw [tf_up_ne (by omega), tf_up_ne (by omega), tf_up_ne (by omega)]; exact hRROW_39)) (by omega) (by omega) _ _ hW hs64 hs65 _ (lv_sub hl [2, 3, 1, 0] rfl)
    · exfalso; omega
  · refine tf_if_ne (tgt := 31) hx hb ⟨by decide, by decide⟩ dX10_build_22 (by decide) (fun h66 => ?_) (fun h66 => ?_)
    · exfalso; omega
    · refine lv_aload_n hx hb dX10_build_25 rfl (lv_at hl 0 rfl) ?_
      refine tf_iconst hx hb dX10_build_26 ?_
      refine tf_calli (va_runV (As := [.int (Int32.ofInt ((-1)))]) (rest := []) ⟨hx, hb, hml, hown, hts⟩ (c_X10_tell l g T a0 ha0 ((-1)) ⟨by omega, by omega⟩) (cwV 1 hts gv_X10_117 rfl rfl rfl hd_X10_tell ⟨Nat.le_trans (by decide) hR1, Nat.le_trans (by decide) hR2⟩) (tf_preV hk hW ha0 (ci := 10) rfl rfl trivial) rfl rfl hl.1 rfl (lv_room (Nat.le_of_ble_eq_true rfl)) dX10_build_27 ⟨Nat.zero_le _, Nat.zero_le _⟩) hW (by decide) (fun z67 H67 locs67 hW hF67 hp67 => ?_)
      have hs68 := tf_keepF hF67 ha0 rfl rfl (by decide) hs57
      have hs69 := tf_keepC hF67 hb0 rfl (by decide) hs58
      obtain ⟨hp67_0, hp67_1, hp67_2⟩ := hp67
      exact tf_reti (z := z67) hx hb hr hlocks hQ hW (show (-2147483648) ≤ (z67) ∧ (z67) ≤ 2147483647 by omega) dX10_build_30

abbrev M_X10_image : List (Nat × Nat) := [(27, 0), (29, 0), (30, 0), (50, 0), (50, 1)]
set_option maxHeartbeats 4000000 in
set_option maxRecDepth 100000 in
theorem c_X10_image (l : Launch) (g : tf_G) (T : tf_T) (a0 : Nat) (ha0 : T a0 = some (50, 0)) (x1 : Int) (hp1 : (-2147483648) ≤ x1 ∧ x1 ≤ 2147483647) : Met l yX10_image (cd_X10_image :: wsL_law) ({ frames := 2, cells := 0, slots := 0, locals := 49 }) (tf_P g T [.ref a0, .int (Int32.ofInt x1)] (fun H => True)) (tf_Qi g M_X10_image T (fun z _ _ => (z = 0 ∧ 0 ≤ x1 ∧ x1 ≤ 1) ∨ (z = (-1) ∧ (x1 < 0 ∨ 1 < x1)))) 0 0 (fun q => tf_B g ≤ q) := by
  refine Met.ofW (cc := cX10_image) (maxL := 3) (ret := (some .int)) (by decide) rfl ?_
  intro p e s m args below meth c s₁ B hml hv
  obtain ⟨hargs, hk, hW0, hB, hpre⟩ := hv
  have hx := B.exec
  have hb := B.bytes
  have hr := B.returns
  have hts : ∀ w ∈ wsL_law, w.before args s = true := fun w h => atoms_spec (ws := cd_X10_image :: wsL_law) B.pre w (List.mem_cons_of_mem _ h)
  have hown : s.vm.findClass RX10 = some m.cls := findClass_of_methodNamed B.named
  have hlocks := B.notSynchronized
  have hK := hk.1
  have hW := tf_n.start (M := M_X10_image) hW0 hB
  obtain ⟨Q, hQ⟩ : ∃ q, q = MQ below (tf_Qi g M_X10_image T (fun z _ _ => (z = 0 ∧ 0 ≤ x1 ∧ x1 ≤ 1) ∨ (z = (-1) ∧ (x1 < 0 ∨ 1 < x1)))) args s 0 0 (fun q => tf_B g ≤ q) := ⟨_, rfl⟩
  rw [← hQ]
  obtain ⟨R, hR⟩ : ∃ q, q = (headSpec (cd_X10_image :: wsL_law) ({ frames := 2, cells := 0, slots := 0, locals := 49 })).room := ⟨_, rfl⟩
  rw [← hR]
  have hR1 : 2 ≤ R.frames := by rw [hR]; exact Nat.le_refl _
  have hR2 : 49 ≤ R.locals := by rw [hR]; exact Nat.le_refl _
  have hR3 : 0 ≤ R.cells := by rw [hR]; exact Nat.le_refl _
  have hR4 : 0 ≤ R.slots := by rw [hR]; exact Nat.le_refl _
  have hin := (name_of_methodNamed B.named B.method).1
  clear hR B
  obtain ⟨vb0, hfb0, hokb0⟩ := tf_peek hW ha0 (ci := 10) rfl 3 rfl
  obtain ⟨b0, rfl, hb0⟩ := tf_v1 hokb0
  obtain ⟨r0, hr0⟩ := tf_rname hW b0
  have hror0 : tf_RO r0 := hr0 ▸ tf_ROof hW hb0
  obtain ⟨vc0, hfc0, hokc0⟩ := tf_peek hW ha0 (ci := 10) rfl 4 rfl
  obtain ⟨c0, rfl, hc0⟩ := tf_v1 hokc0
  obtain ⟨q0, hq0⟩ := tf_rname hW c0
  have himq0 : tf_RO q0 ∧ tf_RO (fun j => q0 (5830 + j)) := hq0 ▸ tf_IMof hW hc0
  have j_23 : ∀ (n_23 : Nat), 0 ≤ x1 ∧ x1 ≤ 1 → ∀ (x2_23 : Int), 0 ≤ x2_23 ∧ x2_23 ≤ 5830 → ∀ (rIMS_23 : Int → Int), (tf_im q0 r0 x1 x2_23 rIMS_23) → (5830 - x2_23 + 1 ≤ (n_23 : Int)) → ∀ (H : Heap) (locs : List Loc), tf_n tf_ktw g M_X10_image T s.heap T H locs → tf_s H a0 (g.1.2 10 3) = some (.ref b0) → tf_rw H b0 = r0 → tf_s H a0 (g.1.2 10 4) = some (.ref c0) → tf_rw H c0 = rIMS_23 → tf_zz g T c0 H → ∀ (ls : Array Slot), lv_has ls 3 [(0, .ref a0), (1, .int (Int32.ofInt x1)), (2, .int (Int32.ofInt x2_23))] → W p l e R s m args below meth c H locs 0 0 Q (F0 m 23 ls []) := by
    intro n_23
    induction n_23 with
    | zero =>
      intro hx1_23 x2_23 hx2_23 rIMS_23 hRIMS_23 hm_23
      exfalso; omega
    | succ n_23 ih_23 =>
      intro hx1_23 x2_23 hx2_23 rIMS_23 hRIMS_23 hm_23 H locs hW hs3_23 hcROW_23 hs4_23 hcIMS_23 hZ ls hl
      refine lv_iload_n hx hb dX10_image_23 rfl (lv_at hl 2 rfl) ?_
      refine tf_sipush hx hb dX10_image_24 (by decide) ?_
      refine tf_icmp_ge (tgt := 54) hx hb ⟨by omega, by omega⟩ ⟨by decide, by decide⟩ dX10_image_27 (by decide) (fun h1 => ?_) (fun h1 => ?_)
      · have hW := tf_strongI hW hZ hc0 (by rw [hcIMS_23]; exact tf_im_end hRIMS_23 himq0 hror0 (by omega) (by omega))
        refine lv_aload_n hx hb dX10_image_54 rfl (lv_at hl 0 rfl) ?_
        refine tf_get hx hb hts inlX10 hown hK (ci := 10) rfl hW ha0 rfl 5 rfl (by decide) (hts _ fl_X10_19) dX10_image_55 (fun v2 hv2 hsv2 => ?_)
        obtain ⟨ad3, rfl, had3⟩ := tf_v1 hv2
        refine lv_iload_n hx hb dX10_image_58 rfl (lv_at hl 1 rfl) ?_
        refine tf_iconst hx hb dX10_image_59 ?_
        refine tf_zast (t0 := 2) hx hb hK hW had3 rfl rfl (by omega) (by omega) (by decide) (tf_u0 (by omega) (by omega)) (by omega) dX10_image_60 (fun H4 locs4 hW hs4 ht4 hq4 => ?_)
        have hs5 := tf_keepQ hs3_23 (hq4 _ (tf_ne ha0 had3 (by decide)))
        have hs6 := tf_keepCQ hcROW_23 (hq4 _ (tf_ne hb0 had3 (by decide)))
        have hs7 := tf_keepQ hs4_23 (hq4 _ (tf_ne ha0 had3 (by decide)))
        have hs8 := tf_keepCQ hcIMS_23 (hq4 _ (tf_ne hc0 had3 (by decide)))
        refine lv_aload_n hx hb dX10_image_61 rfl (lv_at hl 0 rfl) ?_
        refine tf_iconst hx hb dX10_image_62 ?_
        refine tf_calli (va_runV (As := [.int (Int32.ofInt 0)]) (rest := []) ⟨hx, hb, hml, hown, hts⟩ (c_X10_tell l g T a0 ha0 (0) ⟨by omega, by omega⟩) (cwV 1 hts gv_X10_117 rfl rfl rfl hd_X10_tell ⟨Nat.le_trans (by decide) hR1, Nat.le_trans (by decide) hR2⟩) (tf_preV hk hW ha0 (ci := 10) rfl rfl trivial) rfl rfl hl.1 rfl (lv_room (Nat.le_of_ble_eq_true rfl)) dX10_image_63 ⟨Nat.zero_le _, Nat.zero_le _⟩) hW (by decide) (fun z9 H9 locs9 hW hF9 hp9 => ?_)
        have hs10 := tf_keepF hF9 ha0 rfl rfl (by decide) hs5
        have hs11 := tf_keepC hF9 hb0 rfl (by decide) hs6
        have hs12 := tf_keepF hF9 ha0 rfl rfl (by decide) hs7
        have hs13 := tf_keepC hF9 hc0 rfl (by decide) hs8
        obtain ⟨hp9_0, hp9_1, hp9_2⟩ := hp9
        exact tf_reti (z := z9) hx hb hr hlocks hQ hW (show ((z9) = 0 ∧ 0 ≤ x1 ∧ x1 ≤ 1) ∨ ((z9) = (-1) ∧ (x1 < 0 ∨ 1 < x1)) by omega) dX10_image_66
      · refine lv_aload_n hx hb dX10_image_30 rfl (lv_at hl 0 rfl) ?_
        refine tf_get hx hb hts inlX10 hown hK (ci := 10) rfl hW ha0 rfl 4 rfl (by decide) (hts _ fl_X10_16) dX10_image_31 (fun v14 hv14 hsv14 => ?_)
        obtain rfl : v14 = .ref c0 := Option.some.inj (hsv14.symm.trans hs4_23)
        refine tf_sipush hx hb dX10_image_34 (by decide) ?_
        refine lv_iload_n hx hb dX10_image_37 rfl (lv_at hl 1 rfl) ?_
        refine tf_imul hx hb dX10_image_38 ?_
        refine lv_iload_n hx hb dX10_image_39 rfl (lv_at hl 2 rfl) ?_
        refine tf_iadd hx hb dX10_image_40 ?_
        refine lv_aload_n hx hb dX10_image_41 rfl (lv_at hl 0 rfl) ?_
        refine tf_get hx hb hts inlX10 hown hK (ci := 10) rfl hW ha0 rfl 3 rfl (by decide) (hts _ fl_X10_13) dX10_image_42 (fun v15 hv15 hsv15 => ?_)
        obtain rfl : v15 = .ref b0 := Option.some.inj (hsv15.symm.trans hs3_23)
        refine lv_iload_n hx hb dX10_image_45 rfl (lv_at hl 2 rfl) ?_
        refine tf_iald (t0 := 0) hx hb hK hW hb0 rfl rfl (by omega) (by omega) dX10_image_46 (fun v16 hv16 hsv16 => ?_)
        obtain ⟨z17, rfl, hz17⟩ := tf_v0 hv16
        have er18 : r0 x2_23 = z17 := hcROW_23 ▸ tf_rw_of (by omega) hsv16 ⟨by omega, by omega⟩
        refine tf_rwst (t0 := 0) hx hb hK hW hc0 rfl rfl (by omega) (by omega) (by decide) (tf_u0 (by omega) (by omega)) ⟨by omega, by omega⟩ trivial dX10_image_47 (fun H19 locs19 hW hu19 hq19 => ?_)
        have hZ := tf_zz_st hZ hq19
        have hs20 := tf_keepQ hs3_23 (hq19 _ (tf_ne ha0 hc0 (by decide)))
        have hs21 := tf_keepCQ hcROW_23 (hq19 _ (tf_ne hb0 hc0 (by decide)))
        have hs22 := tf_keepQ hs4_23 (hq19 _ (tf_ne ha0 hc0 (by decide)))
        have hu19 := hu19.trans (congrArg (fun w => tf_up w (((5830 * x1) + x2_23)) (z17)) hcIMS_23)
        refine lv_iinc (v := Int32.ofInt ((x2_23 + 1))) (lv' := [(2, .int (Int32.ofInt ((x2_23 + 1)))), (0, .ref a0), (1, .int (Int32.ofInt x1))]) hx hb dX10_image_48 hl (k := 2) rfl (Int32.ofInt_add _ _).symm (by decide) rfl (fun ls hl => ?_)
        refine lv_goto (tgt := 23) hx hb dX10_image_51 (by decide) ?_
        exact ih_23 ⟨by omega, by omega⟩ ((x2_23 + 1)) ⟨by omega, by omega⟩ (tf_up rIMS_23 (((5830 * x1) + x2_23)) (z17)) (by first | exact tf_im_st hRIMS_23 er18 (by omega) | exact fun j => by rw [if_neg (by omega)]) (by omega) _ _ hW hs20 hs21 hs22 hu19 hZ _ (lv_sub hl [1, 2, 0] rfl)
  refine tf_enter (As := [.ref a0, .int (Int32.ofInt x1)]) hargs (Nat.le_of_ble_eq_true rfl) (fun ls hl => ?_)
  have hl : lv_has ls 3 [(0, .ref a0), (1, .int (Int32.ofInt x1))] := hl
  refine lv_aload_n hx hb dX10_image_0 rfl (lv_at hl 0 rfl) ?_
  refine tf_iconst hx hb dX10_image_1 ?_
  refine tf_put hx hb hts inlX10 tyX10 tyX10_ok nmX10 hown hK (ci := 10) rfl hW ha0 rfl rfl 0 rfl (by decide) (by decide) (hts _ fl_X10_103) rfl (tf_u0 (by omega) (by omega)) rfl rfl dX10_image_2 (fun H23 locs23 hW hs23 ht23 hq23 => ?_)
  have hs24 := (ht23 3 (by decide) (by decide)).trans hfb0
  have hs25 := tf_keepCQ hr0 (hq23 _ (tf_ne hb0 ha0 (by decide)))
  have hs26 := (ht23 4 (by decide) (by decide)).trans hfc0
  have hs27 := tf_keepCQ hq0 (hq23 _ (tf_ne hc0 ha0 (by decide)))
  refine lv_iload_n hx hb dX10_image_5 rfl (lv_at hl 1 rfl) ?_
  refine tf_i2l hx hb ⟨by omega, by omega⟩ dX10_image_6 ?_
  refine tf_lconst (z := 0) hx hb dX10_image_7 (by decide) ?_
  refine tf_lconst (z := 1) hx hb dX10_image_8 (by decide) ?_
  refine tf_calli (va_runS (As := [.long (Int64.ofInt x1), .long (Int64.ofInt 0), .long (Int64.ofInt 1)]) (rest := []) ⟨hx, hb, hml, hown, hts⟩ (c_X10_in l g T (x1) ⟨by omega, by omega⟩ (0) ⟨by omega, by omega⟩ (1) ⟨by omega, by omega⟩) ⟨callB_of 3 hts (gw_ws cm_X10_in) rfl rfl rfl (hts _ (tw1 (i := 5) rfl)) (hts _ (tw11 (i := 3) rfl)) hd_X10_in.2 ⟨Nat.le_trans (by decide) hR1, Nat.le_trans (by decide) hR2⟩, hts _ (tw11 (i := 4) rfl)⟩ (tf_preS hk hW trivial) rfl rfl hl.1 rfl (lv_room (Nat.le_of_ble_eq_true rfl)) dX10_image_9 ⟨Nat.zero_le _, Nat.zero_le _⟩) hW (by decide) (fun z28 H28 locs28 hW hF28 hp28 => ?_)
  have hs29 := tf_keepF hF28 ha0 rfl rfl (by decide) hs24
  have hs30 := tf_keepC hF28 hb0 rfl (by decide) hs25
  have hs31 := tf_keepF hF28 ha0 rfl rfl (by decide) hs26
  have hs32 := tf_keepC hF28 hc0 rfl (by decide) hs27
  rcases hp28 with ⟨rfl, h33, h34⟩ | ⟨rfl, h35⟩
  · refine tf_if_ne (tgt := 21) hx hb ⟨by decide, by decide⟩ dX10_image_12 (by decide) (fun h36 => ?_) (fun h36 => ?_)
    · have hZ := tf_zz_in hW c0
      have hW := tf_weak hW
      refine tf_iconst hx hb dX10_image_21 ?_
      refine lv_istore_n (lv' := [(2, .int (Int32.ofInt 0)), (0, .ref a0), (1, .int (Int32.ofInt x1))]) hx hb dX10_image_22 rfl hl (by decide) rfl (fun ls hl => ?_)
      exact j_23 ((5830 - 0 + 1 : Int)).toNat ⟨by omega, by omega⟩ (0) ⟨by omega, by omega⟩ q0 (by first | exact tf_im_st hRIMS_23 er18 (by omega) | exact fun j => by rw [if_neg (by omega)]) (by omega) _ _ hW hs29 hs30 hs31 hs32 hZ _ (lv_sub hl [1, 2, 0] rfl)
    · exfalso; omega
  · refine tf_if_ne (tgt := 21) hx hb ⟨by decide, by decide⟩ dX10_image_12 (by decide) (fun h37 => ?_) (fun h37 => ?_)
    · exfalso; omega
    · refine lv_aload_n hx hb dX10_image_15 rfl (lv_at hl 0 rfl) ?_
      refine tf_iconst hx hb dX10_image_16 ?_
      refine tf_calli (va_runV (As := [.int (Int32.ofInt ((-1)))]) (rest := []) ⟨hx, hb, hml, hown, hts⟩ (c_X10_tell l g T a0 ha0 ((-1)) ⟨by omega, by omega⟩) (cwV 1 hts gv_X10_117 rfl rfl rfl hd_X10_tell ⟨Nat.le_trans (by decide) hR1, Nat.le_trans (by decide) hR2⟩) (tf_preV hk hW ha0 (ci := 10) rfl rfl trivial) rfl rfl hl.1 rfl (lv_room (Nat.le_of_ble_eq_true rfl)) dX10_image_17 ⟨Nat.zero_le _, Nat.zero_le _⟩) hW (by decide) (fun z38 H38 locs38 hW hF38 hp38 => ?_)
      have hs39 := tf_keepF hF38 ha0 rfl rfl (by decide) hs29
      have hs40 := tf_keepC hF38 hb0 rfl (by decide) hs30
      have hs41 := tf_keepF hF38 ha0 rfl rfl (by decide) hs31
      have hs42 := tf_keepC hF38 hc0 rfl (by decide) hs32
      obtain ⟨hp38_0, hp38_1, hp38_2⟩ := hp38
      exact tf_reti (z := z38) hx hb hr hlocks hQ hW (show ((z38) = 0 ∧ 0 ≤ x1 ∧ x1 ≤ 1) ∨ ((z38) = (-1) ∧ (x1 < 0 ∨ 1 < x1)) by omega) dX10_image_20

abbrev M_X10_back : List (Nat × Nat) := [(27, 0), (28, 0), (50, 0), (50, 1)]
set_option maxHeartbeats 4000000 in
set_option maxRecDepth 100000 in
theorem c_X10_back (l : Launch) (g : tf_G) (T : tf_T) (a0 : Nat) (ha0 : T a0 = some (50, 0)) (x1 : Int) (hp1 : (-2147483648) ≤ x1 ∧ x1 ≤ 2147483647) : Met l yX10_back (cd_X10_back :: wsL_law) ({ frames := 2, cells := 0, slots := 0, locals := 49 }) (tf_P g T [.ref a0, .int (Int32.ofInt x1)] (fun H => True)) (tf_Qi g M_X10_back T (fun z _ _ => (-2147483648) ≤ z ∧ z ≤ 2147483647)) 0 0 (fun q => tf_B g ≤ q) := by
  refine Met.ofW (cc := cX10_back) (maxL := 3) (ret := (some .int)) (by decide) rfl ?_
  intro p e s m args below meth c s₁ B hml hv
  obtain ⟨hargs, hk, hW0, hB, hpre⟩ := hv
  have hx := B.exec
  have hb := B.bytes
  have hr := B.returns
  have hts : ∀ w ∈ wsL_law, w.before args s = true := fun w h => atoms_spec (ws := cd_X10_back :: wsL_law) B.pre w (List.mem_cons_of_mem _ h)
  have hown : s.vm.findClass RX10 = some m.cls := findClass_of_methodNamed B.named
  have hlocks := B.notSynchronized
  have hK := hk.1
  have hW := tf_n.start (M := M_X10_back) hW0 hB
  obtain ⟨Q, hQ⟩ : ∃ q, q = MQ below (tf_Qi g M_X10_back T (fun z _ _ => (-2147483648) ≤ z ∧ z ≤ 2147483647)) args s 0 0 (fun q => tf_B g ≤ q) := ⟨_, rfl⟩
  rw [← hQ]
  obtain ⟨R, hR⟩ : ∃ q, q = (headSpec (cd_X10_back :: wsL_law) ({ frames := 2, cells := 0, slots := 0, locals := 49 })).room := ⟨_, rfl⟩
  rw [← hR]
  have hR1 : 2 ≤ R.frames := by rw [hR]; exact Nat.le_refl _
  have hR2 : 49 ≤ R.locals := by rw [hR]; exact Nat.le_refl _
  have hR3 : 0 ≤ R.cells := by rw [hR]; exact Nat.le_refl _
  have hR4 : 0 ≤ R.slots := by rw [hR]; exact Nat.le_refl _
  have hin := (name_of_methodNamed B.named B.method).1
  clear hR B
  obtain ⟨vb0, hfb0, hokb0⟩ := tf_peek hW ha0 (ci := 10) rfl 3 rfl
  obtain ⟨b0, rfl, hb0⟩ := tf_v1 hokb0
  obtain ⟨r0, hr0⟩ := tf_rname hW b0
  have hror0 : tf_RO r0 := hr0 ▸ tf_ROof hW hb0
  obtain ⟨vc0, hfc0, hokc0⟩ := tf_peek hW ha0 (ci := 10) rfl 4 rfl
  obtain ⟨c0, rfl, hc0⟩ := tf_v1 hokc0
  obtain ⟨q0, hq0⟩ := tf_rname hW c0
  have himq0 : tf_RO q0 ∧ tf_RO (fun j => q0 (5830 + j)) := hq0 ▸ tf_IMof hW hc0
  have j_39 : ∀ (n_39 : Nat), 0 ≤ x1 ∧ x1 ≤ 1 → ∀ (x2_39 : Int), 0 ≤ x2_39 ∧ x2_39 ≤ 5830 → ∀ (rROW_39 : Int → Int), (tf_bk r0 q0 x1 x2_39 rROW_39) → (5830 - x2_39 + 1 ≤ (n_39 : Int)) → ∀ (H : Heap) (locs : List Loc), tf_n tf_ktw g M_X10_back T s.heap T H locs → tf_s H a0 (g.1.2 10 3) = some (.ref b0) → tf_rw H b0 = rROW_39 → tf_s H a0 (g.1.2 10 4) = some (.ref c0) → tf_rw H c0 = q0 → tf_zz g T b0 H → ∀ (ls : Array Slot), lv_has ls 3 [(0, .ref a0), (1, .int (Int32.ofInt x1)), (2, .int (Int32.ofInt x2_39))] → W p l e R s m args below meth c H locs 0 0 Q (F0 m 39 ls []) := by
    intro n_39
    induction n_39 with
    | zero =>
      intro hx1_39 x2_39 hx2_39 rROW_39 hRROW_39 hm_39
      exfalso; omega
    | succ n_39 ih_39 =>
      intro hx1_39 x2_39 hx2_39 rROW_39 hRROW_39 hm_39 H locs hW hs3_39 hcROW_39 hs4_39 hcIMS_39 hZ ls hl
      refine lv_iload_n hx hb dX10_back_39 rfl (lv_at hl 2 rfl) ?_
      refine tf_sipush hx hb dX10_back_40 (by decide) ?_
      refine tf_icmp_ge (tgt := 70) hx hb ⟨by omega, by omega⟩ ⟨by decide, by decide⟩ dX10_back_43 (by decide) (fun h1 => ?_) (fun h1 => ?_)
      · have hW := tf_strongR hW hZ hb0 (by rw [hcROW_39]; exact tf_bk_end hRROW_39 himq0 (by omega) (by omega))
        refine lv_aload_n hx hb dX10_back_70 rfl (lv_at hl 0 rfl) ?_
        refine tf_iconst hx hb dX10_back_71 ?_
        refine tf_calli (va_runV (As := [.int (Int32.ofInt 0)]) (rest := []) ⟨hx, hb, hml, hown, hts⟩ (c_X10_tell l g T a0 ha0 (0) ⟨by omega, by omega⟩) (cwV 1 hts gv_X10_117 rfl rfl rfl hd_X10_tell ⟨Nat.le_trans (by decide) hR1, Nat.le_trans (by decide) hR2⟩) (tf_preV hk hW ha0 (ci := 10) rfl rfl trivial) rfl rfl hl.1 rfl (lv_room (Nat.le_of_ble_eq_true rfl)) dX10_back_72 ⟨Nat.zero_le _, Nat.zero_le _⟩) hW (by decide) (fun z2 H2 locs2 hW hF2 hp2 => ?_)
        have hs3 := tf_keepF hF2 ha0 rfl rfl (by decide) hs3_39
        have hs4 := tf_keepC hF2 hb0 rfl (by decide) hcROW_39
        have hs5 := tf_keepF hF2 ha0 rfl rfl (by decide) hs4_39
        have hs6 := tf_keepC hF2 hc0 rfl (by decide) hcIMS_39
        obtain ⟨hp2_0, hp2_1, hp2_2⟩ := hp2
        exact tf_reti (z := z2) hx hb hr hlocks hQ hW (show (-2147483648) ≤ (z2) ∧ (z2) ≤ 2147483647 by omega) dX10_back_75
      · refine lv_aload_n hx hb dX10_back_46 rfl (lv_at hl 0 rfl) ?_
        refine tf_get hx hb hts inlX10 hown hK (ci := 10) rfl hW ha0 rfl 3 rfl (by decide) (hts _ fl_X10_13) dX10_back_47 (fun v7 hv7 hsv7 => ?_)
        obtain rfl : v7 = .ref b0 := Option.some.inj (hsv7.symm.trans hs3_39)
        refine lv_iload_n hx hb dX10_back_50 rfl (lv_at hl 2 rfl) ?_
        refine lv_aload_n hx hb dX10_back_51 rfl (lv_at hl 0 rfl) ?_
        refine tf_get hx hb hts inlX10 hown hK (ci := 10) rfl hW ha0 rfl 4 rfl (by decide) (hts _ fl_X10_16) dX10_back_52 (fun v8 hv8 hsv8 => ?_)
        obtain rfl : v8 = .ref c0 := Option.some.inj (hsv8.symm.trans hs4_39)
        refine tf_sipush hx hb dX10_back_55 (by decide) ?_
        refine lv_iload_n hx hb dX10_back_58 rfl (lv_at hl 1 rfl) ?_
        refine tf_imul hx hb dX10_back_59 ?_
        refine lv_iload_n hx hb dX10_back_60 rfl (lv_at hl 2 rfl) ?_
        refine tf_iadd hx hb dX10_back_61 ?_
        refine tf_iald (t0 := 0) hx hb hK hW hc0 rfl rfl (by omega) (by omega) dX10_back_62 (fun v9 hv9 hsv9 => ?_)
        obtain ⟨z10, rfl, hz10⟩ := tf_v0 hv9
        have er11 : q0 ((5830 * x1) + x2_39) = z10 := hcIMS_39 ▸ tf_rw_of (by omega) hsv9 ⟨by omega, by omega⟩
        refine tf_rwst (t0 := 0) hx hb hK hW hb0 rfl rfl (by omega) (by omega) (by decide) (tf_u0 (by omega) (by omega)) ⟨by omega, by omega⟩ trivial dX10_back_63 (fun H12 locs12 hW hu12 hq12 => ?_)
        have hZ := tf_zz_st hZ hq12
        have hs13 := tf_keepQ hs3_39 (hq12 _ (tf_ne ha0 hb0 (by decide)))
        have hs14 := tf_keepQ hs4_39 (hq12 _ (tf_ne ha0 hb0 (by decide)))
        have hs15 := tf_keepCQ hcIMS_39 (hq12 _ (tf_ne hc0 hb0 (by decide)))
        have hu12 := hu12.trans (congrArg (fun w => tf_up w (x2_39) (z10)) hcROW_39)
        refine lv_iinc (v := Int32.ofInt ((x2_39 + 1))) (lv' := [(2, .int (Int32.ofInt ((x2_39 + 1)))), (0, .ref a0), (1, .int (Int32.ofInt x1))]) hx hb dX10_back_64 hl (k := 2) rfl (Int32.ofInt_add _ _).symm (by decide) rfl (fun ls hl => ?_)
        refine lv_goto (tgt := 39) hx hb dX10_back_67 (by decide) ?_
        exact ih_39 ⟨by omega, by omega⟩ ((x2_39 + 1)) ⟨by omega, by omega⟩ (tf_up rROW_39 (x2_39) (z10)) (by first | exact tf_bk_st hRROW_39 er11 (by omega) | exact fun j => by rw [if_neg (by omega)]) (by omega) _ _ hW hs13 hu12 hs14 hs15 hZ _ (lv_sub hl [1, 2, 0] rfl)
  refine tf_enter (As := [.ref a0, .int (Int32.ofInt x1)]) hargs (Nat.le_of_ble_eq_true rfl) (fun ls hl => ?_)
  have hl : lv_has ls 3 [(0, .ref a0), (1, .int (Int32.ofInt x1))] := hl
  refine lv_aload_n hx hb dX10_back_0 rfl (lv_at hl 0 rfl) ?_
  refine tf_iconst hx hb dX10_back_1 ?_
  refine tf_put hx hb hts inlX10 tyX10 tyX10_ok nmX10 hown hK (ci := 10) rfl hW ha0 rfl rfl 0 rfl (by decide) (by decide) (hts _ fl_X10_103) rfl (tf_u0 (by omega) (by omega)) rfl rfl dX10_back_2 (fun H16 locs16 hW hs16 ht16 hq16 => ?_)
  have hs17 := (ht16 3 (by decide) (by decide)).trans hfb0
  have hs18 := tf_keepCQ hr0 (hq16 _ (tf_ne hb0 ha0 (by decide)))
  have hs19 := (ht16 4 (by decide) (by decide)).trans hfc0
  have hs20 := tf_keepCQ hq0 (hq16 _ (tf_ne hc0 ha0 (by decide)))
  refine lv_iload_n hx hb dX10_back_5 rfl (lv_at hl 1 rfl) ?_
  refine tf_i2l hx hb ⟨by omega, by omega⟩ dX10_back_6 ?_
  refine tf_lconst (z := 0) hx hb dX10_back_7 (by decide) ?_
  refine tf_lconst (z := 1) hx hb dX10_back_8 (by decide) ?_
  refine tf_calli (va_runS (As := [.long (Int64.ofInt x1), .long (Int64.ofInt 0), .long (Int64.ofInt 1)]) (rest := []) ⟨hx, hb, hml, hown, hts⟩ (c_X10_in l g T (x1) ⟨by omega, by omega⟩ (0) ⟨by omega, by omega⟩ (1) ⟨by omega, by omega⟩) ⟨callB_of 3 hts (gw_ws cm_X10_in) rfl rfl rfl (hts _ (tw1 (i := 5) rfl)) (hts _ (tw11 (i := 3) rfl)) hd_X10_in.2 ⟨Nat.le_trans (by decide) hR1, Nat.le_trans (by decide) hR2⟩, hts _ (tw11 (i := 4) rfl)⟩ (tf_preS hk hW trivial) rfl rfl hl.1 rfl (lv_room (Nat.le_of_ble_eq_true rfl)) dX10_back_9 ⟨Nat.zero_le _, Nat.zero_le _⟩) hW (by decide) (fun z21 H21 locs21 hW hF21 hp21 => ?_)
  have hs22 := tf_keepF hF21 ha0 rfl rfl (by decide) hs17
  have hs23 := tf_keepC hF21 hb0 rfl (by decide) hs18
  have hs24 := tf_keepF hF21 ha0 rfl rfl (by decide) hs19
  have hs25 := tf_keepC hF21 hc0 rfl (by decide) hs20
  rcases hp21 with ⟨rfl, h26, h27⟩ | ⟨rfl, h28⟩
  · refine tf_if_ne (tgt := 21) hx hb ⟨by decide, by decide⟩ dX10_back_12 (by decide) (fun h29 => ?_) (fun h29 => ?_)
    · refine lv_aload_n hx hb dX10_back_21 rfl (lv_at hl 0 rfl) ?_
      refine tf_get hx hb hts inlX10 hown hK (ci := 10) rfl hW ha0 rfl 5 rfl (by decide) (hts _ fl_X10_19) dX10_back_22 (fun v30 hv30 hsv30 => ?_)
      obtain ⟨ad31, rfl, had31⟩ := tf_v1 hv30
      refine lv_iload_n hx hb dX10_back_25 rfl (lv_at hl 1 rfl) ?_
      refine tf_zald (t0 := 2) hx hb hK hW had31 rfl rfl (by omega) (by omega) dX10_back_26 (fun v32 hv32 hsv32 => ?_)
      obtain ⟨z33, rfl, hz33⟩ := tf_v0 hv32
      refine tf_if_ne (tgt := 37) hx hb ⟨by omega, by omega⟩ dX10_back_27 (by decide) (fun h34 => ?_) (fun h34 => ?_)
      · have hZ := tf_zz_in hW b0
        have hW := tf_weak hW
        refine tf_iconst hx hb dX10_back_37 ?_
        refine lv_istore_n (lv' := [(2, .int (Int32.ofInt 0)), (0, .ref a0), (1, .int (Int32.ofInt x1))]) hx hb dX10_back_38 rfl hl (by decide) rfl (fun ls hl => ?_)
        exact j_39 ((5830 - 0 + 1 : Int)).toNat ⟨by omega, by omega⟩ (0) ⟨by omega, by omega⟩ r0 (by first | exact tf_bk_st hRROW_39 er11 (by omega) | exact fun j => by rw [if_neg (by omega)]) (by omega) _ _ hW hs22 hs23 hs24 hs25 hZ _ (lv_sub hl [1, 2, 0] rfl)
      · refine lv_aload_n hx hb dX10_back_30 rfl (lv_at hl 0 rfl) ?_
        refine tf_bipush hx hb dX10_back_31 (by decide) ?_
        refine tf_calli (va_runV (As := [.int (Int32.ofInt ((-2)))]) (rest := []) ⟨hx, hb, hml, hown, hts⟩ (c_X10_tell l g T a0 ha0 ((-2)) ⟨by omega, by omega⟩) (cwV 1 hts gv_X10_117 rfl rfl rfl hd_X10_tell ⟨Nat.le_trans (by decide) hR1, Nat.le_trans (by decide) hR2⟩) (tf_preV hk hW ha0 (ci := 10) rfl rfl trivial) rfl rfl hl.1 rfl (lv_room (Nat.le_of_ble_eq_true rfl)) dX10_back_33 ⟨Nat.zero_le _, Nat.zero_le _⟩) hW (by decide) (fun z35 H35 locs35 hW hF35 hp35 => ?_)
        have hs36 := tf_keepF hF35 ha0 rfl rfl (by decide) hs22
        have hs37 := tf_keepC hF35 hb0 rfl (by decide) hs23
        have hs38 := tf_keepF hF35 ha0 rfl rfl (by decide) hs24
        have hs39 := tf_keepC hF35 hc0 rfl (by decide) hs25
        obtain ⟨hp35_0, hp35_1, hp35_2⟩ := hp35
        exact tf_reti (z := z35) hx hb hr hlocks hQ hW (show (-2147483648) ≤ (z35) ∧ (z35) ≤ 2147483647 by omega) dX10_back_36
    · exfalso; omega
  · refine tf_if_ne (tgt := 21) hx hb ⟨by decide, by decide⟩ dX10_back_12 (by decide) (fun h40 => ?_) (fun h40 => ?_)
    · exfalso; omega
    · refine lv_aload_n hx hb dX10_back_15 rfl (lv_at hl 0 rfl) ?_
      refine tf_iconst hx hb dX10_back_16 ?_
      refine tf_calli (va_runV (As := [.int (Int32.ofInt ((-1)))]) (rest := []) ⟨hx, hb, hml, hown, hts⟩ (c_X10_tell l g T a0 ha0 ((-1)) ⟨by omega, by omega⟩) (cwV 1 hts gv_X10_117 rfl rfl rfl hd_X10_tell ⟨Nat.le_trans (by decide) hR1, Nat.le_trans (by decide) hR2⟩) (tf_preV hk hW ha0 (ci := 10) rfl rfl trivial) rfl rfl hl.1 rfl (lv_room (Nat.le_of_ble_eq_true rfl)) dX10_back_17 ⟨Nat.zero_le _, Nat.zero_le _⟩) hW (by decide) (fun z41 H41 locs41 hW hF41 hp41 => ?_)
      have hs42 := tf_keepF hF41 ha0 rfl rfl (by decide) hs22
      have hs43 := tf_keepC hF41 hb0 rfl (by decide) hs23
      have hs44 := tf_keepF hF41 ha0 rfl rfl (by decide) hs24
      have hs45 := tf_keepC hF41 hc0 rfl (by decide) hs25
      obtain ⟨hp41_0, hp41_1, hp41_2⟩ := hp41
      exact tf_reti (z := z41) hx hb hr hlocks hQ hW (show (-2147483648) ≤ (z41) ∧ (z41) ≤ 2147483647 by omega) dX10_back_20

abbrev M_X10_force : List (Nat × Nat) := [(27, 0), (28, 0), (50, 0), (50, 1)]
set_option maxHeartbeats 4000000 in
set_option maxRecDepth 100000 in
theorem c_X10_force (l : Launch) (g : tf_G) (T : tf_T) (a0 : Nat) (ha0 : T a0 = some (50, 0)) (x1 : Int) (hp1 : (-2147483648) ≤ x1 ∧ x1 ≤ 2147483647) : Met l yX10_force (cd_X10_force :: wsL_law) ({ frames := 3, cells := 0, slots := 0, locals := 68 }) (tf_P g T [.ref a0, .int (Int32.ofInt x1)] (fun H => True)) (tf_Qi g M_X10_force T (fun z _ _ => (-2147483648) ≤ z ∧ z ≤ 2147483647)) 0 0 (fun q => tf_B g ≤ q) := by
  refine Met.ofW (cc := cX10_force) (maxL := 2) (ret := (some .int)) (by decide) rfl ?_
  intro p e s m args below meth c s₁ B hml hv
  obtain ⟨hargs, hk, hW0, hB, hpre⟩ := hv
  have hx := B.exec
  have hb := B.bytes
  have hr := B.returns
  have hts : ∀ w ∈ wsL_law, w.before args s = true := fun w h => atoms_spec (ws := cd_X10_force :: wsL_law) B.pre w (List.mem_cons_of_mem _ h)
  have hown : s.vm.findClass RX10 = some m.cls := findClass_of_methodNamed B.named
  have hlocks := B.notSynchronized
  have hK := hk.1
  have hW := tf_n.start (M := M_X10_force) hW0 hB
  obtain ⟨Q, hQ⟩ : ∃ q, q = MQ below (tf_Qi g M_X10_force T (fun z _ _ => (-2147483648) ≤ z ∧ z ≤ 2147483647)) args s 0 0 (fun q => tf_B g ≤ q) := ⟨_, rfl⟩
  rw [← hQ]
  obtain ⟨R, hR⟩ : ∃ q, q = (headSpec (cd_X10_force :: wsL_law) ({ frames := 3, cells := 0, slots := 0, locals := 68 })).room := ⟨_, rfl⟩
  rw [← hR]
  have hR1 : 3 ≤ R.frames := by rw [hR]; exact Nat.le_refl _
  have hR2 : 68 ≤ R.locals := by rw [hR]; exact Nat.le_refl _
  have hR3 : 0 ≤ R.cells := by rw [hR]; exact Nat.le_refl _
  have hR4 : 0 ≤ R.slots := by rw [hR]; exact Nat.le_refl _
  have hin := (name_of_methodNamed B.named B.method).1
  clear hR B
  have j_28 : (-1) ≤ x1 ∧ x1 ≤ 5 → ∀ (H : Heap) (locs : List Loc), tf_n tf_kt g M_X10_force T s.heap T H locs → ∀ (ls : Array Slot), lv_has ls 2 [(0, .ref a0), (1, .int (Int32.ofInt x1))] → W p l e R s m args below meth c H locs 0 0 Q (F0 m 28 ls []) := by
    intro hx1_28 H locs hW  ls hl
    refine lv_aload_n hx hb dX10_force_28 rfl (lv_at hl 0 rfl) ?_
    refine tf_iconst hx hb dX10_force_29 ?_
    refine lv_iload_n hx hb dX10_force_30 rfl (lv_at hl 1 rfl) ?_
    refine tf_calli (va_runV (As := [.int (Int32.ofInt 2), .int (Int32.ofInt x1)]) (rest := []) ⟨hx, hb, hml, hown, hts⟩ (c_X10_change l g T a0 ha0 (2) ⟨by omega, by omega⟩ (x1) ⟨by omega, by omega⟩ (by omega)) (cwV 2 hts gv_X10_168 rfl rfl rfl hd_X10_change ⟨Nat.le_trans (by decide) hR1, Nat.le_trans (by decide) hR2⟩) (tf_preV hk hW ha0 (ci := 10) rfl rfl trivial) rfl rfl hl.1 rfl (lv_room (Nat.le_of_ble_eq_true rfl)) dX10_force_31 ⟨Nat.zero_le _, Nat.zero_le _⟩) hW (by decide) (fun z1 H1 locs1 hW hF1 hp1 => ?_)
    obtain ⟨hp1_0, hp1_1⟩ := hp1
    refine lv_goto (tgt := 43) hx hb dX10_force_34 (by decide) ?_
    exact tf_reti (z := z1) hx hb hr hlocks hQ hW (show (-2147483648) ≤ (z1) ∧ (z1) ≤ 2147483647 by omega) dX10_force_43
  refine tf_enter (As := [.ref a0, .int (Int32.ofInt x1)]) hargs (Nat.le_of_ble_eq_true rfl) (fun ls hl => ?_)
  have hl : lv_has ls 2 [(0, .ref a0), (1, .int (Int32.ofInt x1))] := hl
  refine lv_aload_n hx hb dX10_force_0 rfl (lv_at hl 0 rfl) ?_
  refine tf_iconst hx hb dX10_force_1 ?_
  refine tf_put hx hb hts inlX10 tyX10 tyX10_ok nmX10 hown hK (ci := 10) rfl hW ha0 rfl rfl 0 rfl (by decide) (by decide) (hts _ fl_X10_103) rfl (tf_u0 (by omega) (by omega)) rfl rfl dX10_force_2 (fun H2 locs2 hW hs2 ht2 hq2 => ?_)
  refine lv_iload_n hx hb dX10_force_5 rfl (lv_at hl 1 rfl) ?_
  refine tf_iconst hx hb dX10_force_6 ?_
  refine tf_icmp_eq (tgt := 28) hx hb ⟨by omega, by omega⟩ ⟨by decide, by decide⟩ dX10_force_7 (by decide) (fun h3 => ?_) (fun h3 => ?_)
  · exact j_28 ⟨by omega, by omega⟩ _ _ hW  _ (lv_sub hl [0, 1] rfl)
  · refine lv_iload_n hx hb dX10_force_10 rfl (lv_at hl 1 rfl) ?_
    refine tf_i2l hx hb ⟨by omega, by omega⟩ dX10_force_11 ?_
    refine tf_lconst (z := 0) hx hb dX10_force_12 (by decide) ?_
    refine lv_aload_n hx hb dX10_force_13 rfl (lv_at hl 0 rfl) ?_
    refine tf_get hx hb hts inlX10 hown hK (ci := 10) rfl hW ha0 rfl 3 rfl (by decide) (hts _ fl_X10_13) dX10_force_14 (fun v4 hv4 hsv4 => ?_)
    obtain ⟨ad5, rfl, had5⟩ := tf_v1 hv4
    refine tf_iconst hx hb dX10_force_17 ?_
    refine tf_iald (t0 := 0) hx hb hK hW had5 rfl rfl (by omega) (by omega) dX10_force_18 (fun v6 hv6 hsv6 => ?_)
    obtain ⟨z7, rfl, hz7⟩ := tf_v0 hv6
    have hg8 := tf_rd1 (tf_ROof hW had5) hsv6 ⟨by omega, by omega⟩ (by omega)
    refine tf_i2l hx hb ⟨by omega, by omega⟩ dX10_force_19 ?_
    refine tf_lconst (z := 1) hx hb dX10_force_20 (by decide) ?_
    refine tf_lsub hx hb dX10_force_21 ?_
    refine tf_calli (va_runS (As := [.long (Int64.ofInt x1), .long (Int64.ofInt 0), .long (Int64.ofInt ((z7 - 1)))]) (rest := []) ⟨hx, hb, hml, hown, hts⟩ (c_X10_in l g T (x1) ⟨by omega, by omega⟩ (0) ⟨by omega, by omega⟩ ((z7 - 1)) ⟨by omega, by omega⟩) ⟨callB_of 3 hts (gw_ws cm_X10_in) rfl rfl rfl (hts _ (tw1 (i := 5) rfl)) (hts _ (tw11 (i := 3) rfl)) hd_X10_in.2 ⟨Nat.le_trans (by decide) hR1, Nat.le_trans (by decide) hR2⟩, hts _ (tw11 (i := 4) rfl)⟩ (tf_preS hk hW trivial) rfl rfl hl.1 rfl (lv_room (Nat.le_of_ble_eq_true rfl)) dX10_force_22 ⟨Nat.zero_le _, Nat.zero_le _⟩) hW (by decide) (fun z9 H9 locs9 hW hF9 hp9 => ?_)
    rcases hp9 with ⟨rfl, h10, h11⟩ | ⟨rfl, h12⟩
    · refine tf_if_eq (tgt := 37) hx hb ⟨by decide, by decide⟩ dX10_force_25 (by decide) (fun h13 => ?_) (fun h13 => ?_)
      · exfalso; omega
      · exact j_28 ⟨by omega, by omega⟩ _ _ hW  _ (lv_sub hl [0, 1] rfl)
    · refine tf_if_eq (tgt := 37) hx hb ⟨by decide, by decide⟩ dX10_force_25 (by decide) (fun h14 => ?_) (fun h14 => ?_)
      · refine lv_aload_n hx hb dX10_force_37 rfl (lv_at hl 0 rfl) ?_
        refine tf_bipush hx hb dX10_force_38 (by decide) ?_
        refine tf_calli (va_runV (As := [.int (Int32.ofInt ((-2)))]) (rest := []) ⟨hx, hb, hml, hown, hts⟩ (c_X10_tell l g T a0 ha0 ((-2)) ⟨by omega, by omega⟩) (cwV 1 hts gv_X10_117 rfl rfl rfl hd_X10_tell ⟨Nat.le_trans (by decide) hR1, Nat.le_trans (by decide) hR2⟩) (tf_preV hk hW ha0 (ci := 10) rfl rfl trivial) rfl rfl hl.1 rfl (lv_room (Nat.le_of_ble_eq_true rfl)) dX10_force_40 ⟨Nat.zero_le _, Nat.zero_le _⟩) hW (by decide) (fun z15 H15 locs15 hW hF15 hp15 => ?_)
        obtain ⟨hp15_0, hp15_1, hp15_2⟩ := hp15
        exact tf_reti (z := z15) hx hb hr hlocks hQ hW (show (-2147483648) ≤ (z15) ∧ (z15) ≤ 2147483647 by omega) dX10_force_43
      · exfalso; omega

abbrev M_X10_day : List (Nat × Nat) := [(27, 0), (38, 0), (39, 0), (40, 0), (41, 0), (42, 0), (43, 0), (44, 0), (49, 0), (50, 0), (50, 1), (50, 26), (50, 29), (50, 30), (50, 31), (50, 37), (50, 38), (50, 39), (50, 40), (50, 41), (50, 42), (50, 48), (50, 49)]
set_option maxHeartbeats 4000000 in
set_option maxRecDepth 100000 in
theorem c_X10_day (l : Launch) (g : tf_G) (T : tf_T) (a0 : Nat) (ha0 : T a0 = some (50, 0)) (x1 : Int) (hp1 : (-2147483648) ≤ x1 ∧ x1 ≤ 2147483647) : Met l yX10_day (cd_X10_day :: wsL_law) ({ frames := 6, cells := 0, slots := 0, locals := 154 }) (tf_P g T [.ref a0, .int (Int32.ofInt x1)] (fun H => True)) (tf_Qi g M_X10_day T (fun z _ _ => (-2147483648) ≤ z ∧ z ≤ 2147483647)) 0 0 (fun q => tf_B g ≤ q) := by
  refine Met.ofW (cc := cX10_day) (maxL := 9) (ret := (some .int)) (by decide) rfl ?_
  intro p e s m args below meth c s₁ B hml hv
  obtain ⟨hargs, hk, hW0, hB, hpre⟩ := hv
  have hx := B.exec
  have hb := B.bytes
  have hr := B.returns
  have hts : ∀ w ∈ wsL_law, w.before args s = true := fun w h => atoms_spec (ws := cd_X10_day :: wsL_law) B.pre w (List.mem_cons_of_mem _ h)
  have hown : s.vm.findClass RX10 = some m.cls := findClass_of_methodNamed B.named
  have hlocks := B.notSynchronized
  have hK := hk.1
  have hW := tf_n.start (M := M_X10_day) hW0 hB
  obtain ⟨Q, hQ⟩ : ∃ q, q = MQ below (tf_Qi g M_X10_day T (fun z _ _ => (-2147483648) ≤ z ∧ z ≤ 2147483647)) args s 0 0 (fun q => tf_B g ≤ q) := ⟨_, rfl⟩
  rw [← hQ]
  obtain ⟨R, hR⟩ : ∃ q, q = (headSpec (cd_X10_day :: wsL_law) ({ frames := 6, cells := 0, slots := 0, locals := 154 })).room := ⟨_, rfl⟩
  rw [← hR]
  have hR1 : 6 ≤ R.frames := by rw [hR]; exact Nat.le_refl _
  have hR2 : 154 ≤ R.locals := by rw [hR]; exact Nat.le_refl _
  have hR3 : 0 ≤ R.cells := by rw [hR]; exact Nat.le_refl _
  have hR4 : 0 ≤ R.slots := by rw [hR]; exact Nat.le_refl _
  have hin := (name_of_methodNamed B.named B.method).1
  clear hR B
  obtain ⟨vb0, hfb0, hokb0⟩ := tf_peek hW ha0 (ci := 10) rfl 3 rfl
  obtain ⟨b0, rfl, hb0⟩ := tf_v1 hokb0
  obtain ⟨r0, hr0⟩ := tf_rname hW b0
  have hror0 : tf_RO r0 := hr0 ▸ tf_ROof hW hb0
  have j_54 : ∀ (n_54 : Nat), ∀ (x2_54 : Int), 1 ≤ x2_54 ∧ x2_54 ≤ 39960 → ∀ (x3_54 : Int), 0 ≤ x3_54 ∧ x3_54 ≤ 24 → ∀ (x4_54 : Int), 0 ≤ x4_54 ∧ x4_54 ≤ 24 → ∀ (f49_54 : Int), 0 ≤ f49_54 ∧ f49_54 ≤ 1000002 → (x2_54 = tf_Su r0 0) → (x3_54 ≤ x4_54) → (24 - x4_54 + 1 ≤ (n_54 : Int)) → ∀ (H : Heap) (locs : List Loc), tf_n tf_kt g M_X10_day T s.heap T H locs → tf_s H a0 (g.1.2 10 3) = some (.ref b0) → tf_rw H b0 = r0 → tf_s H a0 (g.1.2 10 49) = some (.long (Int64.ofInt f49_54)) → ∀ (ls : Array Slot), lv_has ls 9 [(0, .ref a0), (2, .int (Int32.ofInt x2_54)), (3, .int (Int32.ofInt x3_54)), (4, .int (Int32.ofInt x4_54))] → W p l e R s m args below meth c H locs 0 0 Q (F0 m 54 ls []) := by
    intro n_54
    induction n_54 with
    | zero =>
      intro x2_54 hx2_54 x3_54 hx3_54 x4_54 hx4_54 f49_54 hf49_54 hi0_54 hi1_54 hm_54
      exfalso; omega
    | succ n_54 ih_54 =>
      intro x2_54 hx2_54 x3_54 hx3_54 x4_54 hx4_54 f49_54 hf49_54 hi0_54 hi1_54 hm_54 H locs hW hs3_54 hcROW_54 hs49_54 ls hl
      have j_238 : 1 ≤ x2_54 ∧ x2_54 ≤ 39960 → 0 ≤ x4_54 ∧ x4_54 ≤ 23 → 0 ≤ x3_54 ∧ x3_54 ≤ 24 → ∀ (y1_238 : Int), 0 ≤ y1_238 ∧ y1_238 ≤ 1 → ∀ (f49_238 : Int), 0 ≤ f49_238 ∧ f49_238 ≤ 1000002 → ∀ (H : Heap) (locs : List Loc), tf_n tf_kt g M_X10_day T s.heap T H locs → tf_s H a0 (g.1.2 10 3) = some (.ref b0) → tf_rw H b0 = r0 → tf_s H a0 (g.1.2 10 49) = some (.long (Int64.ofInt f49_238)) → ∀ (ls : Array Slot), lv_has ls 9 [(0, .ref a0), (2, .int (Int32.ofInt x2_54)), (4, .int (Int32.ofInt x4_54))] → W p l e R s m args below meth c H locs 0 0 Q (F0 m 238 ls [.int (Int32.ofInt y1_238), .int (Int32.ofInt x3_54)]) := by
        intro hx2_238 hx4_238 hy0_238 y1_238 hy1_238 f49_238 hf49_238 H locs hW hs3_238 hcROW_238 hs49_238 ls hl
        refine tf_iadd hx hb dX10_day_238 ?_
        refine lv_istore_n (lv' := [(3, .int (Int32.ofInt ((x3_54 + y1_238)))), (0, .ref a0), (2, .int (Int32.ofInt x2_54)), (4, .int (Int32.ofInt x4_54))]) hx hb dX10_day_239 rfl hl (by decide) rfl (fun ls hl => ?_)
        refine lv_iinc (v := Int32.ofInt ((x4_54 + 1))) (lv' := [(4, .int (Int32.ofInt ((x4_54 + 1)))), (3, .int (Int32.ofInt ((x3_54 + y1_238)))), (0, .ref a0), (2, .int (Int32.ofInt x2_54))]) hx hb dX10_day_240 hl (k := 3) rfl (Int32.ofInt_add _ _).symm (by decide) rfl (fun ls hl => ?_)
        refine lv_goto (tgt := 54) hx hb dX10_day_243 (by decide) ?_
        exact ih_54 (x2_54) ⟨by omega, by omega⟩ ((x3_54 + y1_238)) ⟨by omega, by omega⟩ ((x4_54 + 1)) ⟨by omega, by omega⟩ (f49_238) ⟨by omega, by omega⟩ (by omega) (by omega) (by omega) _ _ hW hs3_238 hcROW_238 hs49_238 _ (lv_sub hl [2, 3, 1, 0] rfl)
      have j_227 : 1 ≤ x2_54 ∧ x2_54 ≤ 39960 → 0 ≤ x3_54 ∧ x3_54 ≤ 24 → 0 ≤ x4_54 ∧ x4_54 ≤ 23 → ∀ (x7_227 : Int), 0 ≤ x7_227 ∧ x7_227 ≤ 1 → ∀ (f49_227 : Int), 0 ≤ f49_227 ∧ f49_227 ≤ 1000002 → ∀ (H : Heap) (locs : List Loc), tf_n tf_kt g M_X10_day T s.heap T H locs → tf_s H a0 (g.1.2 10 3) = some (.ref b0) → tf_rw H b0 = r0 → tf_s H a0 (g.1.2 10 49) = some (.long (Int64.ofInt f49_227)) → ∀ (ls : Array Slot), lv_has ls 9 [(0, .ref a0), (2, .int (Int32.ofInt x2_54)), (3, .int (Int32.ofInt x3_54)), (4, .int (Int32.ofInt x4_54)), (7, .int (Int32.ofInt x7_227))] → W p l e R s m args below meth c H locs 0 0 Q (F0 m 227 ls []) := by
        intro hx2_227 hx3_227 hx4_227 x7_227 hx7_227 f49_227 hf49_227 H locs hW hs3_227 hcROW_227 hs49_227 ls hl
        refine lv_iload_n hx hb dX10_day_227 rfl (lv_at hl 2 rfl) ?_
        refine lv_iload hx hb dX10_day_228 (lv_at hl 4 rfl) ?_
        refine tf_if_eq (tgt := 237) hx hb ⟨by omega, by omega⟩ dX10_day_230 (by decide) (fun h1 => ?_) (fun h1 => ?_)
        · refine tf_iconst hx hb dX10_day_237 ?_
          exact j_238 ⟨by omega, by omega⟩ ⟨by omega, by omega⟩ ⟨by omega, by omega⟩ (0) ⟨by omega, by omega⟩ (f49_227) ⟨by omega, by omega⟩ _ _ hW hs3_227 hcROW_227 hs49_227 _ (lv_sub hl [0, 1, 3] rfl)
        · refine tf_iconst hx hb dX10_day_233 ?_
          refine lv_goto (tgt := 238) hx hb dX10_day_234 (by decide) ?_
          exact j_238 ⟨by omega, by omega⟩ ⟨by omega, by omega⟩ ⟨by omega, by omega⟩ (1) ⟨by omega, by omega⟩ (f49_227) ⟨by omega, by omega⟩ _ _ hW hs3_227 hcROW_227 hs49_227 _ (lv_sub hl [0, 1, 3] rfl)
      have j_147 : ∀ (n_147 : Nat), 1 ≤ x2_54 ∧ x2_54 ≤ 39960 → 0 ≤ x3_54 ∧ x3_54 ≤ 24 → 0 ≤ x4_54 ∧ x4_54 ≤ 23 → ∀ (x6_147 : Int), 0 ≤ x6_147 ∧ x6_147 ≤ 39 → ∀ (x7_147 : Int), 0 ≤ x7_147 ∧ x7_147 ≤ 1 → ∀ (x8_147 : Int), 0 ≤ x8_147 ∧ x8_147 ≤ 100 → ∀ (f49_147 : Int), 0 ≤ f49_147 ∧ f49_147 ≤ 1000002 → (100 - x8_147 + 1 ≤ (n_147 : Int)) → ∀ (H : Heap) (locs : List Loc), tf_n tf_kt g M_X10_day T s.heap T H locs → tf_s H a0 (g.1.2 10 3) = some (.ref b0) → tf_rw H b0 = r0 → tf_s H a0 (g.1.2 10 49) = some (.long (Int64.ofInt f49_147)) → ∀ (ls : Array Slot), lv_has ls 9 [(0, .ref a0), (2, .int (Int32.ofInt x2_54)), (3, .int (Int32.ofInt x3_54)), (4, .int (Int32.ofInt x4_54)), (6, .int (Int32.ofInt x6_147)), (7, .int (Int32.ofInt x7_147)), (8, .int (Int32.ofInt x8_147))] → W p l e R s m args below meth c H locs 0 0 Q (F0 m 147 ls []) := by
        intro n_147
        induction n_147 with
        | zero =>
          intro hx2_147 hx3_147 hx4_147 x6_147 hx6_147 x7_147 hx7_147 x8_147 hx8_147 f49_147 hf49_147 hm_147
          exfalso; omega
        | succ n_147 ih_147 =>
          intro hx2_147 hx3_147 hx4_147 x6_147 hx6_147 x7_147 hx7_147 x8_147 hx8_147 f49_147 hf49_147 hm_147 H locs hW hs3_147 hcROW_147 hs49_147 ls hl
          have j_219 : 1 ≤ x2_54 ∧ x2_54 ≤ 39960 → 0 ≤ x3_54 ∧ x3_54 ≤ 24 → 0 ≤ x4_54 ∧ x4_54 ≤ 23 → 0 ≤ x6_147 ∧ x6_147 ≤ 39 → 0 ≤ x8_147 ∧ x8_147 ≤ 99 → ∀ (y0_219 : Int), 0 ≤ y0_219 ∧ y0_219 ≤ 1 → ∀ (f49_219 : Int), 0 ≤ f49_219 ∧ f49_219 ≤ 1000002 → ∀ (H : Heap) (locs : List Loc), tf_n tf_kt g M_X10_day T s.heap T H locs → tf_s H a0 (g.1.2 10 3) = some (.ref b0) → tf_rw H b0 = r0 → tf_s H a0 (g.1.2 10 49) = some (.long (Int64.ofInt f49_219)) → ∀ (ls : Array Slot), lv_has ls 9 [(0, .ref a0), (2, .int (Int32.ofInt x2_54)), (3, .int (Int32.ofInt x3_54)), (4, .int (Int32.ofInt x4_54)), (6, .int (Int32.ofInt x6_147)), (8, .int (Int32.ofInt x8_147))] → W p l e R s m args below meth c H locs 0 0 Q (F0 m 219 ls [.int (Int32.ofInt y0_219)]) := by
            intro hx2_219 hx3_219 hx4_219 hx6_219 hx8_219 y0_219 hy0_219 f49_219 hf49_219 H locs hW hs3_219 hcROW_219 hs49_219 ls hl
            refine lv_istore (lv' := [(7, .int (Int32.ofInt y0_219)), (0, .ref a0), (2, .int (Int32.ofInt x2_54)), (3, .int (Int32.ofInt x3_54)), (4, .int (Int32.ofInt x4_54)), (6, .int (Int32.ofInt x6_147)), (8, .int (Int32.ofInt x8_147))]) hx hb dX10_day_219 hl (by decide) rfl (fun ls hl => ?_)
            refine lv_iinc (v := Int32.ofInt ((x8_147 + 1))) (lv' := [(8, .int (Int32.ofInt ((x8_147 + 1)))), (7, .int (Int32.ofInt y0_219)), (0, .ref a0), (2, .int (Int32.ofInt x2_54)), (3, .int (Int32.ofInt x3_54)), (4, .int (Int32.ofInt x4_54)), (6, .int (Int32.ofInt x6_147))]) hx hb dX10_day_221 hl (k := 6) rfl (Int32.ofInt_add _ _).symm (by decide) rfl (fun ls hl => ?_)
            refine lv_goto (tgt := 147) hx hb dX10_day_224 (by decide) ?_
            exact ih_147 ⟨by omega, by omega⟩ ⟨by omega, by omega⟩ ⟨by omega, by omega⟩ (x6_147) ⟨by omega, by omega⟩ (y0_219) ⟨by omega, by omega⟩ ((x8_147 + 1)) ⟨by omega, by omega⟩ (f49_219) ⟨by omega, by omega⟩ (by omega) _ _ hW hs3_219 hcROW_219 hs49_219 _ (lv_sub hl [2, 3, 4, 5, 6, 1, 0] rfl)
          have j_218 : 1 ≤ x2_54 ∧ x2_54 ≤ 39960 → 0 ≤ x3_54 ∧ x3_54 ≤ 24 → 0 ≤ x4_54 ∧ x4_54 ≤ 23 → 0 ≤ x6_147 ∧ x6_147 ≤ 39 → 0 ≤ x8_147 ∧ x8_147 ≤ 99 → ∀ (f49_218 : Int), 0 ≤ f49_218 ∧ f49_218 ≤ 1000002 → ∀ (H : Heap) (locs : List Loc), tf_n tf_kt g M_X10_day T s.heap T H locs → tf_s H a0 (g.1.2 10 3) = some (.ref b0) → tf_rw H b0 = r0 → tf_s H a0 (g.1.2 10 49) = some (.long (Int64.ofInt f49_218)) → ∀ (ls : Array Slot), lv_has ls 9 [(0, .ref a0), (2, .int (Int32.ofInt x2_54)), (3, .int (Int32.ofInt x3_54)), (4, .int (Int32.ofInt x4_54)), (6, .int (Int32.ofInt x6_147)), (8, .int (Int32.ofInt x8_147))] → W p l e R s m args below meth c H locs 0 0 Q (F0 m 218 ls []) := by
            intro hx2_218 hx3_218 hx4_218 hx6_218 hx8_218 f49_218 hf49_218 H locs hW hs3_218 hcROW_218 hs49_218 ls hl
            refine tf_iconst hx hb dX10_day_218 ?_
            exact j_219 ⟨by omega, by omega⟩ ⟨by omega, by omega⟩ ⟨by omega, by omega⟩ ⟨by omega, by omega⟩ ⟨by omega, by omega⟩ (0) ⟨by omega, by omega⟩ (f49_218) ⟨by omega, by omega⟩ _ _ hW hs3_218 hcROW_218 hs49_218 _ (lv_sub hl [0, 1, 2, 3, 4, 5] rfl)
          refine lv_iload hx hb dX10_day_147 (lv_at hl 6 rfl) ?_
          refine tf_bipush hx hb dX10_day_149 (by decide) ?_
          refine tf_icmp_ge (tgt := 227) hx hb ⟨by omega, by omega⟩ ⟨by decide, by decide⟩ dX10_day_151 (by decide) (fun h2 => ?_) (fun h2 => ?_)
          · exact j_227 ⟨by omega, by omega⟩ ⟨by omega, by omega⟩ ⟨by omega, by omega⟩ (x7_147) ⟨by omega, by omega⟩ (f49_147) ⟨by omega, by omega⟩ _ _ hW hs3_147 hcROW_147 hs49_147 _ (lv_sub hl [0, 1, 2, 3, 5] rfl)
          · refine lv_iload hx hb dX10_day_154 (lv_at hl 5 rfl) ?_
            refine tf_if_ne (tgt := 227) hx hb ⟨by omega, by omega⟩ dX10_day_156 (by decide) (fun h3 => ?_) (fun h3 => ?_)
            · exact j_227 ⟨by omega, by omega⟩ ⟨by omega, by omega⟩ ⟨by omega, by omega⟩ (x7_147) ⟨by omega, by omega⟩ (f49_147) ⟨by omega, by omega⟩ _ _ hW hs3_147 hcROW_147 hs49_147 _ (lv_sub hl [0, 1, 2, 3, 5] rfl)
            · refine lv_aload_n hx hb dX10_day_159 rfl (lv_at hl 0 rfl) ?_
              refine tf_get hx hb hts inlX10 hown hK (ci := 10) rfl hW ha0 rfl 32 rfl (by decide) (hts _ fl_X10_73) dX10_day_160 (fun v4 hv4 hsv4 => ?_)
              obtain ⟨ad5, rfl, had5⟩ := tf_v1 hv4
              refine lv_iload hx hb dX10_day_163 (lv_at hl 6 rfl) ?_
              refine tf_iald (t0 := 0) hx hb hK hW had5 rfl rfl (by omega) (by omega) dX10_day_165 (fun v6 hv6 hsv6 => ?_)
              obtain ⟨z7, rfl, hz7⟩ := tf_v0 hv6
              refine tf_iconst hx hb dX10_day_166 ?_
              refine tf_icmp_ne (tgt := 218) hx hb ⟨by omega, by omega⟩ ⟨by decide, by decide⟩ dX10_day_167 (by decide) (fun h8 => ?_) (fun h8 => ?_)
              · exact j_218 ⟨by omega, by omega⟩ ⟨by omega, by omega⟩ ⟨by omega, by omega⟩ ⟨by omega, by omega⟩ ⟨by omega, by omega⟩ (f49_147) ⟨by omega, by omega⟩ _ _ hW hs3_147 hcROW_147 hs49_147 _ (lv_sub hl [0, 1, 2, 3, 4, 6] rfl)
              · refine lv_aload_n hx hb dX10_day_170 rfl (lv_at hl 0 rfl) ?_
                refine tf_get hx hb hts inlX10 hown hK (ci := 10) rfl hW ha0 rfl 35 rfl (by decide) (hts _ fl_X10_82) dX10_day_171 (fun v9 hv9 hsv9 => ?_)
                obtain ⟨ad10, rfl, had10⟩ := tf_v1 hv9
                refine lv_iload hx hb dX10_day_174 (lv_at hl 6 rfl) ?_
                refine tf_iald (t0 := 0) hx hb hK hW had10 rfl rfl (by omega) (by omega) dX10_day_176 (fun v11 hv11 hsv11 => ?_)
                obtain ⟨z12, rfl, hz12⟩ := tf_v0 hv11
                refine tf_if_le (tgt := 218) hx hb ⟨by omega, by omega⟩ dX10_day_177 (by decide) (fun h13 => ?_) (fun h13 => ?_)
                · exact j_218 ⟨by omega, by omega⟩ ⟨by omega, by omega⟩ ⟨by omega, by omega⟩ ⟨by omega, by omega⟩ ⟨by omega, by omega⟩ (f49_147) ⟨by omega, by omega⟩ _ _ hW hs3_147 hcROW_147 hs49_147 _ (lv_sub hl [0, 1, 2, 3, 4, 6] rfl)
                · refine lv_iload hx hb dX10_day_180 (lv_at hl 4 rfl) ?_
                  refine tf_bipush hx hb dX10_day_182 (by decide) ?_
                  refine tf_irem hx hb ⟨by omega, by omega⟩ (by omega) ⟨by decide, by decide⟩ (by decide) dX10_day_184 ?_
                  refine tf_name (fun z14 ez14 => ?_)
                  refine lv_aload_n hx hb dX10_day_185 rfl (lv_at hl 0 rfl) ?_
                  refine lv_iload hx hb dX10_day_186 (lv_at hl 6 rfl) ?_
                  refine lv_iload hx hb dX10_day_188 (lv_at hl 4 rfl) ?_
                  refine tf_bipush hx hb dX10_day_190 (by decide) ?_
                  refine tf_idiv hx hb ⟨by omega, by omega⟩ (by omega) ⟨by decide, by decide⟩ (by decide) dX10_day_192 ?_
                  refine tf_name (fun z15 ez15 => ?_)
                  refine tf_calli (va_runV (As := [.int (Int32.ofInt x8_147), .int (Int32.ofInt z15)]) (rest := [.int (Int32.ofInt z14)]) ⟨hx, hb, hml, hown, hts⟩ (c_X10_quickIn l g T a0 ha0 (x8_147) ⟨by omega, by omega⟩ (z15) ⟨by omega, by omega⟩) (cwV 2 hts gv_X10_408 rfl rfl rfl hd_X10_quickIn ⟨Nat.le_trans (by decide) hR1, Nat.le_trans (by decide) hR2⟩) (tf_preV hk hW ha0 (ci := 10) rfl rfl trivial) rfl rfl hl.1 rfl (lv_room (Nat.le_of_ble_eq_true rfl)) dX10_day_193 ⟨Nat.zero_le _, Nat.zero_le _⟩) hW (by decide) (fun z16 H16 locs16 hW hF16 hp16 => ?_)
                  have hs17 := tf_keepF hF16 ha0 rfl rfl (by decide) hs3_147
                  have hs18 := tf_keepC hF16 hb0 rfl (by decide) hcROW_147
                  have hs19 := tf_keepF hF16 ha0 rfl rfl (by decide) hs49_147
                  have hs20 := tf_keepF hF16 ha0 rfl rfl (by decide) hsv9
                  obtain ⟨hp16_0, hp16_1⟩ := hp16
                  refine tf_imul_any hx hb dX10_day_196 (fun z21 hz21 => ?_)
                  refine tf_bipush hx hb dX10_day_197 (by decide) ?_
                  refine lv_aload_n hx hb dX10_day_199 rfl (lv_at hl 0 rfl) ?_
                  refine lv_aload_n hx hb dX10_day_200 rfl (lv_at hl 0 rfl) ?_
                  refine tf_get hx hb hts inlX10 hown hK (ci := 10) rfl hW ha0 rfl 35 rfl (by decide) (hts _ fl_X10_82) dX10_day_201 (fun v22 hv22 hsv22 => ?_)
                  obtain rfl : v22 = .ref ad10 := Option.some.inj (hsv22.symm.trans hs20)
                  refine lv_iload hx hb dX10_day_204 (lv_at hl 6 rfl) ?_
                  refine tf_iald (t0 := 0) hx hb hK hW had10 rfl rfl (by omega) (by omega) dX10_day_206 (fun v23 hv23 hsv23 => ?_)
                  obtain ⟨z24, rfl, hz24⟩ := tf_v0 hv23
                  refine tf_calli (va_runV (As := [.int (Int32.ofInt z24)]) (rest := [.int (Int32.ofInt 100), .int (Int32.ofInt z21)]) ⟨hx, hb, hml, hown, hts⟩ (c_X10_paceOf l g T a0 ha0 (z24) ⟨by omega, by omega⟩) (cwV 1 hts gv_X10_413 rfl rfl rfl hd_X10_paceOf ⟨Nat.le_trans (by decide) hR1, Nat.le_trans (by decide) hR2⟩) (tf_preV hk hW ha0 (ci := 10) rfl rfl trivial) rfl rfl hl.1 rfl (lv_room (Nat.le_of_ble_eq_true rfl)) dX10_day_207 ⟨Nat.zero_le _, Nat.zero_le _⟩) hW (by decide) (fun z25 H25 locs25 hW hF25 hp25 => ?_)
                  have hs26 := tf_keepF hF25 ha0 rfl rfl (by decide) hs17
                  have hs27 := tf_keepC hF25 hb0 rfl (by decide) hs18
                  have hs28 := tf_keepF hF25 ha0 rfl rfl (by decide) hs19
                  have hs29 := tf_keepF hF25 ha0 rfl rfl (by decide) hs20
                  obtain ⟨hp25_0, hp25_1⟩ := hp25
                  refine tf_imul_any hx hb dX10_day_210 (fun z30 hz30 => ?_)
                  refine tf_icmp_le (tgt := 218) hx hb ⟨by omega, by omega⟩ ⟨by omega, by omega⟩ dX10_day_211 (by decide) (fun h31 => ?_) (fun h31 => ?_)
                  · exact j_218 ⟨by omega, by omega⟩ ⟨by omega, by omega⟩ ⟨by omega, by omega⟩ ⟨by omega, by omega⟩ ⟨by omega, by omega⟩ (f49_147) ⟨by omega, by omega⟩ _ _ hW hs26 hs27 hs28 _ (lv_sub hl [0, 1, 2, 3, 4, 6] rfl)
                  · refine tf_iconst hx hb dX10_day_214 ?_
                    refine lv_goto (tgt := 219) hx hb dX10_day_215 (by decide) ?_
                    exact j_219 ⟨by omega, by omega⟩ ⟨by omega, by omega⟩ ⟨by omega, by omega⟩ ⟨by omega, by omega⟩ ⟨by omega, by omega⟩ (1) ⟨by omega, by omega⟩ (f49_147) ⟨by omega, by omega⟩ _ _ hW hs26 hs27 hs28 _ (lv_sub hl [0, 1, 2, 3, 4, 6] rfl)
      have j_94 : ∀ (n_94 : Nat), 1 ≤ x2_54 ∧ x2_54 ≤ 39960 → 0 ≤ x3_54 ∧ x3_54 ≤ 24 → 0 ≤ x4_54 ∧ x4_54 ≤ 23 → ∀ (x5_94 : Int), 0 ≤ x5_94 ∧ x5_94 ≤ 39960 → ∀ (x6_94 : Int), 0 ≤ x6_94 ∧ x6_94 ≤ 40 → ∀ (f49_94 : Int), 0 ≤ f49_94 ∧ f49_94 ≤ 1000002 → (x5_94 < tf_Su r0 x6_94) → (40 - x6_94 + 1 ≤ (n_94 : Int)) → ∀ (H : Heap) (locs : List Loc), tf_n tf_kt g M_X10_day T s.heap T H locs → tf_s H a0 (g.1.2 10 3) = some (.ref b0) → tf_rw H b0 = r0 → tf_s H a0 (g.1.2 10 49) = some (.long (Int64.ofInt f49_94)) → ∀ (ls : Array Slot), lv_has ls 9 [(0, .ref a0), (2, .int (Int32.ofInt x2_54)), (3, .int (Int32.ofInt x3_54)), (4, .int (Int32.ofInt x4_54)), (5, .int (Int32.ofInt x5_94)), (6, .int (Int32.ofInt x6_94))] → W p l e R s m args below meth c H locs 0 0 Q (F0 m 94 ls []) := by
        intro n_94
        induction n_94 with
        | zero =>
          intro hx2_94 hx3_94 hx4_94 x5_94 hx5_94 x6_94 hx6_94 f49_94 hf49_94 hi0_94 hm_94
          exfalso; omega
        | succ n_94 ih_94 =>
          intro hx2_94 hx3_94 hx4_94 x5_94 hx5_94 x6_94 hx6_94 f49_94 hf49_94 hi0_94 hm_94 H locs hW hs3_94 hcROW_94 hs49_94 ls hl
          have hk40 := tf_Su_lt (r := r0) (k := x6_94) (x := x5_94) (by omega) (by omega) (by omega)
          have hS := tf_Su_step r0 (k := x6_94) (by omega) (by omega)
          refine lv_iload hx hb dX10_day_94 (lv_at hl 4 rfl) ?_
          refine lv_aload_n hx hb dX10_day_96 rfl (lv_at hl 0 rfl) ?_
          refine tf_get hx hb hts inlX10 hown hK (ci := 10) rfl hW ha0 rfl 3 rfl (by decide) (hts _ fl_X10_13) dX10_day_97 (fun v32 hv32 hsv32 => ?_)
          obtain rfl : v32 = .ref b0 := Option.some.inj (hsv32.symm.trans hs3_94)
          refine tf_sipush hx hb dX10_day_100 (by decide) ?_
          refine lv_iload hx hb dX10_day_103 (lv_at hl 5 rfl) ?_
          refine tf_iadd hx hb dX10_day_105 ?_
          refine tf_iald (t0 := 0) hx hb hK hW hb0 rfl rfl (by omega) (by omega) dX10_day_106 (fun v33 hv33 hsv33 => ?_)
          obtain ⟨z34, rfl, hz34⟩ := tf_v0 hv33
          have er35 : r0 (341 + x6_94) = z34 := hcROW_94 ▸ tf_rw_of (by omega) hsv33 ⟨by omega, by omega⟩
          have hg36 := tf_rdH (tf_ROof hW hb0) hsv33 ⟨by omega, by omega⟩ (by omega)
          refine tf_icmp_lt (tgt := 132) hx hb ⟨by omega, by omega⟩ ⟨by omega, by omega⟩ dX10_day_107 (by decide) (fun h37 => ?_) (fun h37 => ?_)
          · refine lv_aload_n hx hb dX10_day_132 rfl (lv_at hl 0 rfl) ?_
            refine tf_get hx hb hts inlX10 hown hK (ci := 10) rfl hW ha0 rfl 47 rfl (by decide) (hts _ fl_X10_100) dX10_day_133 (fun v38 hv38 hsv38 => ?_)
            obtain ⟨ad39, rfl, had39⟩ := tf_v1 hv38
            refine lv_iload hx hb dX10_day_136 (lv_at hl 3 rfl) ?_
            refine lv_iload hx hb dX10_day_138 (lv_at hl 5 rfl) ?_
            refine tf_iast (t0 := 0) hx hb hK hW had39 rfl rfl (by omega) (by omega) (by decide) (tf_u0 (by omega) (by omega)) dX10_day_140 (fun H40 locs40 hW hs40 ht40 hq40 => ?_)
            have hs41 := tf_keepQ hs3_94 (hq40 _ (tf_ne ha0 had39 (by decide)))
            have hs42 := tf_keepCQ hcROW_94 (hq40 _ (tf_ne hb0 had39 (by decide)))
            have hs43 := tf_keepQ hs49_94 (hq40 _ (tf_ne ha0 had39 (by decide)))
            refine tf_iconst hx hb dX10_day_141 ?_
            refine lv_istore (lv' := [(7, .int (Int32.ofInt 0)), (0, .ref a0), (2, .int (Int32.ofInt x2_54)), (3, .int (Int32.ofInt x3_54)), (4, .int (Int32.ofInt x4_54)), (5, .int (Int32.ofInt x5_94)), (6, .int (Int32.ofInt x6_94))]) hx hb dX10_day_142 hl (by decide) rfl (fun ls hl => ?_)
            refine tf_iconst hx hb dX10_day_144 ?_
            refine lv_istore (lv' := [(8, .int (Int32.ofInt 0)), (7, .int (Int32.ofInt 0)), (0, .ref a0), (2, .int (Int32.ofInt x2_54)), (3, .int (Int32.ofInt x3_54)), (4, .int (Int32.ofInt x4_54)), (5, .int (Int32.ofInt x5_94)), (6, .int (Int32.ofInt x6_94))]) hx hb dX10_day_145 hl (by decide) rfl (fun ls hl => ?_)
            exact j_147 ((100 - 0 + 1 : Int)).toNat ⟨by omega, by omega⟩ ⟨by omega, by omega⟩ ⟨by omega, by omega⟩ (x6_94) ⟨by omega, by omega⟩ (0) ⟨by omega, by omega⟩ (0) ⟨by omega, by omega⟩ (f49_94) ⟨by omega, by omega⟩ (by omega) _ _ hW hs41 hs42 hs43 _ (lv_sub hl [2, 3, 4, 5, 7, 1, 0] rfl)
          · refine lv_iload hx hb dX10_day_110 (lv_at hl 4 rfl) ?_
            refine lv_aload_n hx hb dX10_day_112 rfl (lv_at hl 0 rfl) ?_
            refine tf_get hx hb hts inlX10 hown hK (ci := 10) rfl hW ha0 rfl 3 rfl (by decide) (hts _ fl_X10_13) dX10_day_113 (fun v44 hv44 hsv44 => ?_)
            obtain rfl : v44 = .ref b0 := Option.some.inj (hsv44.symm.trans hs3_94)
            refine tf_sipush hx hb dX10_day_116 (by decide) ?_
            refine lv_iload hx hb dX10_day_119 (lv_at hl 5 rfl) ?_
            refine tf_iadd hx hb dX10_day_121 ?_
            refine tf_iald (t0 := 0) hx hb hK hW hb0 rfl rfl (by omega) (by omega) dX10_day_122 (fun v45 hv45 hsv45 => ?_)
            obtain ⟨z46, rfl, hz46⟩ := tf_v0 hv45
            have er47 : r0 (341 + x6_94) = z46 := hcROW_94 ▸ tf_rw_of (by omega) hsv45 ⟨by omega, by omega⟩
            have hg48 := tf_rdH (tf_ROof hW hb0) hsv45 ⟨by omega, by omega⟩ (by omega)
            refine tf_isub hx hb dX10_day_123 ?_
            refine lv_istore (lv' := [(5, .int (Int32.ofInt ((x5_94 - z46)))), (0, .ref a0), (2, .int (Int32.ofInt x2_54)), (3, .int (Int32.ofInt x3_54)), (4, .int (Int32.ofInt x4_54)), (6, .int (Int32.ofInt x6_94))]) hx hb dX10_day_124 hl (by decide) rfl (fun ls hl => ?_)
            refine lv_iinc (v := Int32.ofInt ((x6_94 + 1))) (lv' := [(6, .int (Int32.ofInt ((x6_94 + 1)))), (5, .int (Int32.ofInt ((x5_94 - z46)))), (0, .ref a0), (2, .int (Int32.ofInt x2_54)), (3, .int (Int32.ofInt x3_54)), (4, .int (Int32.ofInt x4_54))]) hx hb dX10_day_126 hl (k := 5) rfl (Int32.ofInt_add _ _).symm (by decide) rfl (fun ls hl => ?_)
            refine lv_goto (tgt := 94) hx hb dX10_day_129 (by decide) ?_
            exact ih_94 ⟨by omega, by omega⟩ ⟨by omega, by omega⟩ ⟨by omega, by omega⟩ ((x5_94 - z46)) ⟨by omega, by omega⟩ ((x6_94 + 1)) ⟨by omega, by omega⟩ (f49_94) ⟨by omega, by omega⟩ (by omega) (by omega) _ _ hW hs3_94 hcROW_94 hs49_94 _ (lv_sub hl [2, 3, 4, 5, 1, 0] rfl)
      refine lv_iload hx hb dX10_day_54 (lv_at hl 3 rfl) ?_
      refine tf_bipush hx hb dX10_day_56 (by decide) ?_
      refine tf_icmp_ge (tgt := 246) hx hb ⟨by omega, by omega⟩ ⟨by decide, by decide⟩ dX10_day_58 (by decide) (fun h49 => ?_) (fun h49 => ?_)
      · refine lv_aload_n hx hb dX10_day_246 rfl (lv_at hl 0 rfl) ?_
        refine tf_iconst hx hb dX10_day_247 ?_
        refine tf_put hx hb hts inlX10 tyX10 tyX10_ok nmX10 hown hK (ci := 10) rfl hW ha0 rfl rfl 48 rfl (by decide) (by decide) (hts _ fl_X10_482) rfl (tf_u0 (by omega) (by omega)) (tf_narZ (by omega)) (tf_fitZ (by omega)) dX10_day_248 (fun H50 locs50 hW hs50 ht50 hq50 => ?_)
        have hs51 := (ht50 3 (by decide) (by decide)).trans hs3_54
        have hs52 := tf_keepCQ hcROW_54 (hq50 _ (tf_ne hb0 ha0 (by decide)))
        have hs53 := (ht50 49 (by decide) (by decide)).trans hs49_54
        refine lv_aload_n hx hb dX10_day_251 rfl (lv_at hl 0 rfl) ?_
        refine lv_iload_n hx hb dX10_day_252 rfl (lv_at hl 2 rfl) ?_
        refine tf_calli (va_runV (As := [.int (Int32.ofInt x3_54)]) (rest := []) ⟨hx, hb, hml, hown, hts⟩ (c_X10_tell l g T a0 ha0 (x3_54) ⟨by omega, by omega⟩) (cwV 1 hts gv_X10_117 rfl rfl rfl hd_X10_tell ⟨Nat.le_trans (by decide) hR1, Nat.le_trans (by decide) hR2⟩) (tf_preV hk hW ha0 (ci := 10) rfl rfl trivial) rfl rfl hl.1 rfl (lv_room (Nat.le_of_ble_eq_true rfl)) dX10_day_253 ⟨Nat.zero_le _, Nat.zero_le _⟩) hW (by decide) (fun z54 H54 locs54 hW hF54 hp54 => ?_)
        have hs55 := tf_keepF hF54 ha0 rfl rfl (by decide) hs51
        have hs56 := tf_keepC hF54 hb0 rfl (by decide) hs52
        have hs57 := tf_keepF hF54 ha0 rfl rfl (by decide) hs53
        obtain ⟨hp54_0, hp54_1, hp54_2⟩ := hp54
        exact tf_reti (z := z54) hx hb hr hlocks hQ hW (show (-2147483648) ≤ (z54) ∧ (z54) ≤ 2147483647 by omega) dX10_day_256
      · refine lv_aload_n hx hb dX10_day_61 rfl (lv_at hl 0 rfl) ?_
        refine lv_aload_n hx hb dX10_day_62 rfl (lv_at hl 0 rfl) ?_
        refine tf_get hx hb hts inlX10 hown hK (ci := 10) rfl hW ha0 rfl 49 rfl (by decide) (hts _ fl_X10_473) dX10_day_63 (fun v58 hv58 hsv58 => ?_)
        obtain rfl : v58 = .long (Int64.ofInt f49_54) := Option.some.inj (hsv58.symm.trans hs49_54)
        refine tf_ldc2 (z := 1103) hx hb hown (hts _ kl_X10_476) (by decide) dX10_day_66 ?_
        refine tf_lmul hx hb dX10_day_69 ?_
        refine tf_ldc2 (z := 12345) hx hb hown (hts _ kl_X10_478) (by decide) dX10_day_70 ?_
        refine tf_ladd hx hb dX10_day_73 ?_
        refine tf_ldc2 (z := 1000003) hx hb hown (hts _ kl_X10_480) (by decide) dX10_day_74 ?_
        refine tf_lrem_pos hx hb ⟨by omega, by omega⟩ (by omega) ⟨by omega, by omega⟩ (by omega) dX10_day_77 (fun z59 hz59 => ?_)
        refine tf_put hx hb hts inlX10 tyX10 tyX10_ok nmX10 hown hK (ci := 10) rfl hW ha0 rfl rfl 49 rfl (by decide) (by decide) (hts _ fl_X10_473) rfl (tf_u5 (by omega) (by omega)) rfl rfl dX10_day_78 (fun H60 locs60 hW hs60 ht60 hq60 => ?_)
        have hs61 := (ht60 3 (by decide) (by decide)).trans hs3_54
        have hs62 := tf_keepCQ hcROW_54 (hq60 _ (tf_ne hb0 ha0 (by decide)))
        refine lv_aload_n hx hb dX10_day_81 rfl (lv_at hl 0 rfl) ?_
        refine tf_get hx hb hts inlX10 hown hK (ci := 10) rfl hW ha0 rfl 49 rfl (by decide) (hts _ fl_X10_473) dX10_day_82 (fun v63 hv63 hsv63 => ?_)
        obtain rfl : v63 = .long (Int64.ofInt z59) := Option.some.inj (hsv63.symm.trans hs60)
        refine lv_iload_n hx hb dX10_day_85 rfl (lv_at hl 1 rfl) ?_
        refine tf_i2l hx hb ⟨by omega, by omega⟩ dX10_day_86 ?_
        refine tf_lrem_pos hx hb ⟨by omega, by omega⟩ (by omega) ⟨by omega, by omega⟩ (by omega) dX10_day_87 (fun z64 hz64 => ?_)
        refine tf_l2i hx hb dX10_day_88 ?_
        refine lv_istore (lv' := [(5, .int (Int32.ofInt z64)), (0, .ref a0), (2, .int (Int32.ofInt x2_54)), (3, .int (Int32.ofInt x3_54)), (4, .int (Int32.ofInt x4_54))]) hx hb dX10_day_89 hl (by decide) rfl (fun ls hl => ?_)
        refine tf_iconst hx hb dX10_day_91 ?_
        refine lv_istore (lv' := [(6, .int (Int32.ofInt 0)), (5, .int (Int32.ofInt z64)), (0, .ref a0), (2, .int (Int32.ofInt x2_54)), (3, .int (Int32.ofInt x3_54)), (4, .int (Int32.ofInt x4_54))]) hx hb dX10_day_92 hl (by decide) rfl (fun ls hl => ?_)
        exact j_94 ((40 - 0 + 1 : Int)).toNat ⟨by omega, by omega⟩ ⟨by omega, by omega⟩ ⟨by omega, by omega⟩ (z64) ⟨by omega, by omega⟩ (0) ⟨by omega, by omega⟩ (z59) ⟨by omega, by omega⟩ (by omega) (by omega) _ _ hW hs61 hs62 hs60 _ (lv_sub hl [2, 3, 4, 5, 1, 0] rfl)
  refine tf_enter (As := [.ref a0, .int (Int32.ofInt x1)]) hargs (Nat.le_of_ble_eq_true rfl) (fun ls hl => ?_)
  have hl : lv_has ls 9 [(0, .ref a0), (1, .int (Int32.ofInt x1))] := hl
  refine lv_aload_n hx hb dX10_day_0 rfl (lv_at hl 0 rfl) ?_
  refine tf_iconst hx hb dX10_day_1 ?_
  refine tf_put hx hb hts inlX10 tyX10 tyX10_ok nmX10 hown hK (ci := 10) rfl hW ha0 rfl rfl 0 rfl (by decide) (by decide) (hts _ fl_X10_103) rfl (tf_u0 (by omega) (by omega)) rfl rfl dX10_day_2 (fun H65 locs65 hW hs65 ht65 hq65 => ?_)
  have hs66 := (ht65 3 (by decide) (by decide)).trans hfb0
  have hs67 := tf_keepCQ hr0 (hq65 _ (tf_ne hb0 ha0 (by decide)))
  refine lv_iload_n hx hb dX10_day_5 rfl (lv_at hl 1 rfl) ?_
  refine tf_i2l hx hb ⟨by omega, by omega⟩ dX10_day_6 ?_
  refine tf_lconst (z := 0) hx hb dX10_day_7 (by decide) ?_
  refine tf_ldc2 (z := 1000000) hx hb hown (hts _ kl_X10_229) (by decide) dX10_day_8 ?_
  refine tf_calli (va_runS (As := [.long (Int64.ofInt x1), .long (Int64.ofInt 0), .long (Int64.ofInt 1000000)]) (rest := []) ⟨hx, hb, hml, hown, hts⟩ (c_X10_in l g T (x1) ⟨by omega, by omega⟩ (0) ⟨by omega, by omega⟩ (1000000) ⟨by omega, by omega⟩) ⟨callB_of 3 hts (gw_ws cm_X10_in) rfl rfl rfl (hts _ (tw1 (i := 5) rfl)) (hts _ (tw11 (i := 3) rfl)) hd_X10_in.2 ⟨Nat.le_trans (by decide) hR1, Nat.le_trans (by decide) hR2⟩, hts _ (tw11 (i := 4) rfl)⟩ (tf_preS hk hW trivial) rfl rfl hl.1 rfl (lv_room (Nat.le_of_ble_eq_true rfl)) dX10_day_11 ⟨Nat.zero_le _, Nat.zero_le _⟩) hW (by decide) (fun z68 H68 locs68 hW hF68 hp68 => ?_)
  have hs69 := tf_keepF hF68 ha0 rfl rfl (by decide) hs66
  have hs70 := tf_keepC hF68 hb0 rfl (by decide) hs67
  rcases hp68 with ⟨rfl, h71, h72⟩ | ⟨rfl, h73⟩
  · refine tf_if_ne (tgt := 23) hx hb ⟨by decide, by decide⟩ dX10_day_14 (by decide) (fun h74 => ?_) (fun h74 => ?_)
    · refine lv_aload_n hx hb dX10_day_23 rfl (lv_at hl 0 rfl) ?_
      refine tf_calli (va_runV (As := []) (rest := []) ⟨hx, hb, hml, hown, hts⟩ (c_X10_allHours l g T a0 ha0 b0 hb0 r0) (cwV 0 hts gv_X10_189 rfl rfl rfl hd_X10_allHours ⟨Nat.le_trans (by decide) hR1, Nat.le_trans (by decide) hR2⟩) (tf_preV hk hW ha0 (ci := 10) rfl rfl ⟨hs69, hs70⟩) rfl rfl hl.1 rfl (lv_room (Nat.le_of_ble_eq_true rfl)) dX10_day_24 ⟨Nat.zero_le _, Nat.zero_le _⟩) hW (by decide) (fun z75 H75 locs75 hW hF75 hp75 => ?_)
      have hs76 := tf_keepF hF75 ha0 rfl rfl (by decide) hs69
      have hs77 := tf_keepC hF75 hb0 rfl (by decide) hs70
      obtain ⟨hp75_0, hp75_1, hp75_2⟩ := hp75
      refine lv_istore_n (lv' := [(2, .int (Int32.ofInt z75)), (0, .ref a0), (1, .int (Int32.ofInt x1))]) hx hb dX10_day_27 rfl hl (by decide) rfl (fun ls hl => ?_)
      refine lv_iload_n hx hb dX10_day_28 rfl (lv_at hl 0 rfl) ?_
      refine tf_if_ne (tgt := 39) hx hb ⟨by omega, by omega⟩ dX10_day_29 (by decide) (fun h78 => ?_) (fun h78 => ?_)
      · refine lv_aload_n hx hb dX10_day_39 rfl (lv_at hl 1 rfl) ?_
        refine tf_callv (va_runV (As := []) (rest := []) ⟨hx, hb, hml, hown, hts⟩ (c_X10_layAll l g T a0 ha0) (cwV 0 hts gv_X10_405 rfl rfl rfl hd_X10_layAll ⟨Nat.le_trans (by decide) hR1, Nat.le_trans (by decide) hR2⟩) (tf_preV hk hW ha0 (ci := 10) rfl rfl trivial) rfl rfl hl.1 rfl (lv_room (Nat.le_of_ble_eq_true rfl)) dX10_day_40 ⟨Nat.zero_le _, Nat.zero_le _⟩) hW (by decide) (fun H79 locs79 hW hF79 hp79 => ?_)
        have hs80 := tf_keepF hF79 ha0 rfl rfl (by decide) hs76
        have hs81 := tf_keepC hF79 hb0 rfl (by decide) hs77
        refine lv_aload_n hx hb dX10_day_43 rfl (lv_at hl 1 rfl) ?_
        refine lv_iload_n hx hb dX10_day_44 rfl (lv_at hl 2 rfl) ?_
        refine tf_i2l hx hb ⟨by omega, by omega⟩ dX10_day_45 ?_
        refine tf_put hx hb hts inlX10 tyX10 tyX10_ok nmX10 hown hK (ci := 10) rfl hW ha0 rfl rfl 49 rfl (by decide) (by decide) (hts _ fl_X10_473) rfl (tf_u5 (by omega) (by omega)) rfl rfl dX10_day_46 (fun H82 locs82 hW hs82 ht82 hq82 => ?_)
        have hs83 := (ht82 3 (by decide) (by decide)).trans hs80
        have hs84 := tf_keepCQ hs81 (hq82 _ (tf_ne hb0 ha0 (by decide)))
        refine tf_iconst hx hb dX10_day_49 ?_
        refine lv_istore_n (lv' := [(3, .int (Int32.ofInt 0)), (2, .int (Int32.ofInt z75)), (0, .ref a0), (1, .int (Int32.ofInt x1))]) hx hb dX10_day_50 rfl hl (by decide) rfl (fun ls hl => ?_)
        refine tf_iconst hx hb dX10_day_51 ?_
        refine lv_istore (lv' := [(4, .int (Int32.ofInt 0)), (3, .int (Int32.ofInt 0)), (2, .int (Int32.ofInt z75)), (0, .ref a0), (1, .int (Int32.ofInt x1))]) hx hb dX10_day_52 hl (by decide) rfl (fun ls hl => ?_)
        exact j_54 ((24 - 0 + 1 : Int)).toNat (z75) ⟨by omega, by omega⟩ (0) ⟨by omega, by omega⟩ (0) ⟨by omega, by omega⟩ (x1) ⟨by omega, by omega⟩ (by omega) (by omega) (by omega) _ _ hW hs83 hs84 hs82 _ (lv_sub hl [3, 2, 1, 0] rfl)
      · refine lv_aload_n hx hb dX10_day_32 rfl (lv_at hl 1 rfl) ?_
        refine tf_bipush hx hb dX10_day_33 (by decide) ?_
        refine tf_calli (va_runV (As := [.int (Int32.ofInt ((-3)))]) (rest := []) ⟨hx, hb, hml, hown, hts⟩ (c_X10_tell l g T a0 ha0 ((-3)) ⟨by omega, by omega⟩) (cwV 1 hts gv_X10_117 rfl rfl rfl hd_X10_tell ⟨Nat.le_trans (by decide) hR1, Nat.le_trans (by decide) hR2⟩) (tf_preV hk hW ha0 (ci := 10) rfl rfl trivial) rfl rfl hl.1 rfl (lv_room (Nat.le_of_ble_eq_true rfl)) dX10_day_35 ⟨Nat.zero_le _, Nat.zero_le _⟩) hW (by decide) (fun z85 H85 locs85 hW hF85 hp85 => ?_)
        have hs86 := tf_keepF hF85 ha0 rfl rfl (by decide) hs76
        have hs87 := tf_keepC hF85 hb0 rfl (by decide) hs77
        obtain ⟨hp85_0, hp85_1, hp85_2⟩ := hp85
        exact tf_reti (z := z85) hx hb hr hlocks hQ hW (show (-2147483648) ≤ (z85) ∧ (z85) ≤ 2147483647 by omega) dX10_day_38
    · exfalso; omega
  · refine tf_if_ne (tgt := 23) hx hb ⟨by decide, by decide⟩ dX10_day_14 (by decide) (fun h88 => ?_) (fun h88 => ?_)
    · exfalso; omega
    · refine lv_aload_n hx hb dX10_day_17 rfl (lv_at hl 0 rfl) ?_
      refine tf_iconst hx hb dX10_day_18 ?_
      refine tf_calli (va_runV (As := [.int (Int32.ofInt ((-1)))]) (rest := []) ⟨hx, hb, hml, hown, hts⟩ (c_X10_tell l g T a0 ha0 ((-1)) ⟨by omega, by omega⟩) (cwV 1 hts gv_X10_117 rfl rfl rfl hd_X10_tell ⟨Nat.le_trans (by decide) hR1, Nat.le_trans (by decide) hR2⟩) (tf_preV hk hW ha0 (ci := 10) rfl rfl trivial) rfl rfl hl.1 rfl (lv_room (Nat.le_of_ble_eq_true rfl)) dX10_day_19 ⟨Nat.zero_le _, Nat.zero_le _⟩) hW (by decide) (fun z89 H89 locs89 hW hF89 hp89 => ?_)
      have hs90 := tf_keepF hF89 ha0 rfl rfl (by decide) hs69
      have hs91 := tf_keepC hF89 hb0 rfl (by decide) hs70
      obtain ⟨hp89_0, hp89_1, hp89_2⟩ := hp89
      exact tf_reti (z := z89) hx hb hr hlocks hQ hW (show (-2147483648) ≤ (z89) ∧ (z89) ≤ 2147483647 by omega) dX10_day_22

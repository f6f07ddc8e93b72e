
abbrev M_X10_reckon : List (Nat × Nat) := [(50, 29)]
set_option maxHeartbeats 4000000 in
set_option maxRecDepth 100000 in
theorem c_X10_reckon (l : Launch) (g : tf_G) (T : tf_T) (a0 : Nat) (ha0 : T a0 = some (50, 0)) (x1 : Int) (hp1 : (-2147483648) ≤ x1 ∧ x1 ≤ 2147483647) (x2 : Int) (hp2 : (-9223372036854775808) ≤ x2 ∧ x2 ≤ 9223372036854775807) (x3 : Int) (hp3 : (-9223372036854775808) ≤ x3 ∧ x3 ≤ 9223372036854775807) : Met l yX10_reckon (cd_X10_reckon :: wsL_law) ({ frames := 1, cells := 0, slots := 0, locals := 24 }) (tf_P g T [.ref a0, .int (Int32.ofInt x1), .long (Int64.ofInt x2), .long (Int64.ofInt x3)] (fun H => True)) (tf_Ql g M_X10_reckon T (fun z _ _ => (-9223372036854775808) ≤ z ∧ z ≤ 9223372036854775807)) 0 0 (fun q => tf_B g ≤ q) := by
  refine Met.ofW (cc := cX10_reckon) (maxL := 6) (ret := (some .long)) (by decide) rfl ?_
  intro p e s m args below meth c s₁ B hml hv
  obtain ⟨hargs, hk, hW0, hB, hpre⟩ := hv
  have hx := B.exec
  have hb := B.bytes
  have hr := B.returns
  have hts : ∀ w ∈ wsL_law, w.before args s = true := fun w h => atoms_spec (ws := cd_X10_reckon :: wsL_law) B.pre w (List.mem_cons_of_mem _ h)
  have hown : s.vm.findClass RX10 = some m.cls := findClass_of_methodNamed B.named
  have hlocks := B.notSynchronized
  have hK := hk.1
  have hW := tf_n.start (M := M_X10_reckon) hW0 hB
  obtain ⟨Q, hQ⟩ : ∃ q, q = MQ below (tf_Ql g M_X10_reckon T (fun z _ _ => (-9223372036854775808) ≤ z ∧ z ≤ 9223372036854775807)) args s 0 0 (fun q => tf_B g ≤ q) := ⟨_, rfl⟩
  rw [← hQ]
  obtain ⟨R, hR⟩ : ∃ q, q = (headSpec (cd_X10_reckon :: wsL_law) ({ frames := 1, cells := 0, slots := 0, locals := 24 })).room := ⟨_, rfl⟩
  rw [← hR]
  have hR1 : 1 ≤ R.frames := by rw [hR]; exact Nat.le_refl _
  have hR2 : 24 ≤ R.locals := by rw [hR]; exact Nat.le_refl _
  have hR3 : 0 ≤ R.cells := by rw [hR]; exact Nat.le_refl _
  have hR4 : 0 ≤ R.slots := by rw [hR]; exact Nat.le_refl _
  have hin := (name_of_methodNamed B.named B.method).1
  clear hR B
  have j_68 : (-9223372036854775808) ≤ x2 ∧ x2 ≤ 9223372036854775807 → (-9223372036854775808) ≤ x3 ∧ x3 ≤ 9223372036854775807 → ∀ (y1_68 : Int), 0 ≤ y1_68 ∧ y1_68 ≤ 1 → ((y1_68 = 1 ∧ x3 = 0) ∨ (y1_68 = 0 ∧ x3 ≠ 0)) → ∀ (H : Heap) (locs : List Loc), tf_n tf_kt g M_X10_reckon T s.heap T H locs → ∀ (ls : Array Slot), lv_has ls 6 [(0, .ref a0), (2, .long (Int64.ofInt x2)), (4, .long (Int64.ofInt x3))] → W p l e R s m args below meth c H locs 0 0 Q (F0 m 68 ls [.int (Int32.ofInt y1_68), .ref a0]) := by
    intro hx2_68 hx4_68 y1_68 hy1_68 hi0_68 H locs hW  ls hl
    refine tf_put hx hb hts inlX10 tyX10 tyX10_ok nmX10 hown hK (ci := 10) rfl hW ha0 rfl rfl 29 rfl (by decide) (by decide) (hts _ fl_X10_331) rfl (tf_u0 (by omega) (by omega)) (tf_narZ (by omega)) (tf_fitZ (by omega)) dX10_reckon_68 (fun H1 locs1 hW hs1 ht1 hq1 => ?_)
    refine lv_aload_n hx hb dX10_reckon_71 rfl (lv_at hl 0 rfl) ?_
    refine tf_get hx hb hts inlX10 hown hK (ci := 10) rfl hW ha0 rfl 29 rfl (by decide) (hts _ fl_X10_331) dX10_reckon_72 (fun v2 hv2 hsv2 => ?_)
    obtain rfl : v2 = .int (Int32.ofInt y1_68) := Option.some.inj (hsv2.symm.trans hs1)
    refine tf_if_eq (tgt := 82) hx hb ⟨by omega, by omega⟩ dX10_reckon_75 (by decide) (fun h3 => ?_) (fun h3 => ?_)
    · refine lv_lload_n hx hb dX10_reckon_82 rfl (lv_at hl 1 rfl) ?_
      refine lv_lload hx hb dX10_reckon_83 (lv_at hl 2 rfl) ?_
      refine tf_ldiv_any hx hb (by omega) ⟨by omega, by omega⟩ dX10_reckon_85 (fun z4 hz4 => ?_)
      exact tf_retl (z := z4) hx hb hr hlocks hQ hW (show (-9223372036854775808) ≤ (z4) ∧ (z4) ≤ 9223372036854775807 by omega) dX10_reckon_86
    · refine tf_lconst (z := 0) hx hb dX10_reckon_78 (by decide) ?_
      refine lv_goto (tgt := 86) hx hb dX10_reckon_79 (by decide) ?_
      exact tf_retl (z := 0) hx hb hr hlocks hQ hW (show (-9223372036854775808) ≤ (0) ∧ (0) ≤ 9223372036854775807 by omega) dX10_reckon_86
  refine tf_enter (As := [.ref a0, .int (Int32.ofInt x1), .long (Int64.ofInt x2), .long (Int64.ofInt x3)]) hargs (Nat.le_of_ble_eq_true rfl) (fun ls hl => ?_)
  have hl : lv_has ls 6 [(0, .ref a0), (1, .int (Int32.ofInt x1)), (2, .long (Int64.ofInt x2)), (4, .long (Int64.ofInt x3))] := hl
  refine lv_iload_n hx hb dX10_reckon_0 rfl (lv_at hl 1 rfl) ?_
  rcases (show x1 = 20 ∨ x1 = 21 ∨ x1 = 22 ∨ x1 = 23 ∨ x1 = 24 ∨ x1 = 25 ∨ x1 < 20 ∨ 25 < x1 by omega) with h5 | h5 | h5 | h5 | h5 | h5 | h5 | h5
  · refine tf_tableIn (tgt := 40) hx hb dX10_reckon_1 h5 (by decide) (by decide) (by decide) rfl (by decide) ?_
    refine lv_lload_n hx hb dX10_reckon_40 rfl (lv_at hl 2 rfl) ?_
    refine lv_lload hx hb dX10_reckon_41 (lv_at hl 3 rfl) ?_
    refine tf_ladd_c hx hb dX10_reckon_43 (fun z6 hz6 kz6 => ?_)
    exact tf_retl (z := z6) hx hb hr hlocks hQ hW (show (-9223372036854775808) ≤ (z6) ∧ (z6) ≤ 9223372036854775807 by omega) dX10_reckon_44
  · refine tf_tableIn (tgt := 45) hx hb dX10_reckon_1 h5 (by decide) (by decide) (by decide) rfl (by decide) ?_
    refine lv_lload_n hx hb dX10_reckon_45 rfl (lv_at hl 2 rfl) ?_
    refine lv_lload hx hb dX10_reckon_46 (lv_at hl 3 rfl) ?_
    refine tf_lsub_c hx hb dX10_reckon_48 (fun z7 hz7 kz7 => ?_)
    exact tf_retl (z := z7) hx hb hr hlocks hQ hW (show (-9223372036854775808) ≤ (z7) ∧ (z7) ≤ 9223372036854775807 by omega) dX10_reckon_49
  · refine tf_tableIn (tgt := 50) hx hb dX10_reckon_1 h5 (by decide) (by decide) (by decide) rfl (by decide) ?_
    refine lv_lload_n hx hb dX10_reckon_50 rfl (lv_at hl 2 rfl) ?_
    refine lv_lload hx hb dX10_reckon_51 (lv_at hl 3 rfl) ?_
    refine tf_lmul_any hx hb dX10_reckon_53 (fun z8 hz8 => ?_)
    exact tf_retl (z := z8) hx hb hr hlocks hQ hW (show (-9223372036854775808) ≤ (z8) ∧ (z8) ≤ 9223372036854775807 by omega) dX10_reckon_54
  · refine tf_tableIn (tgt := 55) hx hb dX10_reckon_1 h5 (by decide) (by decide) (by decide) rfl (by decide) ?_
    refine lv_aload_n hx hb dX10_reckon_55 rfl (lv_at hl 0 rfl) ?_
    refine lv_lload hx hb dX10_reckon_56 (lv_at hl 3 rfl) ?_
    refine tf_lconst (z := 0) hx hb dX10_reckon_58 (by decide) ?_
    refine tf_lcmp hx hb ⟨by omega, by omega⟩ ⟨by omega, by omega⟩ dX10_reckon_59 (fun z9 hz9 => ?_)
    refine tf_if_ne (tgt := 67) hx hb ⟨by omega, by omega⟩ dX10_reckon_60 (by decide) (fun h10 => ?_) (fun h10 => ?_)
    · refine tf_iconst hx hb dX10_reckon_67 ?_
      exact j_68 ⟨by omega, by omega⟩ ⟨by omega, by omega⟩ (0) ⟨by omega, by omega⟩ (by omega) _ _ hW  _ (lv_sub hl [0, 2, 3] rfl)
    · refine tf_iconst hx hb dX10_reckon_63 ?_
      refine lv_goto (tgt := 68) hx hb dX10_reckon_64 (by decide) ?_
      exact j_68 ⟨by omega, by omega⟩ ⟨by omega, by omega⟩ (1) ⟨by omega, by omega⟩ (by omega) _ _ hW  _ (lv_sub hl [0, 2, 3] rfl)
  · refine tf_tableIn (tgt := 87) hx hb dX10_reckon_1 h5 (by decide) (by decide) (by decide) rfl (by decide) ?_
    refine lv_lload_n hx hb dX10_reckon_87 rfl (lv_at hl 2 rfl) ?_
    refine lv_lload hx hb dX10_reckon_88 (lv_at hl 3 rfl) ?_
    refine tf_lcmp hx hb ⟨by omega, by omega⟩ ⟨by omega, by omega⟩ dX10_reckon_90 (fun z11 hz11 => ?_)
    refine tf_if_ge (tgt := 98) hx hb ⟨by omega, by omega⟩ dX10_reckon_91 (by decide) (fun h12 => ?_) (fun h12 => ?_)
    · refine tf_lconst (z := 0) hx hb dX10_reckon_98 (by decide) ?_
      exact tf_retl (z := 0) hx hb hr hlocks hQ hW (show (-9223372036854775808) ≤ (0) ∧ (0) ≤ 9223372036854775807 by omega) dX10_reckon_99
    · refine tf_lconst (z := 1) hx hb dX10_reckon_94 (by decide) ?_
      refine lv_goto (tgt := 99) hx hb dX10_reckon_95 (by decide) ?_
      exact tf_retl (z := 1) hx hb hr hlocks hQ hW (show (-9223372036854775808) ≤ (1) ∧ (1) ≤ 9223372036854775807 by omega) dX10_reckon_99
  · refine tf_tableIn (tgt := 100) hx hb dX10_reckon_1 h5 (by decide) (by decide) (by decide) rfl (by decide) ?_
    refine lv_lload_n hx hb dX10_reckon_100 rfl (lv_at hl 2 rfl) ?_
    refine lv_lload hx hb dX10_reckon_101 (lv_at hl 3 rfl) ?_
    refine tf_lcmp hx hb ⟨by omega, by omega⟩ ⟨by omega, by omega⟩ dX10_reckon_103 (fun z13 hz13 => ?_)
    refine tf_if_le (tgt := 111) hx hb ⟨by omega, by omega⟩ dX10_reckon_104 (by decide) (fun h14 => ?_) (fun h14 => ?_)
    · refine tf_lconst (z := 0) hx hb dX10_reckon_111 (by decide) ?_
      exact tf_retl (z := 0) hx hb hr hlocks hQ hW (show (-9223372036854775808) ≤ (0) ∧ (0) ≤ 9223372036854775807 by omega) dX10_reckon_112
    · refine tf_lconst (z := 1) hx hb dX10_reckon_107 (by decide) ?_
      refine lv_goto (tgt := 112) hx hb dX10_reckon_108 (by decide) ?_
      exact tf_retl (z := 1) hx hb hr hlocks hQ hW (show (-9223372036854775808) ≤ (1) ∧ (1) ≤ 9223372036854775807 by omega) dX10_reckon_112
  · refine tf_tableOut (tgt := 113) hx hb dX10_reckon_1 ⟨by omega, by omega⟩ (by omega) (by decide) ?_
    refine lv_lload_n hx hb dX10_reckon_113 rfl (lv_at hl 2 rfl) ?_
    refine lv_lload hx hb dX10_reckon_114 (lv_at hl 3 rfl) ?_
    refine tf_lcmp hx hb ⟨by omega, by omega⟩ ⟨by omega, by omega⟩ dX10_reckon_116 (fun z15 hz15 => ?_)
    refine tf_if_ne (tgt := 124) hx hb ⟨by omega, by omega⟩ dX10_reckon_117 (by decide) (fun h16 => ?_) (fun h16 => ?_)
    · refine tf_lconst (z := 0) hx hb dX10_reckon_124 (by decide) ?_
      exact tf_retl (z := 0) hx hb hr hlocks hQ hW (show (-9223372036854775808) ≤ (0) ∧ (0) ≤ 9223372036854775807 by omega) dX10_reckon_125
    · refine tf_lconst (z := 1) hx hb dX10_reckon_120 (by decide) ?_
      refine lv_goto (tgt := 125) hx hb dX10_reckon_121 (by decide) ?_
      exact tf_retl (z := 1) hx hb hr hlocks hQ hW (show (-9223372036854775808) ≤ (1) ∧ (1) ≤ 9223372036854775807 by omega) dX10_reckon_125
  · refine tf_tableOut (tgt := 113) hx hb dX10_reckon_1 ⟨by omega, by omega⟩ (by omega) (by decide) ?_
    refine lv_lload_n hx hb dX10_reckon_113 rfl (lv_at hl 2 rfl) ?_
    refine lv_lload hx hb dX10_reckon_114 (lv_at hl 3 rfl) ?_
    refine tf_lcmp hx hb ⟨by omega, by omega⟩ ⟨by omega, by omega⟩ dX10_reckon_116 (fun z17 hz17 => ?_)
    refine tf_if_ne (tgt := 124) hx hb ⟨by omega, by omega⟩ dX10_reckon_117 (by decide) (fun h18 => ?_) (fun h18 => ?_)
    · refine tf_lconst (z := 0) hx hb dX10_reckon_124 (by decide) ?_
      exact tf_retl (z := 0) hx hb hr hlocks hQ hW (show (-9223372036854775808) ≤ (0) ∧ (0) ≤ 9223372036854775807 by omega) dX10_reckon_125
    · refine tf_lconst (z := 1) hx hb dX10_reckon_120 (by decide) ?_
      refine lv_goto (tgt := 125) hx hb dX10_reckon_121 (by decide) ?_
      exact tf_retl (z := 1) hx hb hr hlocks hQ hW (show (-9223372036854775808) ≤ (1) ∧ (1) ≤ 9223372036854775807 by omega) dX10_reckon_125

abbrev M_X10_reckonAll : List (Nat × Nat) := [(39, 0), (50, 29), (50, 30)]
set_option maxHeartbeats 4000000 in
set_option maxRecDepth 100000 in
theorem c_X10_reckonAll (l : Launch) (g : tf_G) (T : tf_T) (a0 : Nat) (ha0 : T a0 = some (50, 0)) (x1 : Int) (hp1 : 0 ≤ x1 ∧ x1 ≤ 400) (x2 : Int) (hp2 : 0 ≤ x2 ∧ x2 ≤ 400) (b0 : Nat) (hb0 : T b0 = some (28, 5830)) (lw : Int) (hlw : 430 ≤ lw ∧ lw ≤ 4930) (r0 : Int → Int) (hq0 : tf_sg (fun k => r0 (lw + 98 + 2 * k)) (fun k => r0 (lw + 98 + 2 * k + 1)) (x1) (x2)) : Met l yX10_reckonAll (cd_X10_reckonAll :: wsL_law) ({ frames := 2, cells := 0, slots := 0, locals := 49 }) (tf_P g T [.ref a0, .int (Int32.ofInt x1), .int (Int32.ofInt x2)] (fun H => tf_s H a0 (g.1.2 10 3) = some (.ref b0) ∧ tf_s H a0 (g.1.2 10 26) = some (.int (Int32.ofInt lw)) ∧ tf_rw H b0 = r0)) (tf_Qv g M_X10_reckonAll T (fun _ H => True)) 0 0 (fun q => tf_B g ≤ q) := by
  refine Met.ofW (cc := cX10_reckonAll) (maxL := 7) (ret := none) (by decide) rfl ?_
  intro p e s m args below meth c s₁ B hml hv
  obtain ⟨hargs, hk, hW0, hB, hpre⟩ := hv
  obtain ⟨he0, he1, he2⟩ := hpre
  have hx := B.exec
  have hb := B.bytes
  have hr := B.returns
  have hts : ∀ w ∈ wsL_law, w.before args s = true := fun w h => atoms_spec (ws := cd_X10_reckonAll :: wsL_law) B.pre w (List.mem_cons_of_mem _ h)
  have hown : s.vm.findClass RX10 = some m.cls := findClass_of_methodNamed B.named
  have hlocks := B.notSynchronized
  have hK := hk.1
  have hW := tf_n.start (M := M_X10_reckonAll) hW0 hB
  obtain ⟨Q, hQ⟩ : ∃ q, q = MQ below (tf_Qv g M_X10_reckonAll T (fun _ H => True)) args s 0 0 (fun q => tf_B g ≤ q) := ⟨_, rfl⟩
  rw [← hQ]
  obtain ⟨R, hR⟩ : ∃ q, q = (headSpec (cd_X10_reckonAll :: wsL_law) ({ frames := 2, cells := 0, slots := 0, locals := 49 })).room := ⟨_, rfl⟩
  rw [← hR]
  have hR1 : 2 ≤ R.frames := by rw [hR]; exact Nat.le_refl _
  have hR2 : 49 ≤ R.locals := by rw [hR]; exact Nat.le_refl _
  have hR3 : 0 ≤ R.cells := by rw [hR]; exact Nat.le_refl _
  have hR4 : 0 ≤ R.slots := by rw [hR]; exact Nat.le_refl _
  have hin := (name_of_methodNamed B.named B.method).1
  clear hR B
  obtain ⟨hs0, hs1, hs2, d, hd0, hd⟩ := hq0
  have j_245 : ∀ (x3_245 : Int), 0 ≤ x3_245 ∧ x3_245 ≤ 400 → ∀ (H : Heap) (locs : List Loc), tf_n tf_kt g M_X10_reckonAll T s.heap T H locs → ∀ (ls : Array Slot), lv_has ls 7 [(0, .ref a0), (3, .int (Int32.ofInt x3_245))] → W p l e R s m args below meth c H locs 0 0 Q (F0 m 245 ls []) := by
    intro x3_245 hx3_245 H locs hW  ls hl
    refine lv_aload_n hx hb dX10_reckonAll_245 rfl (lv_at hl 0 rfl) ?_
    refine lv_iload_n hx hb dX10_reckonAll_246 rfl (lv_at hl 1 rfl) ?_
    refine tf_if_le (tgt := 259) hx hb ⟨by omega, by omega⟩ dX10_reckonAll_247 (by decide) (fun h1 => ?_) (fun h1 => ?_)
    · refine tf_lconst (z := 0) hx hb dX10_reckonAll_259 (by decide) ?_
      refine tf_put hx hb hts inlX10 tyX10 tyX10_ok nmX10 hown hK (ci := 10) rfl hW ha0 rfl rfl 30 rfl (by decide) (by decide) (hts _ fl_X10_345) rfl (tf_u5 (by omega) (by omega)) rfl rfl dX10_reckonAll_260 (fun H2 locs2 hW hs2 ht2 hq2 => ?_)
      exact tf_retv hx hb hr hlocks hQ hW trivial dX10_reckonAll_263
    · refine lv_aload_n hx hb dX10_reckonAll_250 rfl (lv_at hl 0 rfl) ?_
      refine tf_get hx hb hts inlX10 hown hK (ci := 10) rfl hW ha0 rfl 28 rfl (by decide) (hts _ fl_X10_70) dX10_reckonAll_251 (fun v3 hv3 hsv3 => ?_)
      obtain ⟨ad4, rfl, had4⟩ := tf_v1 hv3
      refine tf_iconst hx hb dX10_reckonAll_254 ?_
      refine tf_lald (t0 := 1) hx hb hK hW had4 rfl rfl (by omega) (by omega) dX10_reckonAll_255 (fun v5 hv5 hsv5 => ?_)
      obtain ⟨z6, rfl, hz6⟩ := tf_v5 hv5
      refine lv_goto (tgt := 260) hx hb dX10_reckonAll_256 (by decide) ?_
      refine tf_put hx hb hts inlX10 tyX10 tyX10_ok nmX10 hown hK (ci := 10) rfl hW ha0 rfl rfl 30 rfl (by decide) (by decide) (hts _ fl_X10_345) rfl (tf_u5 (by omega) (by omega)) rfl rfl dX10_reckonAll_260 (fun H7 locs7 hW hs7 ht7 hq7 => ?_)
      exact tf_retv hx hb hr hlocks hQ hW trivial dX10_reckonAll_263
  have j_10 : ∀ (n_10 : Nat), 0 ≤ x2 ∧ x2 ≤ 400 → ∀ (x3_10 : Int), 0 ≤ x3_10 ∧ x3_10 ≤ 400 → ∀ (x4_10 : Int), 0 ≤ x4_10 ∧ x4_10 ≤ 400 → ∀ (f29_10 : Int), 0 ≤ f29_10 ∧ f29_10 ≤ 1 → (x3_10 = d x4_10) → (x1 ≤ x4_10) → (x4_10 ≤ x2) → (x2 - x4_10 + 1 ≤ (n_10 : Int)) → ∀ (H : Heap) (locs : List Loc), tf_n tf_kt g M_X10_reckonAll T s.heap T H locs → tf_s H a0 (g.1.2 10 3) = some (.ref b0) → tf_s H a0 (g.1.2 10 26) = some (.int (Int32.ofInt lw)) → tf_rw H b0 = r0 → tf_s H a0 (g.1.2 10 29) = some (.int (Int32.ofInt f29_10)) → ∀ (ls : Array Slot), lv_has ls 7 [(0, .ref a0), (2, .int (Int32.ofInt x2)), (3, .int (Int32.ofInt x3_10)), (4, .int (Int32.ofInt x4_10))] → W p l e R s m args below meth c H locs 0 0 Q (F0 m 10 ls []) := by
    intro n_10
    induction n_10 with
    | zero =>
      intro hx2_10 x3_10 hx3_10 x4_10 hx4_10 f29_10 hf29_10 hi0_10 hi1_10 hi2_10 hm_10
      exfalso; omega
    | succ n_10 ih_10 =>
      intro hx2_10 x3_10 hx3_10 x4_10 hx4_10 f29_10 hf29_10 hi0_10 hi1_10 hi2_10 hm_10 H locs hW hs3_10 hs26_10 hcROW_10 hs29_10 ls hl
      have j_242 : 1 ≤ x2 ∧ x2 ≤ 400 → ∀ (x3_242 : Int), 0 ≤ x3_242 ∧ x3_242 ≤ 400 → ∀ (x4_242 : Int), 0 ≤ x4_242 ∧ x4_242 ≤ 400 → ∀ (f29_242 : Int), 0 ≤ f29_242 ∧ f29_242 ≤ 1 → (x3_242 = d x4_242) → (x1 ≤ x4_242) → (x4_242 ≤ x2) → (x4_10 < x4_242) → ∀ (H : Heap) (locs : List Loc), tf_n tf_kt g M_X10_reckonAll T s.heap T H locs → tf_s H a0 (g.1.2 10 3) = some (.ref b0) → tf_s H a0 (g.1.2 10 26) = some (.int (Int32.ofInt lw)) → tf_rw H b0 = r0 → tf_s H a0 (g.1.2 10 29) = some (.int (Int32.ofInt f29_242)) → ∀ (ls : Array Slot), lv_has ls 7 [(0, .ref a0), (2, .int (Int32.ofInt x2)), (3, .int (Int32.ofInt x3_242)), (4, .int (Int32.ofInt x4_242))] → W p l e R s m args below meth c H locs 0 0 Q (F0 m 242 ls []) := by
        intro hx2_242 x3_242 hx3_242 x4_242 hx4_242 f29_242 hf29_242 hi0_242 hi1_242 hi2_242 hi3_242 H locs hW hs3_242 hs26_242 hcROW_242 hs29_242 ls hl
        refine lv_goto (tgt := 10) hx hb dX10_reckonAll_242 (by decide) ?_
        exact ih_10 ⟨by omega, by omega⟩ (x3_242) ⟨by omega, by omega⟩ (x4_242) ⟨by omega, by omega⟩ (f29_242) ⟨by omega, by omega⟩ (by omega) (by omega) (by omega) (by omega) _ _ hW hs3_242 hs26_242 hcROW_242 hs29_242 _ (lv_sub hl [0, 1, 2, 3] rfl)
      have j_228 : 1 ≤ x2 ∧ x2 ≤ 400 → 0 ≤ x3_10 ∧ x3_10 ≤ 400 → ∀ (x4_228 : Int), 0 ≤ x4_228 ∧ x4_228 ≤ 401 → ∀ (x6_228 : Int), (-2147483648) ≤ x6_228 ∧ x6_228 ≤ 2147483647 → ∀ (y0_228 : Int), (-9223372036854775808) ≤ y0_228 ∧ y0_228 ≤ 9223372036854775807 → ∀ (y1_228 : Int), 0 ≤ y1_228 ∧ y1_228 ≤ 1 → ∀ (f29_228 : Int), 0 ≤ f29_228 ∧ f29_228 ≤ 0 → (x4_228 = x4_10 + 1) → (d x4_228 = x3_10 - 1) → (x4_10 < x6_228) → (x6_228 ≤ x2) → (d x6_228 = x3_10) → (1 ≤ x3_10) → (x4_10 < x2) → ∀ (H : Heap) (locs : List Loc), tf_n tf_kt g M_X10_reckonAll T s.heap T H locs → tf_s H a0 (g.1.2 10 3) = some (.ref b0) → tf_s H a0 (g.1.2 10 26) = some (.int (Int32.ofInt lw)) → tf_rw H b0 = r0 → tf_s H a0 (g.1.2 10 29) = some (.int (Int32.ofInt f29_228)) → ∀ (ls : Array Slot), lv_has ls 7 [(0, .ref a0), (2, .int (Int32.ofInt x2)), (3, .int (Int32.ofInt x3_10)), (4, .int (Int32.ofInt x4_228)), (6, .int (Int32.ofInt x6_228))] → W p l e R s m args below meth c H locs 0 0 Q (F0 m 228 ls [.long (Int64.ofInt y1_228), .long (Int64.ofInt y0_228)]) := by
        intro hx2_228 hx3_228 x4_228 hx4_228 x6_228 hx6_228 y0_228 hy0_228 y1_228 hy1_228 f29_228 hf29_228 hi0_228 hi1_228 hi2_228 hi3_228 hi4_228 hi5_228 hi6_228 H locs hW hs3_228 hs26_228 hcROW_228 hs29_228 ls hl
        refine tf_lcmp hx hb ⟨by omega, by omega⟩ ⟨by omega, by omega⟩ dX10_reckonAll_228 (fun z8 hz8 => ?_)
        refine tf_if_ne (tgt := 239) hx hb ⟨by omega, by omega⟩ dX10_reckonAll_229 (by decide) (fun h9 => ?_) (fun h9 => ?_)
        · refine lv_iinc (v := Int32.ofInt ((x3_10 + (-1)))) (lv' := [(3, .int (Int32.ofInt ((x3_10 + (-1))))), (0, .ref a0), (2, .int (Int32.ofInt x2)), (4, .int (Int32.ofInt x4_228)), (6, .int (Int32.ofInt x6_228))]) hx hb dX10_reckonAll_239 hl (k := 2) rfl (Int32.ofInt_add _ _).symm (by decide) rfl (fun ls hl => ?_)
          exact j_242 ⟨by omega, by omega⟩ ((x3_10 + (-1))) ⟨by omega, by omega⟩ (x4_228) ⟨by omega, by omega⟩ (f29_228) ⟨by omega, by omega⟩ (by omega) (by omega) (by omega) (by omega) _ _ hW hs3_228 hs26_228 hcROW_228 hs29_228 _ (lv_sub hl [1, 2, 0, 3] rfl)
        · refine lv_iload hx hb dX10_reckonAll_232 (lv_at hl 4 rfl) ?_
          refine lv_istore (lv' := [(4, .int (Int32.ofInt x6_228)), (0, .ref a0), (2, .int (Int32.ofInt x2)), (3, .int (Int32.ofInt x3_10)), (6, .int (Int32.ofInt x6_228))]) hx hb dX10_reckonAll_234 hl (by decide) rfl (fun ls hl => ?_)
          refine lv_goto (tgt := 242) hx hb dX10_reckonAll_236 (by decide) ?_
          exact j_242 ⟨by omega, by omega⟩ (x3_10) ⟨by omega, by omega⟩ (x6_228) ⟨by omega, by omega⟩ (f29_228) ⟨by omega, by omega⟩ (by omega) (by omega) (by omega) (by omega) _ _ hW hs3_228 hs26_228 hcROW_228 hs29_228 _ (lv_sub hl [1, 2, 3, 0] rfl)
      have j_174 : 1 ≤ x2 ∧ x2 ≤ 400 → ∀ (x3_174 : Int), 0 ≤ x3_174 ∧ x3_174 ≤ 400 → ∀ (x4_174 : Int), 0 ≤ x4_174 ∧ x4_174 ≤ 401 → ∀ (y1_174 : Int), 0 ≤ y1_174 ∧ y1_174 ≤ 1 → (x4_174 = x4_10 + 1) → (x3_174 = d x4_174) → (x4_10 < x2) → ∀ (H : Heap) (locs : List Loc), tf_n tf_kt g M_X10_reckonAll T s.heap T H locs → tf_s H a0 (g.1.2 10 3) = some (.ref b0) → tf_s H a0 (g.1.2 10 26) = some (.int (Int32.ofInt lw)) → tf_rw H b0 = r0 → ∀ (ls : Array Slot), lv_has ls 7 [(0, .ref a0), (2, .int (Int32.ofInt x2)), (3, .int (Int32.ofInt x3_174)), (4, .int (Int32.ofInt x4_174))] → W p l e R s m args below meth c H locs 0 0 Q (F0 m 174 ls [.int (Int32.ofInt y1_174), .ref a0]) := by
        intro hx2_174 x3_174 hx3_174 x4_174 hx4_174 y1_174 hy1_174 hi0_174 hi1_174 hi2_174 H locs hW hs3_174 hs26_174 hcROW_174 ls hl
        refine tf_put hx hb hts inlX10 tyX10 tyX10_ok nmX10 hown hK (ci := 10) rfl hW ha0 rfl rfl 29 rfl (by decide) (by decide) (hts _ fl_X10_331) rfl (tf_u0 (by omega) (by omega)) (tf_narZ (by omega)) (tf_fitZ (by omega)) dX10_reckonAll_174 (fun H10 locs10 hW hs10 ht10 hq10 => ?_)
        have hs11 := (ht10 3 (by decide) (by decide)).trans hs3_174
        have hs12 := (ht10 26 (by decide) (by decide)).trans hs26_174
        have hs13 := tf_keepCQ hcROW_174 (hq10 _ (tf_ne hb0 ha0 (by decide)))
        refine lv_goto (tgt := 242) hx hb dX10_reckonAll_177 (by decide) ?_
        exact j_242 ⟨by omega, by omega⟩ (x3_174) ⟨by omega, by omega⟩ (x4_174) ⟨by omega, by omega⟩ (y1_174) ⟨by omega, by omega⟩ (by omega) (by omega) (by omega) (by omega) _ _ hW hs11 hs12 hs13 hs10 _ (lv_sub hl [0, 1, 2, 3] rfl)
      have j_169 : 1 ≤ x2 ∧ x2 ≤ 400 → ∀ (x3_169 : Int), 0 ≤ x3_169 ∧ x3_169 ≤ 400 → ∀ (x4_169 : Int), 0 ≤ x4_169 ∧ x4_169 ≤ 401 → (x4_169 = x4_10 + 1) → (x3_169 = d x4_169) → (x4_10 < x2) → ∀ (H : Heap) (locs : List Loc), tf_n tf_kt g M_X10_reckonAll T s.heap T H locs → tf_s H a0 (g.1.2 10 3) = some (.ref b0) → tf_s H a0 (g.1.2 10 26) = some (.int (Int32.ofInt lw)) → tf_rw H b0 = r0 → ∀ (ls : Array Slot), lv_has ls 7 [(0, .ref a0), (2, .int (Int32.ofInt x2)), (3, .int (Int32.ofInt x3_169)), (4, .int (Int32.ofInt x4_169))] → W p l e R s m args below meth c H locs 0 0 Q (F0 m 169 ls [.ref a0]) := by
        intro hx2_169 x3_169 hx3_169 x4_169 hx4_169 hi0_169 hi1_169 hi2_169 H locs hW hs3_169 hs26_169 hcROW_169 ls hl
        refine tf_iconst hx hb dX10_reckonAll_169 ?_
        refine lv_goto (tgt := 174) hx hb dX10_reckonAll_170 (by decide) ?_
        exact j_174 ⟨by omega, by omega⟩ (x3_169) ⟨by omega, by omega⟩ (x4_169) ⟨by omega, by omega⟩ (1) ⟨by omega, by omega⟩ (by omega) (by omega) (by omega) _ _ hW hs3_169 hs26_169 hcROW_169 _ (lv_sub hl [0, 1, 2, 3] rfl)
      have j_96 : 1 ≤ x2 ∧ x2 ≤ 400 → 0 ≤ x3_10 ∧ x3_10 ≤ 400 → ∀ (x4_96 : Int), 0 ≤ x4_96 ∧ x4_96 ≤ 401 → ∀ (b0_96 : Nat), T b0_96 = some (39, 400) → 0 ≤ x3_10 ∧ x3_10 ≤ 400 → ∀ (y2_96 : Int), (-9223372036854775808) ≤ y2_96 ∧ y2_96 ≤ 9223372036854775807 → ∀ (f29_96 : Int), 0 ≤ f29_96 ∧ f29_96 ≤ 0 → (x4_96 = x4_10 + 1) → (d x4_96 = x3_10 + 1) → (x4_10 < x2) → (x3_10 < 400) → ∀ (H : Heap) (locs : List Loc), tf_n tf_kt g M_X10_reckonAll T s.heap T H locs → tf_s H a0 (g.1.2 10 3) = some (.ref b0) → tf_s H a0 (g.1.2 10 26) = some (.int (Int32.ofInt lw)) → tf_rw H b0 = r0 → tf_s H a0 (g.1.2 10 29) = some (.int (Int32.ofInt f29_96)) → ∀ (ls : Array Slot), lv_has ls 7 [(0, .ref a0), (2, .int (Int32.ofInt x2)), (3, .int (Int32.ofInt x3_10)), (4, .int (Int32.ofInt x4_96))] → W p l e R s m args below meth c H locs 0 0 Q (F0 m 96 ls [.long (Int64.ofInt y2_96), .int (Int32.ofInt x3_10), .ref b0_96]) := by
        intro hx2_96 hx3_96 x4_96 hx4_96 b0_96 hb0_96 hy1_96 y2_96 hy2_96 f29_96 hf29_96 hi0_96 hi1_96 hi2_96 hi3_96 H locs hW hs3_96 hs26_96 hcROW_96 hs29_96 ls hl
        refine tf_last (t0 := 1) hx hb hK hW hb0_96 rfl rfl (by omega) (by omega) (by decide) (tf_u5 (by omega) (by omega)) dX10_reckonAll_96 (fun H14 locs14 hW hs14 ht14 hq14 => ?_)
        have hs15 := tf_keepQ hs3_96 (hq14 _ (tf_ne ha0 hb0_96 (by decide)))
        have hs16 := tf_keepQ hs26_96 (hq14 _ (tf_ne ha0 hb0_96 (by decide)))
        have hs17 := tf_keepCQ hcROW_96 (hq14 _ (tf_ne hb0 hb0_96 (by decide)))
        have hs18 := tf_keepQ hs29_96 (hq14 _ (tf_ne ha0 hb0_96 (by decide)))
        refine lv_iinc (v := Int32.ofInt ((x3_10 + 1))) (lv' := [(3, .int (Int32.ofInt ((x3_10 + 1)))), (0, .ref a0), (2, .int (Int32.ofInt x2)), (4, .int (Int32.ofInt x4_96))]) hx hb dX10_reckonAll_97 hl (k := 2) rfl (Int32.ofInt_add _ _).symm (by decide) rfl (fun ls hl => ?_)
        refine lv_goto (tgt := 242) hx hb dX10_reckonAll_100 (by decide) ?_
        exact j_242 ⟨by omega, by omega⟩ ((x3_10 + 1)) ⟨by omega, by omega⟩ (x4_96) ⟨by omega, by omega⟩ (f29_96) ⟨by omega, by omega⟩ (by omega) (by omega) (by omega) (by omega) _ _ hW hs15 hs16 hs17 hs18 _ (lv_sub hl [1, 2, 0, 3] rfl)
      refine lv_iload hx hb dX10_reckonAll_10 (lv_at hl 3 rfl) ?_
      refine lv_iload_n hx hb dX10_reckonAll_12 rfl (lv_at hl 1 rfl) ?_
      refine tf_icmp_ge (tgt := 245) hx hb ⟨by omega, by omega⟩ ⟨by omega, by omega⟩ dX10_reckonAll_13 (by decide) (fun h19 => ?_) (fun h19 => ?_)
      · exact j_245 (x3_10) ⟨by omega, by omega⟩ _ _ hW  _ (lv_sub hl [0, 2] rfl)
      · refine lv_aload_n hx hb dX10_reckonAll_16 rfl (lv_at hl 0 rfl) ?_
        refine tf_get hx hb hts inlX10 hown hK (ci := 10) rfl hW ha0 rfl 29 rfl (by decide) (hts _ fl_X10_331) dX10_reckonAll_17 (fun v20 hv20 hsv20 => ?_)
        obtain rfl : v20 = .int (Int32.ofInt f29_10) := Option.some.inj (hsv20.symm.trans hs29_10)
        refine tf_if_ne (tgt := 245) hx hb ⟨by omega, by omega⟩ dX10_reckonAll_20 (by decide) (fun h21 => ?_) (fun h21 => ?_)
        · exact j_245 (x3_10) ⟨by omega, by omega⟩ _ _ hW  _ (lv_sub hl [0, 2] rfl)
        · refine lv_aload_n hx hb dX10_reckonAll_23 rfl (lv_at hl 0 rfl) ?_
          refine tf_get hx hb hts inlX10 hown hK (ci := 10) rfl hW ha0 rfl 3 rfl (by decide) (hts _ fl_X10_13) dX10_reckonAll_24 (fun v22 hv22 hsv22 => ?_)
          obtain rfl : v22 = .ref b0 := Option.some.inj (hsv22.symm.trans hs3_10)
          refine lv_aload_n hx hb dX10_reckonAll_27 rfl (lv_at hl 0 rfl) ?_
          refine tf_get hx hb hts inlX10 hown hK (ci := 10) rfl hW ha0 rfl 26 rfl (by decide) (hts _ fl_X10_334) dX10_reckonAll_28 (fun v23 hv23 hsv23 => ?_)
          obtain rfl : v23 = .int (Int32.ofInt lw) := Option.some.inj (hsv23.symm.trans hs26_10)
          refine tf_bipush hx hb dX10_reckonAll_31 (by decide) ?_
          refine tf_iadd hx hb dX10_reckonAll_33 ?_
          refine tf_iconst hx hb dX10_reckonAll_34 ?_
          refine lv_iload hx hb dX10_reckonAll_35 (lv_at hl 3 rfl) ?_
          refine tf_imul hx hb dX10_reckonAll_37 ?_
          refine tf_iadd hx hb dX10_reckonAll_38 ?_
          refine tf_iald (t0 := 0) hx hb hK hW hb0 rfl rfl (by omega) (by omega) dX10_reckonAll_39 (fun v24 hv24 hsv24 => ?_)
          obtain ⟨z25, rfl, hz25⟩ := tf_v0 hv24
          have er26 : r0 ((lw + 98) + (2 * x4_10)) = z25 := hcROW_10 ▸ tf_rw_of (by omega) hsv24 ⟨by omega, by omega⟩
          refine lv_istore (lv' := [(5, .int (Int32.ofInt z25)), (0, .ref a0), (2, .int (Int32.ofInt x2)), (3, .int (Int32.ofInt x3_10)), (4, .int (Int32.ofInt x4_10))]) hx hb dX10_reckonAll_40 hl (by decide) rfl (fun ls hl => ?_)
          refine lv_aload_n hx hb dX10_reckonAll_42 rfl (lv_at hl 1 rfl) ?_
          refine tf_get hx hb hts inlX10 hown hK (ci := 10) rfl hW ha0 rfl 3 rfl (by decide) (hts _ fl_X10_13) dX10_reckonAll_43 (fun v27 hv27 hsv27 => ?_)
          obtain rfl : v27 = .ref b0 := Option.some.inj (hsv27.symm.trans hs3_10)
          refine lv_aload_n hx hb dX10_reckonAll_46 rfl (lv_at hl 1 rfl) ?_
          refine tf_get hx hb hts inlX10 hown hK (ci := 10) rfl hW ha0 rfl 26 rfl (by decide) (hts _ fl_X10_334) dX10_reckonAll_47 (fun v28 hv28 hsv28 => ?_)
          obtain rfl : v28 = .int (Int32.ofInt lw) := Option.some.inj (hsv28.symm.trans hs26_10)
          refine tf_bipush hx hb dX10_reckonAll_50 (by decide) ?_
          refine tf_iadd hx hb dX10_reckonAll_52 ?_
          refine tf_iconst hx hb dX10_reckonAll_53 ?_
          refine lv_iload hx hb dX10_reckonAll_54 (lv_at hl 4 rfl) ?_
          refine tf_imul hx hb dX10_reckonAll_56 ?_
          refine tf_iadd hx hb dX10_reckonAll_57 ?_
          refine tf_iconst hx hb dX10_reckonAll_58 ?_
          refine tf_iadd hx hb dX10_reckonAll_59 ?_
          refine tf_iald (t0 := 0) hx hb hK hW hb0 rfl rfl (by omega) (by omega) dX10_reckonAll_60 (fun v29 hv29 hsv29 => ?_)
          obtain ⟨z30, rfl, hz30⟩ := tf_v0 hv29
          have er31 : r0 (((lw + 98) + (2 * x4_10)) + 1) = z30 := hcROW_10 ▸ tf_rw_of (by omega) hsv29 ⟨by omega, by omega⟩
          refine lv_istore (lv' := [(6, .int (Int32.ofInt z30)), (5, .int (Int32.ofInt z25)), (0, .ref a0), (2, .int (Int32.ofInt x2)), (3, .int (Int32.ofInt x3_10)), (4, .int (Int32.ofInt x4_10))]) hx hb dX10_reckonAll_61 hl (by decide) rfl (fun ls hl => ?_)
          obtain ⟨hk1, hk2, hk3⟩ := hd x4_10 (by omega) (by omega)
          have hk4 : tf_stp z25 z30 x4_10 x2 d := by rw [← er26, ← er31]; exact hk3
          unfold tf_stp at hk4
          refine lv_iinc (v := Int32.ofInt ((x4_10 + 1))) (lv' := [(4, .int (Int32.ofInt ((x4_10 + 1)))), (6, .int (Int32.ofInt z30)), (5, .int (Int32.ofInt z25)), (0, .ref a0), (2, .int (Int32.ofInt x2)), (3, .int (Int32.ofInt x3_10))]) hx hb dX10_reckonAll_63 hl (k := 5) rfl (Int32.ofInt_add _ _).symm (by decide) rfl (fun ls hl => ?_)
          refine lv_iload hx hb dX10_reckonAll_66 (lv_at hl 2 rfl) ?_
          refine tf_bipush hx hb dX10_reckonAll_68 (by decide) ?_
          refine tf_icmp_ge (tgt := 103) hx hb ⟨by omega, by omega⟩ ⟨by decide, by decide⟩ dX10_reckonAll_70 (by decide) (fun h32 => ?_) (fun h32 => ?_)
          · refine lv_iload hx hb dX10_reckonAll_103 (lv_at hl 2 rfl) ?_
            refine tf_bipush hx hb dX10_reckonAll_105 (by decide) ?_
            refine tf_icmp_ge (tgt := 180) hx hb ⟨by omega, by omega⟩ ⟨by decide, by decide⟩ dX10_reckonAll_107 (by decide) (fun h33 => ?_) (fun h33 => ?_)
            · refine lv_iload hx hb dX10_reckonAll_180 (lv_at hl 2 rfl) ?_
              refine tf_bipush hx hb dX10_reckonAll_182 (by decide) ?_
              refine tf_icmp_ne (tgt := 208) hx hb ⟨by omega, by omega⟩ ⟨by decide, by decide⟩ dX10_reckonAll_184 (by decide) (fun h34 => ?_) (fun h34 => ?_)
              · refine lv_aload_n hx hb dX10_reckonAll_208 rfl (lv_at hl 3 rfl) ?_
                refine tf_get hx hb hts inlX10 hown hK (ci := 10) rfl hW ha0 rfl 28 rfl (by decide) (hts _ fl_X10_70) dX10_reckonAll_209 (fun v35 hv35 hsv35 => ?_)
                obtain ⟨ad36, rfl, had36⟩ := tf_v1 hv35
                refine lv_iload_n hx hb dX10_reckonAll_212 rfl (lv_at hl 5 rfl) ?_
                refine tf_iconst hx hb dX10_reckonAll_213 ?_
                refine tf_isub hx hb dX10_reckonAll_214 ?_
                refine tf_lald (t0 := 1) hx hb hK hW had36 rfl rfl (by omega) (by omega) dX10_reckonAll_215 (fun v37 hv37 hsv37 => ?_)
                obtain ⟨z38, rfl, hz38⟩ := tf_v5 hv37
                refine lv_iload hx hb dX10_reckonAll_216 (lv_at hl 2 rfl) ?_
                refine tf_bipush hx hb dX10_reckonAll_218 (by decide) ?_
                refine tf_icmp_ne (tgt := 227) hx hb ⟨by omega, by omega⟩ ⟨by decide, by decide⟩ dX10_reckonAll_220 (by decide) (fun h39 => ?_) (fun h39 => ?_)
                · refine tf_lconst (z := 1) hx hb dX10_reckonAll_227 (by decide) ?_
                  exact j_228 ⟨by omega, by omega⟩ ⟨by omega, by omega⟩ ((x4_10 + 1)) ⟨by omega, by omega⟩ (z30) ⟨by omega, by omega⟩ (z38) ⟨by omega, by omega⟩ (1) ⟨by omega, by omega⟩ (f29_10) ⟨by omega, by omega⟩ (by omega) (by omega) (by omega) (by omega) (by omega) (by omega) (by omega) _ _ hW hs3_10 hs26_10 hcROW_10 hs29_10 _ (lv_sub hl [3, 4, 5, 0, 1] rfl)
                · refine tf_lconst (z := 0) hx hb dX10_reckonAll_223 (by decide) ?_
                  refine lv_goto (tgt := 228) hx hb dX10_reckonAll_224 (by decide) ?_
                  exact j_228 ⟨by omega, by omega⟩ ⟨by omega, by omega⟩ ((x4_10 + 1)) ⟨by omega, by omega⟩ (z30) ⟨by omega, by omega⟩ (z38) ⟨by omega, by omega⟩ (0) ⟨by omega, by omega⟩ (f29_10) ⟨by omega, by omega⟩ (by omega) (by omega) (by omega) (by omega) (by omega) (by omega) (by omega) _ _ hW hs3_10 hs26_10 hcROW_10 hs29_10 _ (lv_sub hl [3, 4, 5, 0, 1] rfl)
              · refine lv_aload_n hx hb dX10_reckonAll_187 rfl (lv_at hl 3 rfl) ?_
                refine tf_get hx hb hts inlX10 hown hK (ci := 10) rfl hW ha0 rfl 28 rfl (by decide) (hts _ fl_X10_70) dX10_reckonAll_188 (fun v40 hv40 hsv40 => ?_)
                obtain ⟨ad41, rfl, had41⟩ := tf_v1 hv40
                refine lv_iload_n hx hb dX10_reckonAll_191 rfl (lv_at hl 5 rfl) ?_
                refine tf_iconst hx hb dX10_reckonAll_192 ?_
                refine tf_isub hx hb dX10_reckonAll_193 ?_
                refine tf_lconst (z := 1) hx hb dX10_reckonAll_194 (by decide) ?_
                refine lv_aload_n hx hb dX10_reckonAll_195 rfl (lv_at hl 3 rfl) ?_
                refine tf_get hx hb hts inlX10 hown hK (ci := 10) rfl hW ha0 rfl 28 rfl (by decide) (hts _ fl_X10_70) dX10_reckonAll_196 (fun v42 hv42 hsv42 => ?_)
                obtain rfl : v42 = .ref ad41 := Option.some.inj (hsv42.symm.trans hsv40)
                refine lv_iload_n hx hb dX10_reckonAll_199 rfl (lv_at hl 5 rfl) ?_
                refine tf_iconst hx hb dX10_reckonAll_200 ?_
                refine tf_isub hx hb dX10_reckonAll_201 ?_
                refine tf_lald (t0 := 1) hx hb hK hW had41 rfl rfl (by omega) (by omega) dX10_reckonAll_202 (fun v43 hv43 hsv43 => ?_)
                obtain ⟨z44, rfl, hz44⟩ := tf_v5 hv43
                refine tf_lsub_c hx hb dX10_reckonAll_203 (fun z45 hz45 kz45 => ?_)
                refine tf_last (t0 := 1) hx hb hK hW had41 rfl rfl (by omega) (by omega) (by decide) (tf_u5 (by omega) (by omega)) dX10_reckonAll_204 (fun H46 locs46 hW hs46 ht46 hq46 => ?_)
                have hs47 := tf_keepQ hs3_10 (hq46 _ (tf_ne ha0 had41 (by decide)))
                have hs48 := tf_keepQ hs26_10 (hq46 _ (tf_ne ha0 had41 (by decide)))
                have hs49 := tf_keepCQ hcROW_10 (hq46 _ (tf_ne hb0 had41 (by decide)))
                have hs50 := tf_keepQ hs29_10 (hq46 _ (tf_ne ha0 had41 (by decide)))
                have hs51 := tf_keepQ hsv40 (hq46 _ (tf_ne ha0 had41 (by decide)))
                refine lv_goto (tgt := 242) hx hb dX10_reckonAll_205 (by decide) ?_
                exact j_242 ⟨by omega, by omega⟩ (x3_10) ⟨by omega, by omega⟩ ((x4_10 + 1)) ⟨by omega, by omega⟩ (f29_10) ⟨by omega, by omega⟩ (by omega) (by omega) (by omega) (by omega) _ _ hW hs47 hs48 hs49 hs50 _ (lv_sub hl [3, 4, 5, 0] rfl)
            · refine lv_iinc (v := Int32.ofInt ((x3_10 + (-1)))) (lv' := [(3, .int (Int32.ofInt ((x3_10 + (-1))))), (4, .int (Int32.ofInt ((x4_10 + 1)))), (6, .int (Int32.ofInt z30)), (5, .int (Int32.ofInt z25)), (0, .ref a0), (2, .int (Int32.ofInt x2))]) hx hb dX10_reckonAll_110 hl (k := 5) rfl (Int32.ofInt_add _ _).symm (by decide) rfl (fun ls hl => ?_)
              refine lv_aload_n hx hb dX10_reckonAll_113 rfl (lv_at hl 4 rfl) ?_
              refine tf_get hx hb hts inlX10 hown hK (ci := 10) rfl hW ha0 rfl 28 rfl (by decide) (hts _ fl_X10_70) dX10_reckonAll_114 (fun v52 hv52 hsv52 => ?_)
              obtain ⟨ad53, rfl, had53⟩ := tf_v1 hv52
              refine lv_iload_n hx hb dX10_reckonAll_117 rfl (lv_at hl 0 rfl) ?_
              refine tf_iconst hx hb dX10_reckonAll_118 ?_
              refine tf_isub hx hb dX10_reckonAll_119 ?_
              refine lv_aload_n hx hb dX10_reckonAll_120 rfl (lv_at hl 4 rfl) ?_
              refine lv_iload hx hb dX10_reckonAll_121 (lv_at hl 3 rfl) ?_
              refine lv_aload_n hx hb dX10_reckonAll_123 rfl (lv_at hl 4 rfl) ?_
              refine tf_get hx hb hts inlX10 hown hK (ci := 10) rfl hW ha0 rfl 28 rfl (by decide) (hts _ fl_X10_70) dX10_reckonAll_124 (fun v54 hv54 hsv54 => ?_)
              obtain rfl : v54 = .ref ad53 := Option.some.inj (hsv54.symm.trans hsv52)
              refine lv_iload_n hx hb dX10_reckonAll_127 rfl (lv_at hl 0 rfl) ?_
              refine tf_iconst hx hb dX10_reckonAll_128 ?_
              refine tf_isub hx hb dX10_reckonAll_129 ?_
              refine tf_lald (t0 := 1) hx hb hK hW had53 rfl rfl (by omega) (by omega) dX10_reckonAll_130 (fun v55 hv55 hsv55 => ?_)
              obtain ⟨z56, rfl, hz56⟩ := tf_v5 hv55
              refine lv_aload_n hx hb dX10_reckonAll_131 rfl (lv_at hl 4 rfl) ?_
              refine tf_get hx hb hts inlX10 hown hK (ci := 10) rfl hW ha0 rfl 28 rfl (by decide) (hts _ fl_X10_70) dX10_reckonAll_132 (fun v57 hv57 hsv57 => ?_)
              obtain rfl : v57 = .ref ad53 := Option.some.inj (hsv57.symm.trans hsv52)
              refine lv_iload_n hx hb dX10_reckonAll_135 rfl (lv_at hl 0 rfl) ?_
              refine tf_lald (t0 := 1) hx hb hK hW had53 rfl rfl (by omega) (by omega) dX10_reckonAll_136 (fun v58 hv58 hsv58 => ?_)
              obtain ⟨z59, rfl, hz59⟩ := tf_v5 hv58
              refine tf_calll (va_runV (As := [.int (Int32.ofInt z25), .long (Int64.ofInt z56), .long (Int64.ofInt z59)]) (rest := [.int (Int32.ofInt (((x3_10 + (-1)) - 1))), .ref ad53]) ⟨hx, hb, hml, hown, hts⟩ (c_X10_reckon l g T a0 ha0 (z25) ⟨by omega, by omega⟩ (z56) ⟨by omega, by omega⟩ (z59) ⟨by omega, by omega⟩) (cwV 3 hts gv_X10_337 rfl rfl rfl hd_X10_reckon ⟨Nat.le_trans (by decide) hR1, Nat.le_trans (by decide) hR2⟩) (tf_preV hk hW ha0 (ci := 10) rfl rfl trivial) rfl rfl hl.1 rfl (lv_room (Nat.le_of_ble_eq_true rfl)) dX10_reckonAll_137 ⟨Nat.zero_le _, Nat.zero_le _⟩) hW (by decide) (fun z60 H60 locs60 hW hF60 hp60 => ?_)
              have hs61 := tf_keepF hF60 ha0 rfl rfl (by decide) hs3_10
              have hs62 := tf_keepF hF60 ha0 rfl rfl (by decide) hs26_10
              have hs63 := tf_keepC hF60 hb0 rfl (by decide) hcROW_10
              have hs64 := tf_keepF hF60 ha0 rfl rfl (by decide) hsv52
              obtain ⟨hp60_0, hp60_1⟩ := hp60
              refine tf_last (t0 := 1) hx hb hK hW had53 rfl rfl (by omega) (by omega) (by decide) (tf_u5 (by omega) (by omega)) dX10_reckonAll_140 (fun H65 locs65 hW hs65 ht65 hq65 => ?_)
              have hs66 := tf_keepQ hs61 (hq65 _ (tf_ne ha0 had53 (by decide)))
              have hs67 := tf_keepQ hs62 (hq65 _ (tf_ne ha0 had53 (by decide)))
              have hs68 := tf_keepCQ hs63 (hq65 _ (tf_ne hb0 had53 (by decide)))
              have hs69 := tf_keepQ hs64 (hq65 _ (tf_ne ha0 had53 (by decide)))
              refine lv_aload_n hx hb dX10_reckonAll_141 rfl (lv_at hl 4 rfl) ?_
              refine lv_aload_n hx hb dX10_reckonAll_142 rfl (lv_at hl 4 rfl) ?_
              refine tf_get hx hb hts inlX10 hown hK (ci := 10) rfl hW ha0 rfl 29 rfl (by decide) (hts _ fl_X10_331) dX10_reckonAll_143 (fun v70 hv70 hsv70 => ?_)
              obtain ⟨z71, rfl, hz71⟩ := tf_v0 hv70
              refine tf_if_ne (tgt := 169) hx hb ⟨by omega, by omega⟩ dX10_reckonAll_146 (by decide) (fun h72 => ?_) (fun h72 => ?_)
              · exact j_169 ⟨by omega, by omega⟩ ((x3_10 + (-1))) ⟨by omega, by omega⟩ ((x4_10 + 1)) ⟨by omega, by omega⟩ (by omega) (by omega) (by omega) _ _ hW hs66 hs67 hs68 _ (lv_sub hl [4, 5, 0, 1] rfl)
              · refine lv_aload_n hx hb dX10_reckonAll_149 rfl (lv_at hl 4 rfl) ?_
                refine tf_get hx hb hts inlX10 hown hK (ci := 10) rfl hW ha0 rfl 28 rfl (by decide) (hts _ fl_X10_70) dX10_reckonAll_150 (fun v73 hv73 hsv73 => ?_)
                obtain rfl : v73 = .ref ad53 := Option.some.inj (hsv73.symm.trans hs69)
                refine lv_iload_n hx hb dX10_reckonAll_153 rfl (lv_at hl 0 rfl) ?_
                refine tf_iconst hx hb dX10_reckonAll_154 ?_
                refine tf_isub hx hb dX10_reckonAll_155 ?_
                refine tf_lald (t0 := 1) hx hb hK hW had53 rfl rfl (by omega) (by omega) dX10_reckonAll_156 (fun v74 hv74 hsv74 => ?_)
                obtain ⟨z75, rfl, hz75⟩ := tf_v5 hv74
                refine tf_ldc2 (z := -1000000000) hx hb hown (hts _ kl_X10_341) (by decide) dX10_reckonAll_157 ?_
                refine tf_ldc2 (z := 1000000000) hx hb hown (hts _ kl_X10_343) (by decide) dX10_reckonAll_160 ?_
                refine tf_calli (va_runS (As := [.long (Int64.ofInt z75), .long (Int64.ofInt ((-1000000000))), .long (Int64.ofInt 1000000000)]) (rest := [.ref a0]) ⟨hx, hb, hml, hown, hts⟩ (c_X10_in l g T (z75) ⟨by omega, by omega⟩ ((-1000000000)) ⟨by omega, by omega⟩ (1000000000) ⟨by omega, by omega⟩) ⟨callB_of 3 hts (gw_ws cm_X10_in) rfl rfl rfl (hts _ (tw1 (i := 5) rfl)) (hts _ (tw11 (i := 3) rfl)) hd_X10_in.2 ⟨Nat.le_trans (by decide) hR1, Nat.le_trans (by decide) hR2⟩, hts _ (tw11 (i := 4) rfl)⟩ (tf_preS hk hW trivial) rfl rfl hl.1 rfl (lv_room (Nat.le_of_ble_eq_true rfl)) dX10_reckonAll_163 ⟨Nat.zero_le _, Nat.zero_le _⟩) hW (by decide) (fun z76 H76 locs76 hW hF76 hp76 => ?_)
                have hs77 := tf_keepF hF76 ha0 rfl rfl (by decide) hs66
                have hs78 := tf_keepF hF76 ha0 rfl rfl (by decide) hs67
                have hs79 := tf_keepC hF76 hb0 rfl (by decide) hs68
                have hs80 := tf_keepF hF76 ha0 rfl rfl (by decide) hs69
                rcases hp76 with ⟨rfl, h81, h82⟩ | ⟨rfl, h83⟩
                · refine tf_if_ne (tgt := 173) hx hb ⟨by decide, by decide⟩ dX10_reckonAll_166 (by decide) (fun h84 => ?_) (fun h84 => ?_)
                  · refine tf_iconst hx hb dX10_reckonAll_173 ?_
                    exact j_174 ⟨by omega, by omega⟩ ((x3_10 + (-1))) ⟨by omega, by omega⟩ ((x4_10 + 1)) ⟨by omega, by omega⟩ (0) ⟨by omega, by omega⟩ (by omega) (by omega) (by omega) _ _ hW hs77 hs78 hs79 _ (lv_sub hl [4, 5, 0, 1] rfl)
                  · exfalso; omega
                · refine tf_if_ne (tgt := 173) hx hb ⟨by decide, by decide⟩ dX10_reckonAll_166 (by decide) (fun h85 => ?_) (fun h85 => ?_)
                  · exfalso; omega
                  · exact j_169 ⟨by omega, by omega⟩ ((x3_10 + (-1))) ⟨by omega, by omega⟩ ((x4_10 + 1)) ⟨by omega, by omega⟩ (by omega) (by omega) (by omega) _ _ hW hs77 hs78 hs79 _ (lv_sub hl [4, 5, 0, 1] rfl)
          · refine lv_aload_n hx hb dX10_reckonAll_73 rfl (lv_at hl 3 rfl) ?_
            refine tf_get hx hb hts inlX10 hown hK (ci := 10) rfl hW ha0 rfl 28 rfl (by decide) (hts _ fl_X10_70) dX10_reckonAll_74 (fun v86 hv86 hsv86 => ?_)
            obtain ⟨ad87, rfl, had87⟩ := tf_v1 hv86
            refine lv_iload_n hx hb dX10_reckonAll_77 rfl (lv_at hl 5 rfl) ?_
            refine lv_iload hx hb dX10_reckonAll_78 (lv_at hl 2 rfl) ?_
            refine tf_if_ne (tgt := 89) hx hb ⟨by omega, by omega⟩ dX10_reckonAll_80 (by decide) (fun h88 => ?_) (fun h88 => ?_)
            · refine lv_aload_n hx hb dX10_reckonAll_89 rfl (lv_at hl 3 rfl) ?_
              refine tf_get hx hb hts inlX10 hown hK (ci := 10) rfl hW ha0 rfl 27 rfl (by decide) (hts _ fl_X10_67) dX10_reckonAll_90 (fun v89 hv89 hsv89 => ?_)
              obtain ⟨ad90, rfl, had90⟩ := tf_v1 hv89
              refine lv_iload hx hb dX10_reckonAll_93 (lv_at hl 2 rfl) ?_
              refine tf_lald (t0 := 1) hx hb hK hW had90 rfl rfl (by omega) (by omega) dX10_reckonAll_95 (fun v91 hv91 hsv91 => ?_)
              obtain ⟨z92, rfl, hz92⟩ := tf_v5 hv91
              exact j_96 ⟨by omega, by omega⟩ ⟨by omega, by omega⟩ ((x4_10 + 1)) ⟨by omega, by omega⟩ ad87 had87 ⟨by omega, by omega⟩ (z92) ⟨by omega, by omega⟩ (f29_10) ⟨by omega, by omega⟩ (by omega) (by omega) (by omega) (by omega) _ _ hW hs3_10 hs26_10 hcROW_10 hs29_10 _ (lv_sub hl [3, 4, 5, 0] rfl)
            · refine lv_iload hx hb dX10_reckonAll_83 (lv_at hl 1 rfl) ?_
              refine tf_i2l hx hb ⟨by omega, by omega⟩ dX10_reckonAll_85 ?_
              refine lv_goto (tgt := 96) hx hb dX10_reckonAll_86 (by decide) ?_
              exact j_96 ⟨by omega, by omega⟩ ⟨by omega, by omega⟩ ((x4_10 + 1)) ⟨by omega, by omega⟩ ad87 had87 ⟨by omega, by omega⟩ (z30) ⟨by omega, by omega⟩ (f29_10) ⟨by omega, by omega⟩ (by omega) (by omega) (by omega) (by omega) _ _ hW hs3_10 hs26_10 hcROW_10 hs29_10 _ (lv_sub hl [3, 4, 5, 0] rfl)
  refine tf_enter (As := [.ref a0, .int (Int32.ofInt x1), .int (Int32.ofInt x2)]) hargs (Nat.le_of_ble_eq_true rfl) (fun ls hl => ?_)
  have hl : lv_has ls 7 [(0, .ref a0), (1, .int (Int32.ofInt x1)), (2, .int (Int32.ofInt x2))] := hl
  refine lv_aload_n hx hb dX10_reckonAll_0 rfl (lv_at hl 0 rfl) ?_
  refine tf_iconst hx hb dX10_reckonAll_1 ?_
  refine tf_put hx hb hts inlX10 tyX10 tyX10_ok nmX10 hown hK (ci := 10) rfl hW ha0 rfl rfl 29 rfl (by decide) (by decide) (hts _ fl_X10_331) rfl (tf_u0 (by omega) (by omega)) (tf_narZ (by omega)) (tf_fitZ (by omega)) dX10_reckonAll_2 (fun H93 locs93 hW hs93 ht93 hq93 => ?_)
  have hs94 := (ht93 3 (by decide) (by decide)).trans he0
  have hs95 := (ht93 26 (by decide) (by decide)).trans he1
  have hs96 := tf_keepCQ he2 (hq93 _ (tf_ne hb0 ha0 (by decide)))
  refine tf_iconst hx hb dX10_reckonAll_5 ?_
  refine lv_istore_n (lv' := [(3, .int (Int32.ofInt 0)), (0, .ref a0), (1, .int (Int32.ofInt x1)), (2, .int (Int32.ofInt x2))]) hx hb dX10_reckonAll_6 rfl hl (by decide) rfl (fun ls hl => ?_)
  refine lv_iload_n hx hb dX10_reckonAll_7 rfl (lv_at hl 2 rfl) ?_
  refine lv_istore (lv' := [(4, .int (Int32.ofInt x1)), (3, .int (Int32.ofInt 0)), (0, .ref a0), (1, .int (Int32.ofInt x1)), (2, .int (Int32.ofInt x2))]) hx hb dX10_reckonAll_8 hl (by decide) rfl (fun ls hl => ?_)
  exact j_10 ((x2 - x1 + 1 : Int)).toNat ⟨by omega, by omega⟩ (0) ⟨by omega, by omega⟩ (x1) ⟨by omega, by omega⟩ (0) ⟨by omega, by omega⟩ (by omega) (by omega) (by omega) (by omega) _ _ hW hs94 hs95 hs96 hs93 _ (lv_sub hl [2, 4, 1, 0] rfl)

abbrev M_X10_isSo : List (Nat × Nat) := [(39, 0), (50, 29), (50, 30), (50, 31)]
set_option maxHeartbeats 4000000 in
set_option maxRecDepth 100000 in
theorem c_X10_isSo (l : Launch) (g : tf_G) (T : tf_T) (a0 : Nat) (ha0 : T a0 = some (50, 0)) (x1 : Int) (hp1 : 0 ≤ x1 ∧ x1 ≤ 5100) (b0 : Nat) (hb0 : T b0 = some (28, 5830)) (lw : Int) (hlw : 430 ≤ lw ∧ lw ≤ 4930) (r0 : Int → Int) (hq0 : tf_sg (fun k => r0 (lw + 98 + 2 * k)) (fun k => r0 (lw + 98 + 2 * k + 1)) (r0 (x1 + 3)) (r0 (x1 + 4))) (hq1 : tf_sg (fun k => r0 (lw + 98 + 2 * k)) (fun k => r0 (lw + 98 + 2 * k + 1)) (r0 (x1 + 5)) (r0 (x1 + 6))) : Met l yX10_isSo (cd_X10_isSo :: wsL_law) ({ frames := 3, cells := 0, slots := 0, locals := 75 }) (tf_P g T [.ref a0, .int (Int32.ofInt x1)] (fun H => tf_s H a0 (g.1.2 10 3) = some (.ref b0) ∧ tf_s H a0 (g.1.2 10 26) = some (.int (Int32.ofInt lw)) ∧ tf_rw H b0 = r0)) (tf_Qi g M_X10_isSo T (fun z _ _ => z = 0 ∨ z = 1)) 0 0 (fun q => tf_B g ≤ q) := by
  refine Met.ofW (cc := cX10_isSo) (maxL := 2) (ret := (some .boolean)) (by decide) rfl ?_
  intro p e s m args below meth c s₁ B hml hv
  obtain ⟨hargs, hk, hW0, hB, hpre⟩ := hv
  obtain ⟨he0, he1, he2⟩ := hpre
  have hx := B.exec
  have hb := B.bytes
  have hr := B.returns
  have hts : ∀ w ∈ wsL_law, w.before args s = true := fun w h => atoms_spec (ws := cd_X10_isSo :: wsL_law) B.pre w (List.mem_cons_of_mem _ h)
  have hown : s.vm.findClass RX10 = some m.cls := findClass_of_methodNamed B.named
  have hlocks := B.notSynchronized
  have hK := hk.1
  have hW := tf_n.start (M := M_X10_isSo) hW0 hB
  obtain ⟨Q, hQ⟩ : ∃ q, q = MQ below (tf_Qi g M_X10_isSo T (fun z _ _ => z = 0 ∨ z = 1)) args s 0 0 (fun q => tf_B g ≤ q) := ⟨_, rfl⟩
  rw [← hQ]
  obtain ⟨R, hR⟩ : ∃ q, q = (headSpec (cd_X10_isSo :: wsL_law) ({ frames := 3, cells := 0, slots := 0, locals := 75 })).room := ⟨_, rfl⟩
  rw [← hR]
  have hR1 : 3 ≤ R.frames := by rw [hR]; exact Nat.le_refl _
  have hR2 : 75 ≤ R.locals := by rw [hR]; exact Nat.le_refl _
  have hR3 : 0 ≤ R.cells := by rw [hR]; exact Nat.le_refl _
  have hR4 : 0 ≤ R.slots := by rw [hR]; exact Nat.le_refl _
  have hin := (name_of_methodNamed B.named B.method).1
  clear hR B
  obtain ⟨ha1, ha2, ha3, -⟩ := id hq0
  obtain ⟨hb1, hb2, hb3, -⟩ := id hq1
  have j_59 : 0 ≤ x1 ∧ x1 ≤ 5100 → ∀ (H : Heap) (locs : List Loc), tf_n tf_kt g M_X10_isSo T s.heap T H locs → tf_s H a0 (g.1.2 10 3) = some (.ref b0) → tf_s H a0 (g.1.2 10 26) = some (.int (Int32.ofInt lw)) → tf_rw H b0 = r0 → ∀ (ls : Array Slot), lv_has ls 2 [(0, .ref a0), (1, .int (Int32.ofInt x1))] → W p l e R s m args below meth c H locs 0 0 Q (F0 m 59 ls []) := by
    intro hx1_59 H locs hW hs3_59 hs26_59 hcROW_59 ls hl
    refine lv_aload_n hx hb dX10_isSo_59 rfl (lv_at hl 0 rfl) ?_
    refine lv_aload_n hx hb dX10_isSo_60 rfl (lv_at hl 0 rfl) ?_
    refine tf_get hx hb hts inlX10 hown hK (ci := 10) rfl hW ha0 rfl 3 rfl (by decide) (hts _ fl_X10_13) dX10_isSo_61 (fun v1 hv1 hsv1 => ?_)
    obtain rfl : v1 = .ref b0 := Option.some.inj (hsv1.symm.trans hs3_59)
    refine lv_iload_n hx hb dX10_isSo_64 rfl (lv_at hl 1 rfl) ?_
    refine tf_iconst hx hb dX10_isSo_65 ?_
    refine tf_iadd hx hb dX10_isSo_66 ?_
    refine tf_iald (t0 := 0) hx hb hK hW hb0 rfl rfl (by omega) (by omega) dX10_isSo_67 (fun v2 hv2 hsv2 => ?_)
    obtain ⟨z3, rfl, hz3⟩ := tf_v0 hv2
    have er4 : r0 (x1 + 3) = z3 := hcROW_59 ▸ tf_rw_of (by omega) hsv2 ⟨by omega, by omega⟩
    refine lv_aload_n hx hb dX10_isSo_68 rfl (lv_at hl 0 rfl) ?_
    refine tf_get hx hb hts inlX10 hown hK (ci := 10) rfl hW ha0 rfl 3 rfl (by decide) (hts _ fl_X10_13) dX10_isSo_69 (fun v5 hv5 hsv5 => ?_)
    obtain rfl : v5 = .ref b0 := Option.some.inj (hsv5.symm.trans hs3_59)
    refine lv_iload_n hx hb dX10_isSo_72 rfl (lv_at hl 1 rfl) ?_
    refine tf_iconst hx hb dX10_isSo_73 ?_
    refine tf_iadd hx hb dX10_isSo_74 ?_
    refine tf_iald (t0 := 0) hx hb hK hW hb0 rfl rfl (by omega) (by omega) dX10_isSo_75 (fun v6 hv6 hsv6 => ?_)
    obtain ⟨z7, rfl, hz7⟩ := tf_v0 hv6
    have er8 : r0 (x1 + 4) = z7 := hcROW_59 ▸ tf_rw_of (by omega) hsv6 ⟨by omega, by omega⟩
    refine tf_callv (va_runV (As := [.int (Int32.ofInt z3), .int (Int32.ofInt z7)]) (rest := []) ⟨hx, hb, hml, hown, hts⟩ (c_X10_reckonAll l g T a0 ha0 (z3) ⟨by omega, by omega⟩ (z7) ⟨by omega, by omega⟩ b0 hb0 (lw) ⟨by omega, by omega⟩ r0 (by rw [← er4, ← er8]; exact hq0)) (cwV 2 hts gv_X10_348 rfl rfl rfl hd_X10_reckonAll ⟨Nat.le_trans (by decide) hR1, Nat.le_trans (by decide) hR2⟩) (tf_preV hk hW ha0 (ci := 10) rfl rfl ⟨hs3_59, hs26_59, hcROW_59⟩) rfl rfl hl.1 rfl (lv_room (Nat.le_of_ble_eq_true rfl)) dX10_isSo_76 ⟨Nat.zero_le _, Nat.zero_le _⟩) hW (by decide) (fun H9 locs9 hW hF9 hp9 => ?_)
    have hs10 := tf_keepF hF9 ha0 rfl rfl (by decide) hs3_59
    have hs11 := tf_keepF hF9 ha0 rfl rfl (by decide) hs26_59
    have hs12 := tf_keepC hF9 hb0 rfl (by decide) hcROW_59
    refine lv_aload_n hx hb dX10_isSo_79 rfl (lv_at hl 0 rfl) ?_
    refine lv_aload_n hx hb dX10_isSo_80 rfl (lv_at hl 0 rfl) ?_
    refine tf_get hx hb hts inlX10 hown hK (ci := 10) rfl hW ha0 rfl 30 rfl (by decide) (hts _ fl_X10_345) dX10_isSo_81 (fun v13 hv13 hsv13 => ?_)
    obtain ⟨z14, rfl, hz14⟩ := tf_v5 hv13
    refine tf_put hx hb hts inlX10 tyX10 tyX10_ok nmX10 hown hK (ci := 10) rfl hW ha0 rfl rfl 31 rfl (by decide) (by decide) (hts _ fl_X10_351) rfl (tf_u5 (by omega) (by omega)) rfl rfl dX10_isSo_84 (fun H15 locs15 hW hs15 ht15 hq15 => ?_)
    have hs16 := (ht15 3 (by decide) (by decide)).trans hs10
    have hs17 := (ht15 26 (by decide) (by decide)).trans hs11
    have hs18 := tf_keepCQ hs12 (hq15 _ (tf_ne hb0 ha0 (by decide)))
    refine lv_aload_n hx hb dX10_isSo_87 rfl (lv_at hl 0 rfl) ?_
    refine tf_get hx hb hts inlX10 hown hK (ci := 10) rfl hW ha0 rfl 29 rfl (by decide) (hts _ fl_X10_331) dX10_isSo_88 (fun v19 hv19 hsv19 => ?_)
    obtain ⟨z20, rfl, hz20⟩ := tf_v0 hv19
    refine tf_if_ne (tgt := 98) hx hb ⟨by omega, by omega⟩ dX10_isSo_91 (by decide) (fun h21 => ?_) (fun h21 => ?_)
    · refine tf_iconst hx hb dX10_isSo_98 ?_
      exact tf_retz (z := 0) hx hb hr hlocks hQ hW (by omega) (show (0) = 0 ∨ (0) = 1 by omega) dX10_isSo_99
    · refine tf_iconst hx hb dX10_isSo_94 ?_
      refine lv_goto (tgt := 99) hx hb dX10_isSo_95 (by decide) ?_
      exact tf_retz (z := 1) hx hb hr hlocks hQ hW (by omega) (show (1) = 0 ∨ (1) = 1 by omega) dX10_isSo_99
  refine tf_enter (As := [.ref a0, .int (Int32.ofInt x1)]) hargs (Nat.le_of_ble_eq_true rfl) (fun ls hl => ?_)
  have hl : lv_has ls 2 [(0, .ref a0), (1, .int (Int32.ofInt x1))] := hl
  refine lv_aload_n hx hb dX10_isSo_0 rfl (lv_at hl 0 rfl) ?_
  refine tf_get hx hb hts inlX10 hown hK (ci := 10) rfl hW ha0 rfl 3 rfl (by decide) (hts _ fl_X10_13) dX10_isSo_1 (fun v22 hv22 hsv22 => ?_)
  obtain rfl : v22 = .ref b0 := Option.some.inj (hsv22.symm.trans he0)
  refine lv_iload_n hx hb dX10_isSo_4 rfl (lv_at hl 1 rfl) ?_
  refine tf_iconst hx hb dX10_isSo_5 ?_
  refine tf_iadd hx hb dX10_isSo_6 ?_
  refine tf_iald (t0 := 0) hx hb hK hW hb0 rfl rfl (by omega) (by omega) dX10_isSo_7 (fun v23 hv23 hsv23 => ?_)
  obtain ⟨z24, rfl, hz24⟩ := tf_v0 hv23
  have er25 : r0 (x1 + 5) = z24 := he2 ▸ tf_rw_of (by omega) hsv23 ⟨by omega, by omega⟩
  refine lv_aload_n hx hb dX10_isSo_8 rfl (lv_at hl 0 rfl) ?_
  refine tf_get hx hb hts inlX10 hown hK (ci := 10) rfl hW ha0 rfl 3 rfl (by decide) (hts _ fl_X10_13) dX10_isSo_9 (fun v26 hv26 hsv26 => ?_)
  obtain rfl : v26 = .ref b0 := Option.some.inj (hsv26.symm.trans he0)
  refine lv_iload_n hx hb dX10_isSo_12 rfl (lv_at hl 1 rfl) ?_
  refine tf_bipush hx hb dX10_isSo_13 (by decide) ?_
  refine tf_iadd hx hb dX10_isSo_15 ?_
  refine tf_iald (t0 := 0) hx hb hK hW hb0 rfl rfl (by omega) (by omega) dX10_isSo_16 (fun v27 hv27 hsv27 => ?_)
  obtain ⟨z28, rfl, hz28⟩ := tf_v0 hv27
  have er29 : r0 (x1 + 6) = z28 := he2 ▸ tf_rw_of (by omega) hsv27 ⟨by omega, by omega⟩
  refine tf_icmp_ge (tgt := 59) hx hb ⟨by omega, by omega⟩ ⟨by omega, by omega⟩ dX10_isSo_17 (by decide) (fun h30 => ?_) (fun h30 => ?_)
  · exact j_59 ⟨by omega, by omega⟩ _ _ hW he0 he1 he2 _ (lv_sub hl [0, 1] rfl)
  · refine lv_aload_n hx hb dX10_isSo_20 rfl (lv_at hl 0 rfl) ?_
    refine lv_aload_n hx hb dX10_isSo_21 rfl (lv_at hl 0 rfl) ?_
    refine tf_get hx hb hts inlX10 hown hK (ci := 10) rfl hW ha0 rfl 3 rfl (by decide) (hts _ fl_X10_13) dX10_isSo_22 (fun v31 hv31 hsv31 => ?_)
    obtain rfl : v31 = .ref b0 := Option.some.inj (hsv31.symm.trans he0)
    refine lv_iload_n hx hb dX10_isSo_25 rfl (lv_at hl 1 rfl) ?_
    refine tf_iconst hx hb dX10_isSo_26 ?_
    refine tf_iadd hx hb dX10_isSo_27 ?_
    refine tf_iald (t0 := 0) hx hb hK hW hb0 rfl rfl (by omega) (by omega) dX10_isSo_28 (fun v32 hv32 hsv32 => ?_)
    obtain ⟨z33, rfl, hz33⟩ := tf_v0 hv32
    have er34 : r0 (x1 + 5) = z33 := he2 ▸ tf_rw_of (by omega) hsv32 ⟨by omega, by omega⟩
    refine lv_aload_n hx hb dX10_isSo_29 rfl (lv_at hl 0 rfl) ?_
    refine tf_get hx hb hts inlX10 hown hK (ci := 10) rfl hW ha0 rfl 3 rfl (by decide) (hts _ fl_X10_13) dX10_isSo_30 (fun v35 hv35 hsv35 => ?_)
    obtain rfl : v35 = .ref b0 := Option.some.inj (hsv35.symm.trans he0)
    refine lv_iload_n hx hb dX10_isSo_33 rfl (lv_at hl 1 rfl) ?_
    refine tf_bipush hx hb dX10_isSo_34 (by decide) ?_
    refine tf_iadd hx hb dX10_isSo_36 ?_
    refine tf_iald (t0 := 0) hx hb hK hW hb0 rfl rfl (by omega) (by omega) dX10_isSo_37 (fun v36 hv36 hsv36 => ?_)
    obtain ⟨z37, rfl, hz37⟩ := tf_v0 hv36
    have er38 : r0 (x1 + 6) = z37 := he2 ▸ tf_rw_of (by omega) hsv36 ⟨by omega, by omega⟩
    refine tf_callv (va_runV (As := [.int (Int32.ofInt z33), .int (Int32.ofInt z37)]) (rest := []) ⟨hx, hb, hml, hown, hts⟩ (c_X10_reckonAll l g T a0 ha0 (z33) ⟨by omega, by omega⟩ (z37) ⟨by omega, by omega⟩ b0 hb0 (lw) ⟨by omega, by omega⟩ r0 (by rw [← er34, ← er38]; exact hq1)) (cwV 2 hts gv_X10_348 rfl rfl rfl hd_X10_reckonAll ⟨Nat.le_trans (by decide) hR1, Nat.le_trans (by decide) hR2⟩) (tf_preV hk hW ha0 (ci := 10) rfl rfl ⟨he0, he1, he2⟩) rfl rfl hl.1 rfl (lv_room (Nat.le_of_ble_eq_true rfl)) dX10_isSo_38 ⟨Nat.zero_le _, Nat.zero_le _⟩) hW (by decide) (fun H39 locs39 hW hF39 hp39 => ?_)
    have hs40 := tf_keepF hF39 ha0 rfl rfl (by decide) he0
    have hs41 := tf_keepF hF39 ha0 rfl rfl (by decide) he1
    have hs42 := tf_keepC hF39 hb0 rfl (by decide) he2
    refine lv_aload_n hx hb dX10_isSo_41 rfl (lv_at hl 0 rfl) ?_
    refine tf_get hx hb hts inlX10 hown hK (ci := 10) rfl hW ha0 rfl 29 rfl (by decide) (hts _ fl_X10_331) dX10_isSo_42 (fun v43 hv43 hsv43 => ?_)
    obtain ⟨z44, rfl, hz44⟩ := tf_v0 hv43
    refine tf_if_ne (tgt := 57) hx hb ⟨by omega, by omega⟩ dX10_isSo_45 (by decide) (fun h45 => ?_) (fun h45 => ?_)
    · refine tf_iconst hx hb dX10_isSo_57 ?_
      exact tf_retz (z := 0) hx hb hr hlocks hQ hW (by omega) (show (0) = 0 ∨ (0) = 1 by omega) dX10_isSo_58
    · refine lv_aload_n hx hb dX10_isSo_48 rfl (lv_at hl 0 rfl) ?_
      refine tf_get hx hb hts inlX10 hown hK (ci := 10) rfl hW ha0 rfl 30 rfl (by decide) (hts _ fl_X10_345) dX10_isSo_49 (fun v46 hv46 hsv46 => ?_)
      obtain ⟨z47, rfl, hz47⟩ := tf_v5 hv46
      refine tf_lconst (z := 0) hx hb dX10_isSo_52 (by decide) ?_
      refine tf_lcmp hx hb ⟨by omega, by omega⟩ ⟨by omega, by omega⟩ dX10_isSo_53 (fun z48 hz48 => ?_)
      refine tf_if_ne (tgt := 59) hx hb ⟨by omega, by omega⟩ dX10_isSo_54 (by decide) (fun h49 => ?_) (fun h49 => ?_)
      · exact j_59 ⟨by omega, by omega⟩ _ _ hW hs40 hs41 hs42 _ (lv_sub hl [0, 1] rfl)
      · refine tf_iconst hx hb dX10_isSo_57 ?_
        exact tf_retz (z := 0) hx hb hr hlocks hQ hW (by omega) (show (0) = 0 ∨ (0) = 1 by omega) dX10_isSo_58

abbrev M_X10_quickIn : List (Nat × Nat) := [(38, 0), (39, 0), (50, 26), (50, 29), (50, 30), (50, 31), (50, 37), (50, 38), (50, 39), (50, 40), (50, 41), (50, 42)]
set_option maxHeartbeats 4000000 in
set_option maxRecDepth 100000 in
theorem c_X10_quickIn (l : Launch) (g : tf_G) (T : tf_T) (a0 : Nat) (ha0 : T a0 = some (50, 0)) (x1 : Int) (hp1 : 0 ≤ x1 ∧ x1 ≤ 99) (x2 : Int) (hp2 : (-2147483648) ≤ x2 ∧ x2 ≤ 2147483647) : Met l yX10_quickIn (cd_X10_quickIn :: wsL_law) ({ frames := 5, cells := 0, slots := 0, locals := 126 }) (tf_P g T [.ref a0, .int (Int32.ofInt x1), .int (Int32.ofInt x2)] (fun H => True)) (tf_Qi g M_X10_quickIn T (fun z _ _ => (-2147483648) ≤ z ∧ z ≤ 2147483647)) 0 0 (fun q => tf_B g ≤ q) := by
  refine Met.ofW (cc := cX10_quickIn) (maxL := 9) (ret := (some .int)) (by decide) rfl ?_
  intro p e s m args below meth c s₁ B hml hv
  obtain ⟨hargs, hk, hW0, hB, hpre⟩ := hv
  have hx := B.exec
  have hb := B.bytes
  have hr := B.returns
  have hts : ∀ w ∈ wsL_law, w.before args s = true := fun w h => atoms_spec (ws := cd_X10_quickIn :: wsL_law) B.pre w (List.mem_cons_of_mem _ h)
  have hown : s.vm.findClass RX10 = some m.cls := findClass_of_methodNamed B.named
  have hlocks := B.notSynchronized
  have hK := hk.1
  have hW := tf_n.start (M := M_X10_quickIn) hW0 hB
  obtain ⟨Q, hQ⟩ : ∃ q, q = MQ below (tf_Qi g M_X10_quickIn T (fun z _ _ => (-2147483648) ≤ z ∧ z ≤ 2147483647)) args s 0 0 (fun q => tf_B g ≤ q) := ⟨_, rfl⟩
  rw [← hQ]
  obtain ⟨R, hR⟩ : ∃ q, q = (headSpec (cd_X10_quickIn :: wsL_law) ({ frames := 5, cells := 0, slots := 0, locals := 126 })).room := ⟨_, rfl⟩
  rw [← hR]
  have hR1 : 5 ≤ R.frames := by rw [hR]; exact Nat.le_refl _
  have hR2 : 126 ≤ R.locals := by rw [hR]; exact Nat.le_refl _
  have hR3 : 0 ≤ R.cells := by rw [hR]; exact Nat.le_refl _
  have hR4 : 0 ≤ R.slots := by rw [hR]; exact Nat.le_refl _
  have hin := (name_of_methodNamed B.named B.method).1
  clear hR B
  obtain ⟨vb0, hfb0, hokb0⟩ := tf_peek hW ha0 (ci := 10) rfl 3 rfl
  obtain ⟨b0, rfl, hb0⟩ := tf_v1 hokb0
  obtain ⟨r0, hr0⟩ := tf_rname hW b0
  have hror0 : tf_RO r0 := hr0 ▸ tf_ROof hW hb0
  have j_234 : ∀ (n_234 : Nat), ∀ (x4_234 : Int), (-2147483648) ≤ x4_234 ∧ x4_234 ≤ 2147483647 → ∀ (x5_234 : Int), 0 ≤ x5_234 ∧ x5_234 ≤ 1 → ∀ (x6_234 : Int), (-9223372036854775808) ≤ x6_234 ∧ x6_234 ≤ 9223372036854775807 → ∀ (x8_234 : Int), 0 ≤ x8_234 ∧ x8_234 ≤ 12 → ∀ (f26_234 : Int), 0 ≤ f26_234 ∧ f26_234 ≤ 4930 → (f26_234 = 430 + 900 * r0 2) → (0 ≤ r0 2) → (12 - x8_234 + 1 ≤ (n_234 : Int)) → ∀ (H : Heap) (locs : List Loc), tf_n tf_kt g M_X10_quickIn T s.heap T H locs → tf_s H a0 (g.1.2 10 3) = some (.ref b0) → tf_rw H b0 = r0 → tf_s H a0 (g.1.2 10 26) = some (.int (Int32.ofInt f26_234)) → ∀ (ls : Array Slot), lv_has ls 9 [(0, .ref a0), (4, .int (Int32.ofInt x4_234)), (5, .int (Int32.ofInt x5_234)), (6, .long (Int64.ofInt x6_234)), (8, .int (Int32.ofInt x8_234))] → W p l e R s m args below meth c H locs 0 0 Q (F0 m 234 ls []) := by
    intro n_234
    induction n_234 with
    | zero =>
      intro x4_234 hx4_234 x5_234 hx5_234 x6_234 hx6_234 x8_234 hx8_234 f26_234 hf26_234 hi0_234 hi1_234 hm_234
      exfalso; omega
    | succ n_234 ih_234 =>
      intro x4_234 hx4_234 x5_234 hx5_234 x6_234 hx6_234 x8_234 hx8_234 f26_234 hf26_234 hi0_234 hi1_234 hm_234 H locs hW hs3_234 hcROW_234 hs26_234 ls hl
      have j_278 : (-2147483648) ≤ x4_234 ∧ x4_234 ≤ 2147483647 → ∀ (x5_278 : Int), 0 ≤ x5_278 ∧ x5_278 ≤ 1 → ∀ (x6_278 : Int), (-9223372036854775808) ≤ x6_278 ∧ x6_278 ≤ 9223372036854775807 → 0 ≤ x8_234 ∧ x8_234 ≤ 11 → ∀ (f26_278 : Int), 0 ≤ f26_278 ∧ f26_278 ≤ 4930 → (x8_234 < 12) → (f26_278 = 430 + 900 * r0 2) → (0 ≤ r0 2) → ∀ (H : Heap) (locs : List Loc), tf_n tf_kt g M_X10_quickIn T s.heap T H locs → tf_s H a0 (g.1.2 10 3) = some (.ref b0) → tf_rw H b0 = r0 → tf_s H a0 (g.1.2 10 26) = some (.int (Int32.ofInt f26_278)) → ∀ (ls : Array Slot), lv_has ls 9 [(0, .ref a0), (4, .int (Int32.ofInt x4_234)), (5, .int (Int32.ofInt x5_278)), (6, .long (Int64.ofInt x6_278)), (8, .int (Int32.ofInt x8_234))] → W p l e R s m args below meth c H locs 0 0 Q (F0 m 278 ls []) := by
        intro hx4_278 x5_278 hx5_278 x6_278 hx6_278 hx8_278 f26_278 hf26_278 hi0_278 hi1_278 hi2_278 H locs hW hs3_278 hcROW_278 hs26_278 ls hl
        refine lv_iinc (v := Int32.ofInt ((x8_234 + 1))) (lv' := [(8, .int (Int32.ofInt ((x8_234 + 1)))), (0, .ref a0), (4, .int (Int32.ofInt x4_234)), (5, .int (Int32.ofInt x5_278)), (6, .long (Int64.ofInt x6_278))]) hx hb dX10_quickIn_278 hl (k := 4) rfl (Int32.ofInt_add _ _).symm (by decide) rfl (fun ls hl => ?_)
        refine lv_goto (tgt := 234) hx hb dX10_quickIn_281 (by decide) ?_
        exact ih_234 (x4_234) ⟨by omega, by omega⟩ (x5_278) ⟨by omega, by omega⟩ (x6_278) ⟨by omega, by omega⟩ ((x8_234 + 1)) ⟨by omega, by omega⟩ (f26_278) ⟨by omega, by omega⟩ (by omega) (by omega) (by omega) _ _ hW hs3_278 hcROW_278 hs26_278 _ (lv_sub hl [1, 2, 3, 4, 0] rfl)
      refine lv_iload hx hb dX10_quickIn_234 (lv_at hl 4 rfl) ?_
      refine lv_aload_n hx hb dX10_quickIn_236 rfl (lv_at hl 0 rfl) ?_
      refine tf_get hx hb hts inlX10 hown hK (ci := 10) rfl hW ha0 rfl 3 rfl (by decide) (hts _ fl_X10_13) dX10_quickIn_237 (fun v1 hv1 hsv1 => ?_)
      obtain rfl : v1 = .ref b0 := Option.some.inj (hsv1.symm.trans hs3_234)
      refine lv_aload_n hx hb dX10_quickIn_240 rfl (lv_at hl 0 rfl) ?_
      refine tf_get hx hb hts inlX10 hown hK (ci := 10) rfl hW ha0 rfl 26 rfl (by decide) (hts _ fl_X10_334) dX10_quickIn_241 (fun v2 hv2 hsv2 => ?_)
      obtain rfl : v2 = .int (Int32.ofInt f26_234) := Option.some.inj (hsv2.symm.trans hs26_234)
      refine tf_iconst hx hb dX10_quickIn_244 ?_
      refine tf_iadd hx hb dX10_quickIn_245 ?_
      refine tf_iald (t0 := 0) hx hb hK hW hb0 rfl rfl (by omega) (by omega) dX10_quickIn_246 (fun v3 hv3 hsv3 => ?_)
      obtain ⟨z4, rfl, hz4⟩ := tf_v0 hv3
      have er5 : r0 (f26_234 + 1) = z4 := hcROW_234 ▸ tf_rw_of (by omega) hsv3 ⟨by omega, by omega⟩
      have hL : tf_LW r0 (f26_234) := by rw [show f26_234 = 430 + 900 * r0 2 by omega]; exact hror0.2.2.2.2.2.2.2.2.2 _ (by omega) (by omega)
      have hL0 := hL.1
      have hL1 := hL.2.1
      refine tf_icmp_ge (tgt := 284) hx hb ⟨by omega, by omega⟩ ⟨by omega, by omega⟩ dX10_quickIn_247 (by decide) (fun h6 => ?_) (fun h6 => ?_)
      · refine lv_iload hx hb dX10_quickIn_284 (lv_at hl 2 rfl) ?_
        refine tf_if_ne (tgt := 294) hx hb ⟨by omega, by omega⟩ dX10_quickIn_286 (by decide) (fun h7 => ?_) (fun h7 => ?_)
        · refine lv_lload hx hb dX10_quickIn_294 (lv_at hl 3 rfl) ?_
          refine tf_lconst (z := 0) hx hb dX10_quickIn_296 (by decide) ?_
          refine tf_lcmp hx hb ⟨by omega, by omega⟩ ⟨by omega, by omega⟩ dX10_quickIn_297 (fun z8 hz8 => ?_)
          refine tf_if_ge (tgt := 305) hx hb ⟨by omega, by omega⟩ dX10_quickIn_298 (by decide) (fun h9 => ?_) (fun h9 => ?_)
          · refine lv_lload hx hb dX10_quickIn_305 (lv_at hl 3 rfl) ?_
            refine tf_ldc2 (z := 999) hx hb hown (hts _ kl_X10_181) (by decide) dX10_quickIn_307 ?_
            refine tf_lcmp hx hb ⟨by omega, by omega⟩ ⟨by omega, by omega⟩ dX10_quickIn_310 (fun z10 hz10 => ?_)
            refine tf_if_le (tgt := 320) hx hb ⟨by omega, by omega⟩ dX10_quickIn_311 (by decide) (fun h11 => ?_) (fun h11 => ?_)
            · refine lv_lload hx hb dX10_quickIn_320 (lv_at hl 3 rfl) ?_
              refine tf_l2i hx hb dX10_quickIn_322 ?_
              exact tf_reti (z := x6_234) hx hb hr hlocks hQ hW (show (-2147483648) ≤ (x6_234) ∧ (x6_234) ≤ 2147483647 by omega) dX10_quickIn_323
            · refine tf_sipush hx hb dX10_quickIn_314 (by decide) ?_
              refine lv_goto (tgt := 323) hx hb dX10_quickIn_317 (by decide) ?_
              exact tf_reti (z := 999) hx hb hr hlocks hQ hW (show (-2147483648) ≤ (999) ∧ (999) ≤ 2147483647 by omega) dX10_quickIn_323
          · refine tf_iconst hx hb dX10_quickIn_301 ?_
            refine lv_goto (tgt := 323) hx hb dX10_quickIn_302 (by decide) ?_
            exact tf_reti (z := 0) hx hb hr hlocks hQ hW (show (-2147483648) ≤ (0) ∧ (0) ≤ 2147483647 by omega) dX10_quickIn_323
        · refine lv_iload hx hb dX10_quickIn_289 (lv_at hl 1 rfl) ?_
          refine lv_goto (tgt := 323) hx hb dX10_quickIn_291 (by decide) ?_
          exact tf_reti (z := x4_234) hx hb hr hlocks hQ hW (show (-2147483648) ≤ (x4_234) ∧ (x4_234) ≤ 2147483647 by omega) dX10_quickIn_323
      · refine lv_aload_n hx hb dX10_quickIn_250 rfl (lv_at hl 0 rfl) ?_
        refine lv_aload_n hx hb dX10_quickIn_251 rfl (lv_at hl 0 rfl) ?_
        refine tf_get hx hb hts inlX10 hown hK (ci := 10) rfl hW ha0 rfl 26 rfl (by decide) (hts _ fl_X10_334) dX10_quickIn_252 (fun v12 hv12 hsv12 => ?_)
        obtain rfl : v12 = .int (Int32.ofInt f26_234) := Option.some.inj (hsv12.symm.trans hs26_234)
        refine tf_iconst hx hb dX10_quickIn_255 ?_
        refine tf_iadd hx hb dX10_quickIn_256 ?_
        refine tf_bipush hx hb dX10_quickIn_257 (by decide) ?_
        refine lv_iload hx hb dX10_quickIn_259 (lv_at hl 4 rfl) ?_
        refine tf_imul hx hb dX10_quickIn_261 ?_
        refine tf_iadd hx hb dX10_quickIn_262 ?_
        refine tf_calli (va_runV (As := [.int (Int32.ofInt (((f26_234 + 2) + (8 * x8_234))))]) (rest := []) ⟨hx, hb, hml, hown, hts⟩ (c_X10_isSo l g T a0 ha0 (((f26_234 + 2) + (8 * x8_234))) ⟨by omega, by omega⟩ b0 hb0 (f26_234) ⟨by omega, by omega⟩ r0 (hL.2.2 x8_234 (by omega) (by omega)).1 (hL.2.2 x8_234 (by omega) (by omega)).2) (cwV 1 hts gv_X10_400 rfl rfl rfl hd_X10_isSo ⟨Nat.le_trans (by decide) hR1, Nat.le_trans (by decide) hR2⟩) (tf_preV hk hW ha0 (ci := 10) rfl rfl ⟨hs3_234, hs26_234, hcROW_234⟩) rfl rfl hl.1 rfl (lv_room (Nat.le_of_ble_eq_true rfl)) dX10_quickIn_263 ⟨Nat.zero_le _, Nat.zero_le _⟩) hW (by decide) (fun z13 H13 locs13 hW hF13 hp13 => ?_)
        have hs14 := tf_keepF hF13 ha0 rfl rfl (by decide) hs3_234
        have hs15 := tf_keepC hF13 hb0 rfl (by decide) hcROW_234
        have hs16 := tf_keepF hF13 ha0 rfl rfl (by decide) hs26_234
        have hp13 : z13 = 0 ∨ z13 = 1 := hp13
        refine tf_if_eq (tgt := 278) hx hb ⟨by omega, by omega⟩ dX10_quickIn_266 (by decide) (fun h17 => ?_) (fun h17 => ?_)
        · exact j_278 ⟨by omega, by omega⟩ (x5_234) ⟨by omega, by omega⟩ (x6_234) ⟨by omega, by omega⟩ ⟨by omega, by omega⟩ (f26_234) ⟨by omega, by omega⟩ (by omega) (by omega) (by omega) _ _ hW hs14 hs15 hs16 _ (lv_sub hl [0, 1, 2, 3, 4] rfl)
        · refine lv_aload_n hx hb dX10_quickIn_269 rfl (lv_at hl 0 rfl) ?_
          refine tf_get hx hb hts inlX10 hown hK (ci := 10) rfl hW ha0 rfl 31 rfl (by decide) (hts _ fl_X10_351) dX10_quickIn_270 (fun v18 hv18 hsv18 => ?_)
          obtain ⟨z19, rfl, hz19⟩ := tf_v5 hv18
          refine lv_lstore (lv' := [(6, .long (Int64.ofInt z19)), (0, .ref a0), (4, .int (Int32.ofInt x4_234)), (5, .int (Int32.ofInt x5_234)), (8, .int (Int32.ofInt x8_234))]) hx hb dX10_quickIn_273 hl (by decide) rfl (fun ls hl => ?_)
          refine tf_iconst hx hb dX10_quickIn_275 ?_
          refine lv_istore (lv' := [(5, .int (Int32.ofInt 1)), (6, .long (Int64.ofInt z19)), (0, .ref a0), (4, .int (Int32.ofInt x4_234)), (8, .int (Int32.ofInt x8_234))]) hx hb dX10_quickIn_276 hl (by decide) rfl (fun ls hl => ?_)
          exact j_278 ⟨by omega, by omega⟩ (1) ⟨by omega, by omega⟩ (z19) ⟨by omega, by omega⟩ ⟨by omega, by omega⟩ (f26_234) ⟨by omega, by omega⟩ (by omega) (by omega) (by omega) _ _ hW hs14 hs15 hs16 _ (lv_sub hl [2, 3, 0, 1, 4] rfl)
  have j_95 : 0 ≤ x1 ∧ x1 ≤ 99 → (-2147483648) ≤ x2 ∧ x2 ≤ 2147483647 → ∀ (x3_95 : Int), (-2147483648) ≤ x3_95 ∧ x3_95 ≤ 2147483647 → ∀ (y0_95 : Int), (-2147483648) ≤ y0_95 ∧ y0_95 ≤ 2147483647 → ∀ (f37_95 : Int), 0 ≤ f37_95 ∧ f37_95 ≤ 4 → ∀ (H : Heap) (locs : List Loc), tf_n tf_kt g M_X10_quickIn T s.heap T H locs → tf_s H a0 (g.1.2 10 3) = some (.ref b0) → tf_rw H b0 = r0 → tf_s H a0 (g.1.2 10 37) = some (.int (Int32.ofInt f37_95)) → ∀ (ls : Array Slot), lv_has ls 9 [(0, .ref a0), (1, .int (Int32.ofInt x1)), (2, .int (Int32.ofInt x2)), (3, .int (Int32.ofInt x3_95))] → W p l e R s m args below meth c H locs 0 0 Q (F0 m 95 ls [.int (Int32.ofInt y0_95)]) := by
    intro hx1_95 hx2_95 x3_95 hx3_95 y0_95 hy0_95 f37_95 hf37_95 H locs hW hs3_95 hcROW_95 hs37_95 ls hl
    refine lv_istore (lv' := [(4, .int (Int32.ofInt y0_95)), (0, .ref a0), (1, .int (Int32.ofInt x1)), (2, .int (Int32.ofInt x2)), (3, .int (Int32.ofInt x3_95))]) hx hb dX10_quickIn_95 hl (by decide) rfl (fun ls hl => ?_)
    refine lv_aload_n hx hb dX10_quickIn_97 rfl (lv_at hl 1 rfl) ?_
    refine tf_get hx hb hts inlX10 hown hK (ci := 10) rfl hW ha0 rfl 3 rfl (by decide) (hts _ fl_X10_13) dX10_quickIn_98 (fun v20 hv20 hsv20 => ?_)
    obtain rfl : v20 = .ref b0 := Option.some.inj (hsv20.symm.trans hs3_95)
    refine tf_iconst hx hb dX10_quickIn_101 ?_
    refine tf_iald (t0 := 0) hx hb hK hW hb0 rfl rfl (by omega) (by omega) dX10_quickIn_102 (fun v21 hv21 hsv21 => ?_)
    obtain ⟨z22, rfl, hz22⟩ := tf_v0 hv21
    have er23 : r0 2 = z22 := hcROW_95 ▸ tf_rw_of (by omega) hsv21 ⟨by omega, by omega⟩
    have hg24 := tf_rd2 (tf_ROof hW hb0) hsv21 ⟨by omega, by omega⟩ (by omega)
    refine tf_iconst hx hb dX10_quickIn_103 ?_
    refine tf_icmp_ne (tgt := 110) hx hb ⟨by omega, by omega⟩ ⟨by decide, by decide⟩ dX10_quickIn_104 (by decide) (fun h25 => ?_) (fun h25 => ?_)
    · refine lv_aload_n hx hb dX10_quickIn_110 rfl (lv_at hl 1 rfl) ?_
      refine tf_sipush hx hb dX10_quickIn_111 (by decide) ?_
      refine tf_sipush hx hb dX10_quickIn_114 (by decide) ?_
      refine lv_aload_n hx hb dX10_quickIn_117 rfl (lv_at hl 1 rfl) ?_
      refine tf_get hx hb hts inlX10 hown hK (ci := 10) rfl hW ha0 rfl 3 rfl (by decide) (hts _ fl_X10_13) dX10_quickIn_118 (fun v26 hv26 hsv26 => ?_)
      obtain rfl : v26 = .ref b0 := Option.some.inj (hsv26.symm.trans hs3_95)
      refine tf_iconst hx hb dX10_quickIn_121 ?_
      refine tf_iald (t0 := 0) hx hb hK hW hb0 rfl rfl (by omega) (by omega) dX10_quickIn_122 (fun v27 hv27 hsv27 => ?_)
      obtain ⟨z28, rfl, hz28⟩ := tf_v0 hv27
      have er29 : r0 2 = z28 := hcROW_95 ▸ tf_rw_of (by omega) hsv27 ⟨by omega, by omega⟩
      have hg30 := tf_rd2 (tf_ROof hW hb0) hsv27 ⟨by omega, by omega⟩ (by omega)
      refine tf_imul hx hb dX10_quickIn_123 ?_
      refine tf_iadd hx hb dX10_quickIn_124 ?_
      refine tf_put hx hb hts inlX10 tyX10 tyX10_ok nmX10 hown hK (ci := 10) rfl hW ha0 rfl rfl 26 rfl (by decide) (by decide) (hts _ fl_X10_334) rfl (tf_u0 (by omega) (by omega)) rfl rfl dX10_quickIn_125 (fun H31 locs31 hW hs31 ht31 hq31 => ?_)
      have hs32 := (ht31 3 (by decide) (by decide)).trans hs3_95
      have hs33 := tf_keepCQ hcROW_95 (hq31 _ (tf_ne hb0 ha0 (by decide)))
      have hs34 := (ht31 37 (by decide) (by decide)).trans hs37_95
      refine lv_aload_n hx hb dX10_quickIn_128 rfl (lv_at hl 1 rfl) ?_
      refine tf_get hx hb hts inlX10 hown hK (ci := 10) rfl hW ha0 rfl 27 rfl (by decide) (hts _ fl_X10_67) dX10_quickIn_129 (fun v35 hv35 hsv35 => ?_)
      obtain ⟨ad36, rfl, had36⟩ := tf_v1 hv35
      refine tf_iconst hx hb dX10_quickIn_132 ?_
      refine lv_aload_n hx hb dX10_quickIn_133 rfl (lv_at hl 1 rfl) ?_
      refine tf_get hx hb hts inlX10 hown hK (ci := 10) rfl hW ha0 rfl 37 rfl (by decide) (hts _ fl_X10_376) dX10_quickIn_134 (fun v37 hv37 hsv37 => ?_)
      obtain rfl : v37 = .int (Int32.ofInt f37_95) := Option.some.inj (hsv37.symm.trans hs34)
      refine tf_i2l hx hb ⟨by omega, by omega⟩ dX10_quickIn_137 ?_
      refine tf_last (t0 := 1) hx hb hK hW had36 rfl rfl (by omega) (by omega) (by decide) (tf_u5 (by omega) (by omega)) dX10_quickIn_138 (fun H38 locs38 hW hs38 ht38 hq38 => ?_)
      have hs39 := tf_keepQ hs32 (hq38 _ (tf_ne ha0 had36 (by decide)))
      have hs40 := tf_keepCQ hs33 (hq38 _ (tf_ne hb0 had36 (by decide)))
      have hs41 := tf_keepQ hs34 (hq38 _ (tf_ne ha0 had36 (by decide)))
      have hs42 := tf_keepQ hs31 (hq38 _ (tf_ne ha0 had36 (by decide)))
      have hs43 := tf_keepQ hsv35 (hq38 _ (tf_ne ha0 had36 (by decide)))
      refine lv_aload_n hx hb dX10_quickIn_139 rfl (lv_at hl 1 rfl) ?_
      refine tf_get hx hb hts inlX10 hown hK (ci := 10) rfl hW ha0 rfl 27 rfl (by decide) (hts _ fl_X10_67) dX10_quickIn_140 (fun v44 hv44 hsv44 => ?_)
      obtain rfl : v44 = .ref ad36 := Option.some.inj (hsv44.symm.trans hs43)
      refine tf_iconst hx hb dX10_quickIn_143 ?_
      refine lv_aload_n hx hb dX10_quickIn_144 rfl (lv_at hl 1 rfl) ?_
      refine tf_get hx hb hts inlX10 hown hK (ci := 10) rfl hW ha0 rfl 40 rfl (by decide) (hts _ fl_X10_394) dX10_quickIn_145 (fun v45 hv45 hsv45 => ?_)
      obtain ⟨z46, rfl, hz46⟩ := tf_v0 hv45
      refine tf_i2l hx hb ⟨by omega, by omega⟩ dX10_quickIn_148 ?_
      refine tf_last (t0 := 1) hx hb hK hW had36 rfl rfl (by omega) (by omega) (by decide) (tf_u5 (by omega) (by omega)) dX10_quickIn_149 (fun H47 locs47 hW hs47 ht47 hq47 => ?_)
      have hs48 := tf_keepQ hs39 (hq47 _ (tf_ne ha0 had36 (by decide)))
      have hs49 := tf_keepCQ hs40 (hq47 _ (tf_ne hb0 had36 (by decide)))
      have hs50 := tf_keepQ hs41 (hq47 _ (tf_ne ha0 had36 (by decide)))
      have hs51 := tf_keepQ hs42 (hq47 _ (tf_ne ha0 had36 (by decide)))
      have hs52 := tf_keepQ hs43 (hq47 _ (tf_ne ha0 had36 (by decide)))
      refine lv_aload_n hx hb dX10_quickIn_150 rfl (lv_at hl 1 rfl) ?_
      refine tf_get hx hb hts inlX10 hown hK (ci := 10) rfl hW ha0 rfl 27 rfl (by decide) (hts _ fl_X10_67) dX10_quickIn_151 (fun v53 hv53 hsv53 => ?_)
      obtain rfl : v53 = .ref ad36 := Option.some.inj (hsv53.symm.trans hs52)
      refine tf_iconst hx hb dX10_quickIn_154 ?_
      refine lv_iload_n hx hb dX10_quickIn_155 rfl (lv_at hl 4 rfl) ?_
      refine tf_i2l hx hb ⟨by omega, by omega⟩ dX10_quickIn_156 ?_
      refine tf_last (t0 := 1) hx hb hK hW had36 rfl rfl (by omega) (by omega) (by decide) (tf_u5 (by omega) (by omega)) dX10_quickIn_157 (fun H54 locs54 hW hs54 ht54 hq54 => ?_)
      have hs55 := tf_keepQ hs48 (hq54 _ (tf_ne ha0 had36 (by decide)))
      have hs56 := tf_keepCQ hs49 (hq54 _ (tf_ne hb0 had36 (by decide)))
      have hs57 := tf_keepQ hs50 (hq54 _ (tf_ne ha0 had36 (by decide)))
      have hs58 := tf_keepQ hs51 (hq54 _ (tf_ne ha0 had36 (by decide)))
      have hs59 := tf_keepQ hs52 (hq54 _ (tf_ne ha0 had36 (by decide)))
      refine lv_aload_n hx hb dX10_quickIn_158 rfl (lv_at hl 1 rfl) ?_
      refine tf_get hx hb hts inlX10 hown hK (ci := 10) rfl hW ha0 rfl 27 rfl (by decide) (hts _ fl_X10_67) dX10_quickIn_159 (fun v60 hv60 hsv60 => ?_)
      obtain rfl : v60 = .ref ad36 := Option.some.inj (hsv60.symm.trans hs59)
      refine tf_iconst hx hb dX10_quickIn_162 ?_
      refine lv_aload_n hx hb dX10_quickIn_163 rfl (lv_at hl 1 rfl) ?_
      refine tf_get hx hb hts inlX10 hown hK (ci := 10) rfl hW ha0 rfl 41 rfl (by decide) (hts _ fl_X10_385) dX10_quickIn_164 (fun v61 hv61 hsv61 => ?_)
      obtain ⟨z62, rfl, hz62⟩ := tf_v0 hv61
      refine tf_i2l hx hb ⟨by omega, by omega⟩ dX10_quickIn_167 ?_
      refine tf_last (t0 := 1) hx hb hK hW had36 rfl rfl (by omega) (by omega) (by decide) (tf_u5 (by omega) (by omega)) dX10_quickIn_168 (fun H63 locs63 hW hs63 ht63 hq63 => ?_)
      have hs64 := tf_keepQ hs55 (hq63 _ (tf_ne ha0 had36 (by decide)))
      have hs65 := tf_keepCQ hs56 (hq63 _ (tf_ne hb0 had36 (by decide)))
      have hs66 := tf_keepQ hs57 (hq63 _ (tf_ne ha0 had36 (by decide)))
      have hs67 := tf_keepQ hs58 (hq63 _ (tf_ne ha0 had36 (by decide)))
      have hs68 := tf_keepQ hs59 (hq63 _ (tf_ne ha0 had36 (by decide)))
      refine lv_aload_n hx hb dX10_quickIn_169 rfl (lv_at hl 1 rfl) ?_
      refine tf_get hx hb hts inlX10 hown hK (ci := 10) rfl hW ha0 rfl 27 rfl (by decide) (hts _ fl_X10_67) dX10_quickIn_170 (fun v69 hv69 hsv69 => ?_)
      obtain rfl : v69 = .ref ad36 := Option.some.inj (hsv69.symm.trans hs68)
      refine tf_iconst hx hb dX10_quickIn_173 ?_
      refine lv_aload_n hx hb dX10_quickIn_174 rfl (lv_at hl 1 rfl) ?_
      refine tf_get hx hb hts inlX10 hown hK (ci := 10) rfl hW ha0 rfl 42 rfl (by decide) (hts _ fl_X10_388) dX10_quickIn_175 (fun v70 hv70 hsv70 => ?_)
      obtain ⟨z71, rfl, hz71⟩ := tf_v0 hv70
      refine tf_i2l hx hb ⟨by omega, by omega⟩ dX10_quickIn_178 ?_
      refine tf_last (t0 := 1) hx hb hK hW had36 rfl rfl (by omega) (by omega) (by decide) (tf_u5 (by omega) (by omega)) dX10_quickIn_179 (fun H72 locs72 hW hs72 ht72 hq72 => ?_)
      have hs73 := tf_keepQ hs64 (hq72 _ (tf_ne ha0 had36 (by decide)))
      have hs74 := tf_keepCQ hs65 (hq72 _ (tf_ne hb0 had36 (by decide)))
      have hs75 := tf_keepQ hs66 (hq72 _ (tf_ne ha0 had36 (by decide)))
      have hs76 := tf_keepQ hs67 (hq72 _ (tf_ne ha0 had36 (by decide)))
      have hs77 := tf_keepQ hs68 (hq72 _ (tf_ne ha0 had36 (by decide)))
      refine lv_aload_n hx hb dX10_quickIn_180 rfl (lv_at hl 1 rfl) ?_
      refine tf_get hx hb hts inlX10 hown hK (ci := 10) rfl hW ha0 rfl 27 rfl (by decide) (hts _ fl_X10_67) dX10_quickIn_181 (fun v78 hv78 hsv78 => ?_)
      obtain rfl : v78 = .ref ad36 := Option.some.inj (hsv78.symm.trans hs77)
      refine tf_bipush hx hb dX10_quickIn_184 (by decide) ?_
      refine lv_iload_n hx hb dX10_quickIn_186 rfl (lv_at hl 2 rfl) ?_
      refine tf_bipush hx hb dX10_quickIn_187 (by decide) ?_
      refine tf_irem hx hb ⟨by omega, by omega⟩ (by omega) ⟨by decide, by decide⟩ (by decide) dX10_quickIn_189 ?_
      refine tf_name (fun z79 ez79 => ?_)
      refine tf_i2l hx hb ⟨by omega, by omega⟩ dX10_quickIn_190 ?_
      refine tf_last (t0 := 1) hx hb hK hW had36 rfl rfl (by omega) (by omega) (by decide) (tf_u5 (by omega) (by omega)) dX10_quickIn_191 (fun H80 locs80 hW hs80 ht80 hq80 => ?_)
      have hs81 := tf_keepQ hs73 (hq80 _ (tf_ne ha0 had36 (by decide)))
      have hs82 := tf_keepCQ hs74 (hq80 _ (tf_ne hb0 had36 (by decide)))
      have hs83 := tf_keepQ hs75 (hq80 _ (tf_ne ha0 had36 (by decide)))
      have hs84 := tf_keepQ hs76 (hq80 _ (tf_ne ha0 had36 (by decide)))
      have hs85 := tf_keepQ hs77 (hq80 _ (tf_ne ha0 had36 (by decide)))
      refine lv_aload_n hx hb dX10_quickIn_192 rfl (lv_at hl 1 rfl) ?_
      refine tf_get hx hb hts inlX10 hown hK (ci := 10) rfl hW ha0 rfl 27 rfl (by decide) (hts _ fl_X10_67) dX10_quickIn_193 (fun v86 hv86 hsv86 => ?_)
      obtain rfl : v86 = .ref ad36 := Option.some.inj (hsv86.symm.trans hs85)
      refine tf_bipush hx hb dX10_quickIn_196 (by decide) ?_
      refine lv_iload_n hx hb dX10_quickIn_198 rfl (lv_at hl 2 rfl) ?_
      refine tf_bipush hx hb dX10_quickIn_199 (by decide) ?_
      refine tf_idiv hx hb ⟨by omega, by omega⟩ (by omega) ⟨by decide, by decide⟩ (by decide) dX10_quickIn_201 ?_
      refine tf_name (fun z87 ez87 => ?_)
      refine tf_i2l hx hb ⟨by omega, by omega⟩ dX10_quickIn_202 ?_
      refine tf_last (t0 := 1) hx hb hK hW had36 rfl rfl (by omega) (by omega) (by decide) (tf_u5 (by omega) (by omega)) dX10_quickIn_203 (fun H88 locs88 hW hs88 ht88 hq88 => ?_)
      have hs89 := tf_keepQ hs81 (hq88 _ (tf_ne ha0 had36 (by decide)))
      have hs90 := tf_keepCQ hs82 (hq88 _ (tf_ne hb0 had36 (by decide)))
      have hs91 := tf_keepQ hs83 (hq88 _ (tf_ne ha0 had36 (by decide)))
      have hs92 := tf_keepQ hs84 (hq88 _ (tf_ne ha0 had36 (by decide)))
      have hs93 := tf_keepQ hs85 (hq88 _ (tf_ne ha0 had36 (by decide)))
      refine lv_aload_n hx hb dX10_quickIn_204 rfl (lv_at hl 1 rfl) ?_
      refine tf_get hx hb hts inlX10 hown hK (ci := 10) rfl hW ha0 rfl 27 rfl (by decide) (hts _ fl_X10_67) dX10_quickIn_205 (fun v94 hv94 hsv94 => ?_)
      obtain rfl : v94 = .ref ad36 := Option.some.inj (hsv94.symm.trans hs93)
      refine tf_bipush hx hb dX10_quickIn_208 (by decide) ?_
      refine lv_iload_n hx hb dX10_quickIn_210 rfl (lv_at hl 3 rfl) ?_
      refine tf_i2l hx hb ⟨by omega, by omega⟩ dX10_quickIn_211 ?_
      refine tf_last (t0 := 1) hx hb hK hW had36 rfl rfl (by omega) (by omega) (by decide) (tf_u5 (by omega) (by omega)) dX10_quickIn_212 (fun H95 locs95 hW hs95 ht95 hq95 => ?_)
      have hs96 := tf_keepQ hs89 (hq95 _ (tf_ne ha0 had36 (by decide)))
      have hs97 := tf_keepCQ hs90 (hq95 _ (tf_ne hb0 had36 (by decide)))
      have hs98 := tf_keepQ hs91 (hq95 _ (tf_ne ha0 had36 (by decide)))
      have hs99 := tf_keepQ hs92 (hq95 _ (tf_ne ha0 had36 (by decide)))
      have hs100 := tf_keepQ hs93 (hq95 _ (tf_ne ha0 had36 (by decide)))
      refine lv_aload_n hx hb dX10_quickIn_213 rfl (lv_at hl 1 rfl) ?_
      refine tf_get hx hb hts inlX10 hown hK (ci := 10) rfl hW ha0 rfl 27 rfl (by decide) (hts _ fl_X10_67) dX10_quickIn_214 (fun v101 hv101 hsv101 => ?_)
      obtain rfl : v101 = .ref ad36 := Option.some.inj (hsv101.symm.trans hs100)
      refine tf_bipush hx hb dX10_quickIn_217 (by decide) ?_
      refine lv_aload_n hx hb dX10_quickIn_219 rfl (lv_at hl 1 rfl) ?_
      refine tf_get hx hb hts inlX10 hown hK (ci := 10) rfl hW ha0 rfl 39 rfl (by decide) (hts _ fl_X10_382) dX10_quickIn_220 (fun v102 hv102 hsv102 => ?_)
      obtain ⟨z103, rfl, hz103⟩ := tf_v0 hv102
      refine tf_i2l hx hb ⟨by omega, by omega⟩ dX10_quickIn_223 ?_
      refine tf_last (t0 := 1) hx hb hK hW had36 rfl rfl (by omega) (by omega) (by decide) (tf_u5 (by omega) (by omega)) dX10_quickIn_224 (fun H104 locs104 hW hs104 ht104 hq104 => ?_)
      have hs105 := tf_keepQ hs96 (hq104 _ (tf_ne ha0 had36 (by decide)))
      have hs106 := tf_keepCQ hs97 (hq104 _ (tf_ne hb0 had36 (by decide)))
      have hs107 := tf_keepQ hs98 (hq104 _ (tf_ne ha0 had36 (by decide)))
      have hs108 := tf_keepQ hs99 (hq104 _ (tf_ne ha0 had36 (by decide)))
      have hs109 := tf_keepQ hs100 (hq104 _ (tf_ne ha0 had36 (by decide)))
      refine tf_iconst hx hb dX10_quickIn_225 ?_
      refine lv_istore (lv' := [(5, .int (Int32.ofInt 0)), (4, .int (Int32.ofInt y0_95)), (0, .ref a0), (1, .int (Int32.ofInt x1)), (2, .int (Int32.ofInt x2)), (3, .int (Int32.ofInt x3_95))]) hx hb dX10_quickIn_226 hl (by decide) rfl (fun ls hl => ?_)
      refine tf_lconst (z := 0) hx hb dX10_quickIn_228 (by decide) ?_
      refine lv_lstore (lv' := [(6, .long (Int64.ofInt 0)), (5, .int (Int32.ofInt 0)), (4, .int (Int32.ofInt y0_95)), (0, .ref a0), (1, .int (Int32.ofInt x1)), (2, .int (Int32.ofInt x2)), (3, .int (Int32.ofInt x3_95))]) hx hb dX10_quickIn_229 hl (by decide) rfl (fun ls hl => ?_)
      refine tf_iconst hx hb dX10_quickIn_231 ?_
      refine lv_istore (lv' := [(8, .int (Int32.ofInt 0)), (6, .long (Int64.ofInt 0)), (5, .int (Int32.ofInt 0)), (4, .int (Int32.ofInt y0_95)), (0, .ref a0), (1, .int (Int32.ofInt x1)), (2, .int (Int32.ofInt x2)), (3, .int (Int32.ofInt x3_95))]) hx hb dX10_quickIn_232 hl (by decide) rfl (fun ls hl => ?_)
      exact j_234 ((12 - 0 + 1 : Int)).toNat (y0_95) ⟨by omega, by omega⟩ (0) ⟨by omega, by omega⟩ (0) ⟨by omega, by omega⟩ (0) ⟨by omega, by omega⟩ ((430 + (900 * z28))) ⟨by omega, by omega⟩ (by omega) (by omega) (by omega) _ _ hW hs105 hs106 hs108 _ (lv_sub hl [4, 3, 2, 1, 0] rfl)
    · refine lv_iload hx hb dX10_quickIn_107 (lv_at hl 0 rfl) ?_
      exact tf_reti (z := y0_95) hx hb hr hlocks hQ hW (show (-2147483648) ≤ (y0_95) ∧ (y0_95) ≤ 2147483647 by omega) dX10_quickIn_109
  have j_27 : 0 ≤ x1 ∧ x1 ≤ 99 → (-2147483648) ≤ x2 ∧ x2 ≤ 2147483647 → ∀ (y0_27 : Int), (-2147483648) ≤ y0_27 ∧ y0_27 ≤ 2147483647 → ∀ (H : Heap) (locs : List Loc), tf_n tf_kt g M_X10_quickIn T s.heap T H locs → tf_s H a0 (g.1.2 10 3) = some (.ref b0) → tf_rw H b0 = r0 → ∀ (ls : Array Slot), lv_has ls 9 [(0, .ref a0), (1, .int (Int32.ofInt x1)), (2, .int (Int32.ofInt x2))] → W p l e R s m args below meth c H locs 0 0 Q (F0 m 27 ls [.int (Int32.ofInt y0_27)]) := by
    intro hx1_27 hx2_27 y0_27 hy0_27 H locs hW hs3_27 hcROW_27 ls hl
    refine lv_istore_n (lv' := [(3, .int (Int32.ofInt y0_27)), (0, .ref a0), (1, .int (Int32.ofInt x1)), (2, .int (Int32.ofInt x2))]) hx hb dX10_quickIn_27 rfl hl (by decide) rfl (fun ls hl => ?_)
    refine lv_aload_n hx hb dX10_quickIn_28 rfl (lv_at hl 1 rfl) ?_
    refine tf_get hx hb hts inlX10 hown hK (ci := 10) rfl hW ha0 rfl 37 rfl (by decide) (hts _ fl_X10_376) dX10_quickIn_29 (fun v110 hv110 hsv110 => ?_)
    obtain ⟨z111, rfl, hz111⟩ := tf_v0 hv110
    refine tf_if_ne (tgt := 40) hx hb ⟨by omega, by omega⟩ dX10_quickIn_32 (by decide) (fun h112 => ?_) (fun h112 => ?_)
    · refine lv_aload_n hx hb dX10_quickIn_40 rfl (lv_at hl 1 rfl) ?_
      refine tf_get hx hb hts inlX10 hown hK (ci := 10) rfl hW ha0 rfl 37 rfl (by decide) (hts _ fl_X10_376) dX10_quickIn_41 (fun v113 hv113 hsv113 => ?_)
      obtain rfl : v113 = .int (Int32.ofInt z111) := Option.some.inj (hsv113.symm.trans hsv110)
      refine tf_iconst hx hb dX10_quickIn_44 ?_
      refine tf_icmp_ne (tgt := 54) hx hb ⟨by omega, by omega⟩ ⟨by decide, by decide⟩ dX10_quickIn_45 (by decide) (fun h114 => ?_) (fun h114 => ?_)
      · refine lv_aload_n hx hb dX10_quickIn_54 rfl (lv_at hl 1 rfl) ?_
        refine tf_get hx hb hts inlX10 hown hK (ci := 10) rfl hW ha0 rfl 37 rfl (by decide) (hts _ fl_X10_376) dX10_quickIn_55 (fun v115 hv115 hsv115 => ?_)
        obtain rfl : v115 = .int (Int32.ofInt z111) := Option.some.inj (hsv115.symm.trans hsv110)
        refine tf_iconst hx hb dX10_quickIn_58 ?_
        refine tf_icmp_ne (tgt := 74) hx hb ⟨by omega, by omega⟩ ⟨by decide, by decide⟩ dX10_quickIn_59 (by decide) (fun h116 => ?_) (fun h116 => ?_)
        · refine lv_aload_n hx hb dX10_quickIn_74 rfl (lv_at hl 1 rfl) ?_
          refine tf_get hx hb hts inlX10 hown hK (ci := 10) rfl hW ha0 rfl 37 rfl (by decide) (hts _ fl_X10_376) dX10_quickIn_75 (fun v117 hv117 hsv117 => ?_)
          obtain rfl : v117 = .int (Int32.ofInt z111) := Option.some.inj (hsv117.symm.trans hsv110)
          refine tf_iconst hx hb dX10_quickIn_78 ?_
          refine tf_icmp_ne (tgt := 93) hx hb ⟨by omega, by omega⟩ ⟨by decide, by decide⟩ dX10_quickIn_79 (by decide) (fun h118 => ?_) (fun h118 => ?_)
          · refine tf_bipush hx hb dX10_quickIn_93 (by decide) ?_
            exact j_95 ⟨by omega, by omega⟩ ⟨by omega, by omega⟩ (y0_27) ⟨by omega, by omega⟩ (40) ⟨by omega, by omega⟩ (z111) ⟨by omega, by omega⟩ _ _ hW hs3_27 hcROW_27 hsv110 _ (lv_sub hl [1, 2, 3, 0] rfl)
          · refine tf_sipush hx hb dX10_quickIn_82 (by decide) ?_
            refine lv_aload_n hx hb dX10_quickIn_85 rfl (lv_at hl 1 rfl) ?_
            refine tf_get hx hb hts inlX10 hown hK (ci := 10) rfl hW ha0 rfl 40 rfl (by decide) (hts _ fl_X10_394) dX10_quickIn_86 (fun v119 hv119 hsv119 => ?_)
            obtain ⟨z120, rfl, hz120⟩ := tf_v0 hv119
            refine tf_iadd_any hx hb dX10_quickIn_89 (fun z121 hz121 => ?_)
            refine lv_goto (tgt := 95) hx hb dX10_quickIn_90 (by decide) ?_
            exact j_95 ⟨by omega, by omega⟩ ⟨by omega, by omega⟩ (y0_27) ⟨by omega, by omega⟩ (z121) ⟨by omega, by omega⟩ (z111) ⟨by omega, by omega⟩ _ _ hW hs3_27 hcROW_27 hsv110 _ (lv_sub hl [1, 2, 3, 0] rfl)
        · refine tf_bipush hx hb dX10_quickIn_62 (by decide) ?_
          refine tf_iconst hx hb dX10_quickIn_64 ?_
          refine lv_aload_n hx hb dX10_quickIn_65 rfl (lv_at hl 1 rfl) ?_
          refine tf_get hx hb hts inlX10 hown hK (ci := 10) rfl hW ha0 rfl 40 rfl (by decide) (hts _ fl_X10_394) dX10_quickIn_66 (fun v122 hv122 hsv122 => ?_)
          obtain ⟨z123, rfl, hz123⟩ := tf_v0 hv122
          refine tf_imul_any hx hb dX10_quickIn_69 (fun z124 hz124 => ?_)
          refine tf_iadd_any hx hb dX10_quickIn_70 (fun z125 hz125 => ?_)
          refine lv_goto (tgt := 95) hx hb dX10_quickIn_71 (by decide) ?_
          exact j_95 ⟨by omega, by omega⟩ ⟨by omega, by omega⟩ (y0_27) ⟨by omega, by omega⟩ (z125) ⟨by omega, by omega⟩ (z111) ⟨by omega, by omega⟩ _ _ hW hs3_27 hcROW_27 hsv110 _ (lv_sub hl [1, 2, 3, 0] rfl)
      · refine tf_sipush hx hb dX10_quickIn_48 (by decide) ?_
        refine lv_goto (tgt := 95) hx hb dX10_quickIn_51 (by decide) ?_
        exact j_95 ⟨by omega, by omega⟩ ⟨by omega, by omega⟩ (y0_27) ⟨by omega, by omega⟩ (180) ⟨by omega, by omega⟩ (z111) ⟨by omega, by omega⟩ _ _ hW hs3_27 hcROW_27 hsv110 _ (lv_sub hl [1, 2, 3, 0] rfl)
    · refine tf_bipush hx hb dX10_quickIn_35 (by decide) ?_
      refine lv_goto (tgt := 95) hx hb dX10_quickIn_37 (by decide) ?_
      exact j_95 ⟨by omega, by omega⟩ ⟨by omega, by omega⟩ (y0_27) ⟨by omega, by omega⟩ (100) ⟨by omega, by omega⟩ (z111) ⟨by omega, by omega⟩ _ _ hW hs3_27 hcROW_27 hsv110 _ (lv_sub hl [1, 2, 3, 0] rfl)
  refine tf_enter (As := [.ref a0, .int (Int32.ofInt x1), .int (Int32.ofInt x2)]) hargs (Nat.le_of_ble_eq_true rfl) (fun ls hl => ?_)
  have hl : lv_has ls 9 [(0, .ref a0), (1, .int (Int32.ofInt x1)), (2, .int (Int32.ofInt x2))] := hl
  refine lv_aload_n hx hb dX10_quickIn_0 rfl (lv_at hl 0 rfl) ?_
  refine lv_iload_n hx hb dX10_quickIn_1 rfl (lv_at hl 1 rfl) ?_
  refine lv_iload_n hx hb dX10_quickIn_2 rfl (lv_at hl 2 rfl) ?_
  refine tf_callv (va_runV (As := [.int (Int32.ofInt x1), .int (Int32.ofInt x2)]) (rest := []) ⟨hx, hb, hml, hown, hts⟩ (c_X10_find l g T a0 ha0 (x1) ⟨by omega, by omega⟩ (x2) ⟨by omega, by omega⟩) (cwV 2 hts gv_X10_397 rfl rfl rfl hd_X10_find ⟨Nat.le_trans (by decide) hR1, Nat.le_trans (by decide) hR2⟩) (tf_preV hk hW ha0 (ci := 10) rfl rfl trivial) rfl rfl hl.1 rfl (lv_room (Nat.le_of_ble_eq_true rfl)) dX10_quickIn_3 ⟨Nat.zero_le _, Nat.zero_le _⟩) hW (by decide) (fun H126 locs126 hW hF126 hp126 => ?_)
  have hs127 := tf_keepF hF126 ha0 rfl rfl (by decide) hfb0
  have hs128 := tf_keepC hF126 hb0 rfl (by decide) hr0
  refine lv_aload_n hx hb dX10_quickIn_6 rfl (lv_at hl 0 rfl) ?_
  refine tf_get hx hb hts inlX10 hown hK (ci := 10) rfl hW ha0 rfl 38 rfl (by decide) (hts _ fl_X10_379) dX10_quickIn_7 (fun v129 hv129 hsv129 => ?_)
  obtain ⟨z130, rfl, hz130⟩ := tf_v0 hv129
  refine tf_iconst hx hb dX10_quickIn_10 ?_
  refine tf_icmp_ne (tgt := 18) hx hb ⟨by omega, by omega⟩ ⟨by decide, by decide⟩ dX10_quickIn_11 (by decide) (fun h131 => ?_) (fun h131 => ?_)
  · refine lv_aload_n hx hb dX10_quickIn_18 rfl (lv_at hl 0 rfl) ?_
    refine tf_get hx hb hts inlX10 hown hK (ci := 10) rfl hW ha0 rfl 36 rfl (by decide) (hts _ fl_X10_85) dX10_quickIn_19 (fun v132 hv132 hsv132 => ?_)
    obtain ⟨ad133, rfl, had133⟩ := tf_v1 hv132
    refine lv_aload_n hx hb dX10_quickIn_22 rfl (lv_at hl 0 rfl) ?_
    refine tf_get hx hb hts inlX10 hown hK (ci := 10) rfl hW ha0 rfl 38 rfl (by decide) (hts _ fl_X10_379) dX10_quickIn_23 (fun v134 hv134 hsv134 => ?_)
    obtain rfl : v134 = .int (Int32.ofInt z130) := Option.some.inj (hsv134.symm.trans hsv129)
    refine tf_iald (t0 := 0) hx hb hK hW had133 rfl rfl (by omega) (by omega) dX10_quickIn_26 (fun v135 hv135 hsv135 => ?_)
    obtain ⟨z136, rfl, hz136⟩ := tf_v0 hv135
    exact j_27 ⟨by omega, by omega⟩ ⟨by omega, by omega⟩ (z136) ⟨by omega, by omega⟩ _ _ hW hs127 hs128 _ (lv_sub hl [0, 1, 2] rfl)
  · refine tf_iconst hx hb dX10_quickIn_14 ?_
    refine lv_goto (tgt := 27) hx hb dX10_quickIn_15 (by decide) ?_
    exact j_27 ⟨by omega, by omega⟩ ⟨by omega, by omega⟩ (0) ⟨by omega, by omega⟩ _ _ hW hs127 hs128 _ (lv_sub hl [0, 1, 2] rfl)

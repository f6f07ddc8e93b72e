
abbrev M_X4_spells : List (Nat × Nat) := []
set_option maxHeartbeats 4000000 in
set_option maxRecDepth 100000 in
theorem c_X4_spells (l : Launch) (g : tf_G) (T : tf_T) (a0 : Nat) (ha0 : T a0 = some (21, 0)) (i1 w1 : Nat) (hi1 : i1 < 14) (hw1 : tf_sl.getD i1 0 = w1) (hv1 : 1 ≤ w1 ∧ w1 ≤ 6) (x2 : Int) (hp2 : 0 ≤ x2 ∧ x2 ≤ 399) (b0 : Nat) (hb0 : T b0 = some (3, 400)) : Met l yX4_spells (cd_X4_spells :: wsL_law) ({ frames := 5, cells := 0, slots := 0, locals := 109 }) (tf_P g T [.ref a0, .ref (g.2.2.2 (10 + i1)), .int (Int32.ofInt x2)] (fun H => tf_s H a0 (g.1.2 4 3) = some (.ref b0))) (tf_Qi g M_X4_spells T (fun z _ _ => z = 0 ∨ z = 1)) 0 0 (fun q => tf_B g ≤ q) := by
  refine Met.ofW (cc := cX4_spells) (maxL := 5) (ret := (some .boolean)) (by decide) rfl ?_
  intro p e s m args below meth c s₁ B hml hv
  obtain ⟨hargs, hk, hW0, hB, hpre⟩ := hv
  have he0 := hpre
  have hx := B.exec
  have hb := B.bytes
  have hr := B.returns
  have hts : ∀ w ∈ wsL_law, w.before args s = true := fun w h => atoms_spec (ws := cd_X4_spells :: wsL_law) B.pre w (List.mem_cons_of_mem _ h)
  have hown : s.vm.findClass RX4 = some m.cls := findClass_of_methodNamed B.named
  have hlocks := B.notSynchronized
  have hK := hk.1
  have hW := tf_n.start (M := M_X4_spells) hW0 hB
  obtain ⟨Q, hQ⟩ : ∃ q, q = MQ below (tf_Qi g M_X4_spells T (fun z _ _ => z = 0 ∨ z = 1)) args s 0 0 (fun q => tf_B g ≤ q) := ⟨_, rfl⟩
  rw [← hQ]
  obtain ⟨R, hR⟩ : ∃ q, q = (headSpec (cd_X4_spells :: wsL_law) ({ frames := 5, cells := 0, slots := 0, locals := 109 })).room := ⟨_, rfl⟩
  rw [← hR]
  have hR1 : 5 ≤ R.frames := by rw [hR]; exact Nat.le_refl _
  have hR2 : 109 ≤ R.locals := by rw [hR]; exact Nat.le_refl _
  have hR3 : 0 ≤ R.cells := by rw [hR]; exact Nat.le_refl _
  have hR4 : 0 ≤ R.slots := by rw [hR]; exact Nat.le_refl _
  have hin := (name_of_methodNamed B.named B.method).1
  clear hR B
  have j_40 : ∀ (n_40 : Nat), 0 ≤ x2 ∧ x2 ≤ 399 → ∀ (x4_40 : Int), 0 ≤ x4_40 ∧ x4_40 ≤ 6 → (x2 + (w1 : Int) ≤ 400) → (x4_40 ≤ (w1 : Int)) → ((w1 : Int) - x4_40 + 1 ≤ (n_40 : Int)) → ∀ (H : Heap) (locs : List Loc), tf_n tf_kt g M_X4_spells T s.heap T H locs → tf_s H a0 (g.1.2 4 3) = some (.ref b0) → ∀ (ls : Array Slot), lv_has ls 5 [(0, .ref a0), (1, .ref (g.2.2.2 (10 + i1))), (2, .int (Int32.ofInt x2)), (4, .int (Int32.ofInt x4_40))] → W p l e R s m args below meth c H locs 0 0 Q (F0 m 40 ls []) := by
    intro n_40
    induction n_40 with
    | zero =>
      intro hx2_40 x4_40 hx4_40 hi0_40 hi1_40 hm_40
      exfalso; omega
    | succ n_40 ih_40 =>
      intro hx2_40 x4_40 hx4_40 hi0_40 hi1_40 hm_40 H locs hW hs3_40 ls hl
      refine lv_iload hx hb dX4_spells_40 (lv_at hl 3 rfl) ?_
      refine lv_aload_n hx hb dX4_spells_42 rfl (lv_at hl 1 rfl) ?_
      refine tf_calli (va_runV (As := []) (rest := [.int (Int32.ofInt x4_40)]) ⟨hx, hb, hml, hown, hts⟩ (c_J0_length_8abf5 l g T i1 w1 hi1 hw1 hv1) (cwV 0 hts gv_X4_93 rfl rfl rfl hd_J0_length_8abf5 ⟨Nat.le_trans (by decide) hR1, Nat.le_trans (by decide) hR2⟩) (tf_preR hk hW hi1 trivial) rfl rfl hl.1 rfl (lv_room (Nat.le_of_ble_eq_true rfl)) dX4_spells_43 ⟨Nat.zero_le _, Nat.zero_le _⟩) hW (by decide) (fun z1 H1 locs1 hW hF1 hp1 => ?_)
      have hs2 := tf_keepF hF1 ha0 rfl rfl (by decide) hs3_40
      obtain ⟨hp1_0, hp1_1, hp1_2⟩ := hp1
      refine tf_icmp_ge (tgt := 75) hx hb ⟨by omega, by omega⟩ ⟨by omega, by omega⟩ dX4_spells_46 (by decide) (fun h3 => ?_) (fun h3 => ?_)
      · refine tf_iconst hx hb dX4_spells_75 ?_
        exact tf_retz (z := 1) hx hb hr hlocks hQ hW (by omega) (show (1) = 0 ∨ (1) = 1 by omega) dX4_spells_76
      · refine lv_aload_n hx hb dX4_spells_49 rfl (lv_at hl 0 rfl) ?_
        refine tf_get hx hb hts inlX4 hown hK (ci := 4) rfl hW ha0 rfl 3 rfl (by decide) (hts _ fl_X4_22) dX4_spells_50 (fun v4 hv4 hsv4 => ?_)
        obtain rfl : v4 = .ref b0 := Option.some.inj (hsv4.symm.trans hs2)
        refine lv_iload_n hx hb dX4_spells_53 rfl (lv_at hl 2 rfl) ?_
        refine lv_iload hx hb dX4_spells_54 (lv_at hl 3 rfl) ?_
        refine tf_iadd hx hb dX4_spells_56 ?_
        refine tf_iald (t0 := 0) hx hb hK hW hb0 rfl rfl (by omega) (by omega) dX4_spells_57 (fun v5 hv5 hsv5 => ?_)
        obtain ⟨z6, rfl, hz6⟩ := tf_v0 hv5
        refine lv_aload_n hx hb dX4_spells_58 rfl (lv_at hl 1 rfl) ?_
        refine lv_iload hx hb dX4_spells_59 (lv_at hl 3 rfl) ?_
        refine tf_calli (va_runV (As := [.int (Int32.ofInt x4_40)]) (rest := [.int (Int32.ofInt z6)]) ⟨hx, hb, hml, hown, hts⟩ (c_J0_charAt_5068e l g T i1 w1 hi1 hw1 hv1 (x4_40) ⟨by omega, by omega⟩ (by omega)) (cwV 1 hts gv_X4_98 rfl rfl rfl hd_J0_charAt_5068e ⟨Nat.le_trans (by decide) hR1, Nat.le_trans (by decide) hR2⟩) (tf_preR hk hW hi1 trivial) rfl rfl hl.1 rfl (lv_room (Nat.le_of_ble_eq_true rfl)) dX4_spells_61 ⟨Nat.zero_le _, Nat.zero_le _⟩) hW (by decide) (fun z7 H7 locs7 hW hF7 hp7 => ?_)
        have hs8 := tf_keepF hF7 ha0 rfl rfl (by decide) hs2
        obtain ⟨hp7_0, hp7_1⟩ := hp7
        refine tf_icmp_eq (tgt := 69) hx hb ⟨by omega, by omega⟩ ⟨by omega, by omega⟩ dX4_spells_64 (by decide) (fun h9 => ?_) (fun h9 => ?_)
        · refine lv_iinc (v := Int32.ofInt ((x4_40 + 1))) (lv' := [(4, .int (Int32.ofInt ((x4_40 + 1)))), (0, .ref a0), (1, .ref (g.2.2.2 (10 + i1))), (2, .int (Int32.ofInt x2))]) hx hb dX4_spells_69 hl (k := 3) rfl (Int32.ofInt_add _ _).symm (by decide) rfl (fun ls hl => ?_)
          refine lv_goto (tgt := 40) hx hb dX4_spells_72 (by decide) ?_
          exact ih_40 ⟨by omega, by omega⟩ ((x4_40 + 1)) ⟨by omega, by omega⟩ (by omega) (by omega) (by omega) _ _ hW hs8 _ (lv_sub hl [1, 2, 3, 0] rfl)
        · refine tf_iconst hx hb dX4_spells_67 ?_
          exact tf_retz (z := 0) hx hb hr hlocks hQ hW (by omega) (show (0) = 0 ∨ (0) = 1 by omega) dX4_spells_68
  have j_37 : 0 ≤ x2 ∧ x2 ≤ 399 → (x2 + (w1 : Int) ≤ 400) → ∀ (H : Heap) (locs : List Loc), tf_n tf_kt g M_X4_spells T s.heap T H locs → tf_s H a0 (g.1.2 4 3) = some (.ref b0) → ∀ (ls : Array Slot), lv_has ls 5 [(0, .ref a0), (1, .ref (g.2.2.2 (10 + i1))), (2, .int (Int32.ofInt x2))] → W p l e R s m args below meth c H locs 0 0 Q (F0 m 37 ls []) := by
    intro hx2_37 hi0_37 H locs hW hs3_37 ls hl
    refine tf_iconst hx hb dX4_spells_37 ?_
    refine lv_istore (lv' := [(4, .int (Int32.ofInt 0)), (0, .ref a0), (1, .ref (g.2.2.2 (10 + i1))), (2, .int (Int32.ofInt x2))]) hx hb dX4_spells_38 hl (by decide) rfl (fun ls hl => ?_)
    exact j_40 (((w1 : Int) - 0 + 1 : Int)).toNat ⟨by omega, by omega⟩ (0) ⟨by omega, by omega⟩ (by omega) (by omega) (by omega) _ _ hW hs3_37 _ (lv_sub hl [1, 2, 3, 0] rfl)
  refine tf_enter (As := [.ref a0, .ref (g.2.2.2 (10 + i1)), .int (Int32.ofInt x2)]) hargs (Nat.le_of_ble_eq_true rfl) (fun ls hl => ?_)
  have hl : lv_has ls 5 [(0, .ref a0), (1, .ref (g.2.2.2 (10 + i1))), (2, .int (Int32.ofInt x2))] := hl
  refine lv_iload_n hx hb dX4_spells_0 rfl (lv_at hl 2 rfl) ?_
  refine lv_aload_n hx hb dX4_spells_1 rfl (lv_at hl 1 rfl) ?_
  refine tf_calli (va_runV (As := []) (rest := [.int (Int32.ofInt x2)]) ⟨hx, hb, hml, hown, hts⟩ (c_J0_length_8abf5 l g T i1 w1 hi1 hw1 hv1) (cwV 0 hts gv_X4_93 rfl rfl rfl hd_J0_length_8abf5 ⟨Nat.le_trans (by decide) hR1, Nat.le_trans (by decide) hR2⟩) (tf_preR hk hW hi1 trivial) rfl rfl hl.1 rfl (lv_room (Nat.le_of_ble_eq_true rfl)) dX4_spells_2 ⟨Nat.zero_le _, Nat.zero_le _⟩) hW (by decide) (fun z10 H10 locs10 hW hF10 hp10 => ?_)
  have hs11 := tf_keepF hF10 ha0 rfl rfl (by decide) he0
  obtain ⟨hp10_0, hp10_1, hp10_2⟩ := hp10
  refine tf_iadd hx hb dX4_spells_5 ?_
  refine lv_istore_n (lv' := [(3, .int (Int32.ofInt ((x2 + z10)))), (0, .ref a0), (1, .ref (g.2.2.2 (10 + i1))), (2, .int (Int32.ofInt x2))]) hx hb dX4_spells_6 rfl hl (by decide) rfl (fun ls hl => ?_)
  refine lv_iload_n hx hb dX4_spells_7 rfl (lv_at hl 0 rfl) ?_
  refine lv_aload_n hx hb dX4_spells_8 rfl (lv_at hl 1 rfl) ?_
  refine tf_get hx hb hts inlX4 hown hK (ci := 4) rfl hW ha0 rfl 4 rfl (by decide) (hts _ fl_X4_25) dX4_spells_9 (fun v12 hv12 hsv12 => ?_)
  obtain ⟨z13, rfl, hz13⟩ := tf_v0 hv12
  refine tf_icmp_gt (tgt := 35) hx hb ⟨by omega, by omega⟩ ⟨by omega, by omega⟩ dX4_spells_12 (by decide) (fun h14 => ?_) (fun h14 => ?_)
  · refine tf_iconst hx hb dX4_spells_35 ?_
    exact tf_retz (z := 0) hx hb hr hlocks hQ hW (by omega) (show (0) = 0 ∨ (0) = 1 by omega) dX4_spells_36
  · refine lv_iload_n hx hb dX4_spells_15 rfl (lv_at hl 0 rfl) ?_
    refine lv_aload_n hx hb dX4_spells_16 rfl (lv_at hl 1 rfl) ?_
    refine tf_get hx hb hts inlX4 hown hK (ci := 4) rfl hW ha0 rfl 4 rfl (by decide) (hts _ fl_X4_25) dX4_spells_17 (fun v15 hv15 hsv15 => ?_)
    obtain rfl : v15 = .int (Int32.ofInt z13) := Option.some.inj (hsv15.symm.trans hsv12)
    refine tf_icmp_ge (tgt := 37) hx hb ⟨by omega, by omega⟩ ⟨by omega, by omega⟩ dX4_spells_20 (by decide) (fun h16 => ?_) (fun h16 => ?_)
    · exact j_37 ⟨by omega, by omega⟩ (by omega) _ _ hW hs11 _ (lv_sub hl [1, 2, 3] rfl)
    · refine lv_aload_n hx hb dX4_spells_23 rfl (lv_at hl 1 rfl) ?_
      refine tf_get hx hb hts inlX4 hown hK (ci := 4) rfl hW ha0 rfl 3 rfl (by decide) (hts _ fl_X4_22) dX4_spells_24 (fun v17 hv17 hsv17 => ?_)
      obtain rfl : v17 = .ref b0 := Option.some.inj (hsv17.symm.trans hs11)
      refine lv_iload_n hx hb dX4_spells_27 rfl (lv_at hl 0 rfl) ?_
      refine tf_iald (t0 := 0) hx hb hK hW hb0 rfl rfl (by omega) (by omega) dX4_spells_28 (fun v18 hv18 hsv18 => ?_)
      obtain ⟨z19, rfl, hz19⟩ := tf_v0 hv18
      refine tf_calli (va_runS (As := [.int (Int32.ofInt z19)]) (rest := []) ⟨hx, hb, hml, hown, hts⟩ (c_X4_isLetter l g T (z19) ⟨by omega, by omega⟩) ⟨callB_of 1 hts (gw_ws cm_X4_isLetter) rfl rfl rfl (hts _ (tw6 (i := 0) rfl)) (hts _ (tw20 (i := 16) rfl)) hd_X4_isLetter.2 ⟨Nat.le_trans (by decide) hR1, Nat.le_trans (by decide) hR2⟩, hts _ (tw20 (i := 17) rfl)⟩ (tf_preS hk hW trivial) rfl rfl hl.1 rfl (lv_room (Nat.le_of_ble_eq_true rfl)) dX4_spells_29 ⟨Nat.zero_le _, Nat.zero_le _⟩) hW (by decide) (fun z20 H20 locs20 hW hF20 hp20 => ?_)
      have hs21 := tf_keepF hF20 ha0 rfl rfl (by decide) hs11
      have hs22 := tf_keepF hF20 ha0 rfl rfl (by decide) hsv12
      have hp20 : z20 = 0 ∨ z20 = 1 := hp20
      refine tf_if_eq (tgt := 37) hx hb ⟨by omega, by omega⟩ dX4_spells_32 (by decide) (fun h23 => ?_) (fun h23 => ?_)
      · exact j_37 ⟨by omega, by omega⟩ (by omega) _ _ hW hs21 _ (lv_sub hl [1, 2, 3] rfl)
      · refine tf_iconst hx hb dX4_spells_35 ?_
        exact tf_retz (z := 0) hx hb hr hlocks hQ hW (by omega) (show (0) = 0 ∨ (0) = 1 by omega) dX4_spells_36

abbrev M_X4_wordFrom : List (Nat × Nat) := []
set_option maxHeartbeats 4000000 in
set_option maxRecDepth 100000 in
theorem c_X4_wordFrom (l : Launch) (g : tf_G) (T : tf_T) (a0 : Nat) (ha0 : T a0 = some (21, 0)) (x1 : Int) (hp1 : 0 ≤ x1 ∧ x1 ≤ 399) (b0 : Nat) (hb0 : T b0 = some (3, 400)) : Met l yX4_wordFrom (cd_X4_wordFrom :: wsL_law) ({ frames := 6, cells := 0, slots := 0, locals := 133 }) (tf_P g T [.ref a0, .int (Int32.ofInt x1)] (fun H => tf_s H a0 (g.1.2 4 3) = some (.ref b0))) (tf_Qi g M_X4_wordFrom T (fun z _ _ => (-2147483648) ≤ z ∧ z ≤ 2147483647)) 0 0 (fun q => tf_B g ≤ q) := by
  refine Met.ofW (cc := cX4_wordFrom) (maxL := 2) (ret := (some .int)) (by decide) rfl ?_
  intro p e s m args below meth c s₁ B hml hv
  obtain ⟨hargs, hk, hW0, hB, hpre⟩ := hv
  have he0 := hpre
  have hx := B.exec
  have hb := B.bytes
  have hr := B.returns
  have hts : ∀ w ∈ wsL_law, w.before args s = true := fun w h => atoms_spec (ws := cd_X4_wordFrom :: wsL_law) B.pre w (List.mem_cons_of_mem _ h)
  have hown : s.vm.findClass RX4 = some m.cls := findClass_of_methodNamed B.named
  have hlocks := B.notSynchronized
  have hK := hk.1
  have hW := tf_n.start (M := M_X4_wordFrom) hW0 hB
  obtain ⟨Q, hQ⟩ : ∃ q, q = MQ below (tf_Qi g M_X4_wordFrom T (fun z _ _ => (-2147483648) ≤ z ∧ z ≤ 2147483647)) args s 0 0 (fun q => tf_B g ≤ q) := ⟨_, rfl⟩
  rw [← hQ]
  obtain ⟨R, hR⟩ : ∃ q, q = (headSpec (cd_X4_wordFrom :: wsL_law) ({ frames := 6, cells := 0, slots := 0, locals := 133 })).room := ⟨_, rfl⟩
  rw [← hR]
  have hR1 : 6 ≤ R.frames := by rw [hR]; exact Nat.le_refl _
  have hR2 : 133 ≤ R.locals := by rw [hR]; exact Nat.le_refl _
  have hR3 : 0 ≤ R.cells := by rw [hR]; exact Nat.le_refl _
  have hR4 : 0 ≤ R.slots := by rw [hR]; exact Nat.le_refl _
  have hin := (name_of_methodNamed B.named B.method).1
  clear hR B
  refine tf_enter (As := [.ref a0, .int (Int32.ofInt x1)]) hargs (Nat.le_of_ble_eq_true rfl) (fun ls hl => ?_)
  have hl : lv_has ls 2 [(0, .ref a0), (1, .int (Int32.ofInt x1))] := hl
  refine lv_aload_n hx hb dX4_wordFrom_0 rfl (lv_at hl 0 rfl) ?_
  refine tf_ldcS (i := 0) hx hb hk hown rfl dX4_wordFrom_1 ?_
  refine lv_iload_n hx hb dX4_wordFrom_3 rfl (lv_at hl 1 rfl) ?_
  refine tf_calli (va_runV (As := [.ref (g.2.2.2 (10 + 0)), .int (Int32.ofInt x1)]) (rest := []) ⟨hx, hb, hml, hown, hts⟩ (c_X4_spells l g T a0 ha0 0 5 (by decide) (by decide) ⟨by decide, by decide⟩ (x1) ⟨by omega, by omega⟩ b0 hb0) (cwV 2 hts gv_X4_63 rfl rfl rfl hd_X4_spells ⟨Nat.le_trans (by decide) hR1, Nat.le_trans (by decide) hR2⟩) (tf_preV hk hW ha0 (ci := 4) rfl rfl he0) rfl rfl hl.1 rfl (lv_room (Nat.le_of_ble_eq_true rfl)) dX4_wordFrom_4 ⟨Nat.zero_le _, Nat.zero_le _⟩) hW (by decide) (fun z1 H1 locs1 hW hF1 hp1 => ?_)
  have hs2 := tf_keepF hF1 ha0 rfl rfl (by decide) he0
  have hp1 : z1 = 0 ∨ z1 = 1 := hp1
  refine tf_if_eq (tgt := 14) hx hb ⟨by omega, by omega⟩ dX4_wordFrom_7 (by decide) (fun h3 => ?_) (fun h3 => ?_)
  · refine lv_aload_n hx hb dX4_wordFrom_14 rfl (lv_at hl 0 rfl) ?_
    refine tf_ldcS (i := 1) hx hb hk hown rfl dX4_wordFrom_15 ?_
    refine lv_iload_n hx hb dX4_wordFrom_17 rfl (lv_at hl 1 rfl) ?_
    refine tf_calli (va_runV (As := [.ref (g.2.2.2 (10 + 1)), .int (Int32.ofInt x1)]) (rest := []) ⟨hx, hb, hml, hown, hts⟩ (c_X4_spells l g T a0 ha0 1 2 (by decide) (by decide) ⟨by decide, by decide⟩ (x1) ⟨by omega, by omega⟩ b0 hb0) (cwV 2 hts gv_X4_63 rfl rfl rfl hd_X4_spells ⟨Nat.le_trans (by decide) hR1, Nat.le_trans (by decide) hR2⟩) (tf_preV hk hW ha0 (ci := 4) rfl rfl hs2) rfl rfl hl.1 rfl (lv_room (Nat.le_of_ble_eq_true rfl)) dX4_wordFrom_18 ⟨Nat.zero_le _, Nat.zero_le _⟩) hW (by decide) (fun z4 H4 locs4 hW hF4 hp4 => ?_)
    have hs5 := tf_keepF hF4 ha0 rfl rfl (by decide) hs2
    have hp4 : z4 = 0 ∨ z4 = 1 := hp4
    refine tf_if_eq (tgt := 28) hx hb ⟨by omega, by omega⟩ dX4_wordFrom_21 (by decide) (fun h6 => ?_) (fun h6 => ?_)
    · refine lv_aload_n hx hb dX4_wordFrom_28 rfl (lv_at hl 0 rfl) ?_
      refine tf_ldcS (i := 2) hx hb hk hown rfl dX4_wordFrom_29 ?_
      refine lv_iload_n hx hb dX4_wordFrom_31 rfl (lv_at hl 1 rfl) ?_
      refine tf_calli (va_runV (As := [.ref (g.2.2.2 (10 + 2)), .int (Int32.ofInt x1)]) (rest := []) ⟨hx, hb, hml, hown, hts⟩ (c_X4_spells l g T a0 ha0 2 2 (by decide) (by decide) ⟨by decide, by decide⟩ (x1) ⟨by omega, by omega⟩ b0 hb0) (cwV 2 hts gv_X4_63 rfl rfl rfl hd_X4_spells ⟨Nat.le_trans (by decide) hR1, Nat.le_trans (by decide) hR2⟩) (tf_preV hk hW ha0 (ci := 4) rfl rfl hs5) rfl rfl hl.1 rfl (lv_room (Nat.le_of_ble_eq_true rfl)) dX4_wordFrom_32 ⟨Nat.zero_le _, Nat.zero_le _⟩) hW (by decide) (fun z7 H7 locs7 hW hF7 hp7 => ?_)
      have hs8 := tf_keepF hF7 ha0 rfl rfl (by decide) hs5
      have hp7 : z7 = 0 ∨ z7 = 1 := hp7
      refine tf_if_eq (tgt := 42) hx hb ⟨by omega, by omega⟩ dX4_wordFrom_35 (by decide) (fun h9 => ?_) (fun h9 => ?_)
      · refine lv_aload_n hx hb dX4_wordFrom_42 rfl (lv_at hl 0 rfl) ?_
        refine tf_ldcS (i := 3) hx hb hk hown rfl dX4_wordFrom_43 ?_
        refine lv_iload_n hx hb dX4_wordFrom_45 rfl (lv_at hl 1 rfl) ?_
        refine tf_calli (va_runV (As := [.ref (g.2.2.2 (10 + 3)), .int (Int32.ofInt x1)]) (rest := []) ⟨hx, hb, hml, hown, hts⟩ (c_X4_spells l g T a0 ha0 3 3 (by decide) (by decide) ⟨by decide, by decide⟩ (x1) ⟨by omega, by omega⟩ b0 hb0) (cwV 2 hts gv_X4_63 rfl rfl rfl hd_X4_spells ⟨Nat.le_trans (by decide) hR1, Nat.le_trans (by decide) hR2⟩) (tf_preV hk hW ha0 (ci := 4) rfl rfl hs8) rfl rfl hl.1 rfl (lv_room (Nat.le_of_ble_eq_true rfl)) dX4_wordFrom_46 ⟨Nat.zero_le _, Nat.zero_le _⟩) hW (by decide) (fun z10 H10 locs10 hW hF10 hp10 => ?_)
        have hs11 := tf_keepF hF10 ha0 rfl rfl (by decide) hs8
        have hp10 : z10 = 0 ∨ z10 = 1 := hp10
        refine tf_if_eq (tgt := 56) hx hb ⟨by omega, by omega⟩ dX4_wordFrom_49 (by decide) (fun h12 => ?_) (fun h12 => ?_)
        · refine lv_aload_n hx hb dX4_wordFrom_56 rfl (lv_at hl 0 rfl) ?_
          refine tf_ldcS (i := 4) hx hb hk hown rfl dX4_wordFrom_57 ?_
          refine lv_iload_n hx hb dX4_wordFrom_59 rfl (lv_at hl 1 rfl) ?_
          refine tf_calli (va_runV (As := [.ref (g.2.2.2 (10 + 4)), .int (Int32.ofInt x1)]) (rest := []) ⟨hx, hb, hml, hown, hts⟩ (c_X4_spells l g T a0 ha0 4 3 (by decide) (by decide) ⟨by decide, by decide⟩ (x1) ⟨by omega, by omega⟩ b0 hb0) (cwV 2 hts gv_X4_63 rfl rfl rfl hd_X4_spells ⟨Nat.le_trans (by decide) hR1, Nat.le_trans (by decide) hR2⟩) (tf_preV hk hW ha0 (ci := 4) rfl rfl hs11) rfl rfl hl.1 rfl (lv_room (Nat.le_of_ble_eq_true rfl)) dX4_wordFrom_60 ⟨Nat.zero_le _, Nat.zero_le _⟩) hW (by decide) (fun z13 H13 locs13 hW hF13 hp13 => ?_)
          have hs14 := tf_keepF hF13 ha0 rfl rfl (by decide) hs11
          have hp13 : z13 = 0 ∨ z13 = 1 := hp13
          refine tf_if_eq (tgt := 70) hx hb ⟨by omega, by omega⟩ dX4_wordFrom_63 (by decide) (fun h15 => ?_) (fun h15 => ?_)
          · refine lv_aload_n hx hb dX4_wordFrom_70 rfl (lv_at hl 0 rfl) ?_
            refine tf_ldcS (i := 5) hx hb hk hown rfl dX4_wordFrom_71 ?_
            refine lv_iload_n hx hb dX4_wordFrom_73 rfl (lv_at hl 1 rfl) ?_
            refine tf_calli (va_runV (As := [.ref (g.2.2.2 (10 + 5)), .int (Int32.ofInt x1)]) (rest := []) ⟨hx, hb, hml, hown, hts⟩ (c_X4_spells l g T a0 ha0 5 4 (by decide) (by decide) ⟨by decide, by decide⟩ (x1) ⟨by omega, by omega⟩ b0 hb0) (cwV 2 hts gv_X4_63 rfl rfl rfl hd_X4_spells ⟨Nat.le_trans (by decide) hR1, Nat.le_trans (by decide) hR2⟩) (tf_preV hk hW ha0 (ci := 4) rfl rfl hs14) rfl rfl hl.1 rfl (lv_room (Nat.le_of_ble_eq_true rfl)) dX4_wordFrom_74 ⟨Nat.zero_le _, Nat.zero_le _⟩) hW (by decide) (fun z16 H16 locs16 hW hF16 hp16 => ?_)
            have hs17 := tf_keepF hF16 ha0 rfl rfl (by decide) hs14
            have hp16 : z16 = 0 ∨ z16 = 1 := hp16
            refine tf_if_eq (tgt := 85) hx hb ⟨by omega, by omega⟩ dX4_wordFrom_77 (by decide) (fun h18 => ?_) (fun h18 => ?_)
            · refine lv_aload_n hx hb dX4_wordFrom_85 rfl (lv_at hl 0 rfl) ?_
              refine tf_ldcS (i := 6) hx hb hk hown rfl dX4_wordFrom_86 ?_
              refine lv_iload_n hx hb dX4_wordFrom_88 rfl (lv_at hl 1 rfl) ?_
              refine tf_calli (va_runV (As := [.ref (g.2.2.2 (10 + 6)), .int (Int32.ofInt x1)]) (rest := []) ⟨hx, hb, hml, hown, hts⟩ (c_X4_spells l g T a0 ha0 6 4 (by decide) (by decide) ⟨by decide, by decide⟩ (x1) ⟨by omega, by omega⟩ b0 hb0) (cwV 2 hts gv_X4_63 rfl rfl rfl hd_X4_spells ⟨Nat.le_trans (by decide) hR1, Nat.le_trans (by decide) hR2⟩) (tf_preV hk hW ha0 (ci := 4) rfl rfl hs17) rfl rfl hl.1 rfl (lv_room (Nat.le_of_ble_eq_true rfl)) dX4_wordFrom_89 ⟨Nat.zero_le _, Nat.zero_le _⟩) hW (by decide) (fun z19 H19 locs19 hW hF19 hp19 => ?_)
              have hs20 := tf_keepF hF19 ha0 rfl rfl (by decide) hs17
              have hp19 : z19 = 0 ∨ z19 = 1 := hp19
              refine tf_if_eq (tgt := 100) hx hb ⟨by omega, by omega⟩ dX4_wordFrom_92 (by decide) (fun h21 => ?_) (fun h21 => ?_)
              · refine lv_aload_n hx hb dX4_wordFrom_100 rfl (lv_at hl 0 rfl) ?_
                refine tf_ldcS (i := 7) hx hb hk hown rfl dX4_wordFrom_101 ?_
                refine lv_iload_n hx hb dX4_wordFrom_103 rfl (lv_at hl 1 rfl) ?_
                refine tf_calli (va_runV (As := [.ref (g.2.2.2 (10 + 7)), .int (Int32.ofInt x1)]) (rest := []) ⟨hx, hb, hml, hown, hts⟩ (c_X4_spells l g T a0 ha0 7 4 (by decide) (by decide) ⟨by decide, by decide⟩ (x1) ⟨by omega, by omega⟩ b0 hb0) (cwV 2 hts gv_X4_63 rfl rfl rfl hd_X4_spells ⟨Nat.le_trans (by decide) hR1, Nat.le_trans (by decide) hR2⟩) (tf_preV hk hW ha0 (ci := 4) rfl rfl hs20) rfl rfl hl.1 rfl (lv_room (Nat.le_of_ble_eq_true rfl)) dX4_wordFrom_104 ⟨Nat.zero_le _, Nat.zero_le _⟩) hW (by decide) (fun z22 H22 locs22 hW hF22 hp22 => ?_)
                have hs23 := tf_keepF hF22 ha0 rfl rfl (by decide) hs20
                have hp22 : z22 = 0 ∨ z22 = 1 := hp22
                refine tf_if_eq (tgt := 115) hx hb ⟨by omega, by omega⟩ dX4_wordFrom_107 (by decide) (fun h24 => ?_) (fun h24 => ?_)
                · refine lv_aload_n hx hb dX4_wordFrom_115 rfl (lv_at hl 0 rfl) ?_
                  refine tf_ldcS (i := 8) hx hb hk hown rfl dX4_wordFrom_116 ?_
                  refine lv_iload_n hx hb dX4_wordFrom_118 rfl (lv_at hl 1 rfl) ?_
                  refine tf_calli (va_runV (As := [.ref (g.2.2.2 (10 + 8)), .int (Int32.ofInt x1)]) (rest := []) ⟨hx, hb, hml, hown, hts⟩ (c_X4_spells l g T a0 ha0 8 5 (by decide) (by decide) ⟨by decide, by decide⟩ (x1) ⟨by omega, by omega⟩ b0 hb0) (cwV 2 hts gv_X4_63 rfl rfl rfl hd_X4_spells ⟨Nat.le_trans (by decide) hR1, Nat.le_trans (by decide) hR2⟩) (tf_preV hk hW ha0 (ci := 4) rfl rfl hs23) rfl rfl hl.1 rfl (lv_room (Nat.le_of_ble_eq_true rfl)) dX4_wordFrom_119 ⟨Nat.zero_le _, Nat.zero_le _⟩) hW (by decide) (fun z25 H25 locs25 hW hF25 hp25 => ?_)
                  have hs26 := tf_keepF hF25 ha0 rfl rfl (by decide) hs23
                  have hp25 : z25 = 0 ∨ z25 = 1 := hp25
                  refine tf_if_eq (tgt := 130) hx hb ⟨by omega, by omega⟩ dX4_wordFrom_122 (by decide) (fun h27 => ?_) (fun h27 => ?_)
                  · refine lv_aload_n hx hb dX4_wordFrom_130 rfl (lv_at hl 0 rfl) ?_
                    refine tf_ldcS (i := 9) hx hb hk hown rfl dX4_wordFrom_131 ?_
                    refine lv_iload_n hx hb dX4_wordFrom_133 rfl (lv_at hl 1 rfl) ?_
                    refine tf_calli (va_runV (As := [.ref (g.2.2.2 (10 + 9)), .int (Int32.ofInt x1)]) (rest := []) ⟨hx, hb, hml, hown, hts⟩ (c_X4_spells l g T a0 ha0 9 6 (by decide) (by decide) ⟨by decide, by decide⟩ (x1) ⟨by omega, by omega⟩ b0 hb0) (cwV 2 hts gv_X4_63 rfl rfl rfl hd_X4_spells ⟨Nat.le_trans (by decide) hR1, Nat.le_trans (by decide) hR2⟩) (tf_preV hk hW ha0 (ci := 4) rfl rfl hs26) rfl rfl hl.1 rfl (lv_room (Nat.le_of_ble_eq_true rfl)) dX4_wordFrom_134 ⟨Nat.zero_le _, Nat.zero_le _⟩) hW (by decide) (fun z28 H28 locs28 hW hF28 hp28 => ?_)
                    have hs29 := tf_keepF hF28 ha0 rfl rfl (by decide) hs26
                    have hp28 : z28 = 0 ∨ z28 = 1 := hp28
                    refine tf_if_eq (tgt := 145) hx hb ⟨by omega, by omega⟩ dX4_wordFrom_137 (by decide) (fun h30 => ?_) (fun h30 => ?_)
                    · refine lv_aload_n hx hb dX4_wordFrom_145 rfl (lv_at hl 0 rfl) ?_
                      refine tf_ldcS (i := 10) hx hb hk hown rfl dX4_wordFrom_146 ?_
                      refine lv_iload_n hx hb dX4_wordFrom_148 rfl (lv_at hl 1 rfl) ?_
                      refine tf_calli (va_runV (As := [.ref (g.2.2.2 (10 + 10)), .int (Int32.ofInt x1)]) (rest := []) ⟨hx, hb, hml, hown, hts⟩ (c_X4_spells l g T a0 ha0 10 3 (by decide) (by decide) ⟨by decide, by decide⟩ (x1) ⟨by omega, by omega⟩ b0 hb0) (cwV 2 hts gv_X4_63 rfl rfl rfl hd_X4_spells ⟨Nat.le_trans (by decide) hR1, Nat.le_trans (by decide) hR2⟩) (tf_preV hk hW ha0 (ci := 4) rfl rfl hs29) rfl rfl hl.1 rfl (lv_room (Nat.le_of_ble_eq_true rfl)) dX4_wordFrom_149 ⟨Nat.zero_le _, Nat.zero_le _⟩) hW (by decide) (fun z31 H31 locs31 hW hF31 hp31 => ?_)
                      have hs32 := tf_keepF hF31 ha0 rfl rfl (by decide) hs29
                      have hp31 : z31 = 0 ∨ z31 = 1 := hp31
                      refine tf_if_eq (tgt := 160) hx hb ⟨by omega, by omega⟩ dX4_wordFrom_152 (by decide) (fun h33 => ?_) (fun h33 => ?_)
                      · refine lv_aload_n hx hb dX4_wordFrom_160 rfl (lv_at hl 0 rfl) ?_
                        refine tf_ldcS (i := 11) hx hb hk hown rfl dX4_wordFrom_161 ?_
                        refine lv_iload_n hx hb dX4_wordFrom_163 rfl (lv_at hl 1 rfl) ?_
                        refine tf_calli (va_runV (As := [.ref (g.2.2.2 (10 + 11)), .int (Int32.ofInt x1)]) (rest := []) ⟨hx, hb, hml, hown, hts⟩ (c_X4_spells l g T a0 ha0 11 1 (by decide) (by decide) ⟨by decide, by decide⟩ (x1) ⟨by omega, by omega⟩ b0 hb0) (cwV 2 hts gv_X4_63 rfl rfl rfl hd_X4_spells ⟨Nat.le_trans (by decide) hR1, Nat.le_trans (by decide) hR2⟩) (tf_preV hk hW ha0 (ci := 4) rfl rfl hs32) rfl rfl hl.1 rfl (lv_room (Nat.le_of_ble_eq_true rfl)) dX4_wordFrom_164 ⟨Nat.zero_le _, Nat.zero_le _⟩) hW (by decide) (fun z34 H34 locs34 hW hF34 hp34 => ?_)
                        have hs35 := tf_keepF hF34 ha0 rfl rfl (by decide) hs32
                        have hp34 : z34 = 0 ∨ z34 = 1 := hp34
                        refine tf_if_eq (tgt := 175) hx hb ⟨by omega, by omega⟩ dX4_wordFrom_167 (by decide) (fun h36 => ?_) (fun h36 => ?_)
                        · refine lv_aload_n hx hb dX4_wordFrom_175 rfl (lv_at hl 0 rfl) ?_
                          refine tf_ldcS (i := 12) hx hb hk hown rfl dX4_wordFrom_176 ?_
                          refine lv_iload_n hx hb dX4_wordFrom_178 rfl (lv_at hl 1 rfl) ?_
                          refine tf_calli (va_runV (As := [.ref (g.2.2.2 (10 + 12)), .int (Int32.ofInt x1)]) (rest := []) ⟨hx, hb, hml, hown, hts⟩ (c_X4_spells l g T a0 ha0 12 1 (by decide) (by decide) ⟨by decide, by decide⟩ (x1) ⟨by omega, by omega⟩ b0 hb0) (cwV 2 hts gv_X4_63 rfl rfl rfl hd_X4_spells ⟨Nat.le_trans (by decide) hR1, Nat.le_trans (by decide) hR2⟩) (tf_preV hk hW ha0 (ci := 4) rfl rfl hs35) rfl rfl hl.1 rfl (lv_room (Nat.le_of_ble_eq_true rfl)) dX4_wordFrom_179 ⟨Nat.zero_le _, Nat.zero_le _⟩) hW (by decide) (fun z37 H37 locs37 hW hF37 hp37 => ?_)
                          have hs38 := tf_keepF hF37 ha0 rfl rfl (by decide) hs35
                          have hp37 : z37 = 0 ∨ z37 = 1 := hp37
                          refine tf_if_eq (tgt := 190) hx hb ⟨by omega, by omega⟩ dX4_wordFrom_182 (by decide) (fun h39 => ?_) (fun h39 => ?_)
                          · refine lv_aload_n hx hb dX4_wordFrom_190 rfl (lv_at hl 0 rfl) ?_
                            refine tf_ldcS (i := 13) hx hb hk hown rfl dX4_wordFrom_191 ?_
                            refine lv_iload_n hx hb dX4_wordFrom_193 rfl (lv_at hl 1 rfl) ?_
                            refine tf_calli (va_runV (As := [.ref (g.2.2.2 (10 + 13)), .int (Int32.ofInt x1)]) (rest := []) ⟨hx, hb, hml, hown, hts⟩ (c_X4_spells l g T a0 ha0 13 3 (by decide) (by decide) ⟨by decide, by decide⟩ (x1) ⟨by omega, by omega⟩ b0 hb0) (cwV 2 hts gv_X4_63 rfl rfl rfl hd_X4_spells ⟨Nat.le_trans (by decide) hR1, Nat.le_trans (by decide) hR2⟩) (tf_preV hk hW ha0 (ci := 4) rfl rfl hs38) rfl rfl hl.1 rfl (lv_room (Nat.le_of_ble_eq_true rfl)) dX4_wordFrom_194 ⟨Nat.zero_le _, Nat.zero_le _⟩) hW (by decide) (fun z40 H40 locs40 hW hF40 hp40 => ?_)
                            have hs41 := tf_keepF hF40 ha0 rfl rfl (by decide) hs38
                            have hp40 : z40 = 0 ∨ z40 = 1 := hp40
                            refine tf_if_eq (tgt := 205) hx hb ⟨by omega, by omega⟩ dX4_wordFrom_197 (by decide) (fun h42 => ?_) (fun h42 => ?_)
                            · refine tf_bipush hx hb dX4_wordFrom_205 (by decide) ?_
                              exact tf_reti (z := 6) hx hb hr hlocks hQ hW (show (-2147483648) ≤ (6) ∧ (6) ≤ 2147483647 by omega) dX4_wordFrom_207
                            · refine tf_bipush hx hb dX4_wordFrom_200 (by decide) ?_
                              refine lv_goto (tgt := 207) hx hb dX4_wordFrom_202 (by decide) ?_
                              exact tf_reti (z := 24) hx hb hr hlocks hQ hW (show (-2147483648) ≤ (24) ∧ (24) ≤ 2147483647 by omega) dX4_wordFrom_207
                          · refine tf_bipush hx hb dX4_wordFrom_185 (by decide) ?_
                            refine lv_goto (tgt := 207) hx hb dX4_wordFrom_187 (by decide) ?_
                            exact tf_reti (z := 23) hx hb hr hlocks hQ hW (show (-2147483648) ≤ (23) ∧ (23) ≤ 2147483647 by omega) dX4_wordFrom_207
                        · refine tf_bipush hx hb dX4_wordFrom_170 (by decide) ?_
                          refine lv_goto (tgt := 207) hx hb dX4_wordFrom_172 (by decide) ?_
                          exact tf_reti (z := 22) hx hb hr hlocks hQ hW (show (-2147483648) ≤ (22) ∧ (22) ≤ 2147483647 by omega) dX4_wordFrom_207
                      · refine tf_bipush hx hb dX4_wordFrom_155 (by decide) ?_
                        refine lv_goto (tgt := 207) hx hb dX4_wordFrom_157 (by decide) ?_
                        exact tf_reti (z := 21) hx hb hr hlocks hQ hW (show (-2147483648) ≤ (21) ∧ (21) ≤ 2147483647 by omega) dX4_wordFrom_207
                    · refine tf_bipush hx hb dX4_wordFrom_140 (by decide) ?_
                      refine lv_goto (tgt := 207) hx hb dX4_wordFrom_142 (by decide) ?_
                      exact tf_reti (z := 20) hx hb hr hlocks hQ hW (show (-2147483648) ≤ (20) ∧ (20) ≤ 2147483647 by omega) dX4_wordFrom_207
                  · refine tf_bipush hx hb dX4_wordFrom_125 (by decide) ?_
                    refine lv_goto (tgt := 207) hx hb dX4_wordFrom_127 (by decide) ?_
                    exact tf_reti (z := 19) hx hb hr hlocks hQ hW (show (-2147483648) ≤ (19) ∧ (19) ≤ 2147483647 by omega) dX4_wordFrom_207
                · refine tf_bipush hx hb dX4_wordFrom_110 (by decide) ?_
                  refine lv_goto (tgt := 207) hx hb dX4_wordFrom_112 (by decide) ?_
                  exact tf_reti (z := 18) hx hb hr hlocks hQ hW (show (-2147483648) ≤ (18) ∧ (18) ≤ 2147483647 by omega) dX4_wordFrom_207
              · refine tf_bipush hx hb dX4_wordFrom_95 (by decide) ?_
                refine lv_goto (tgt := 207) hx hb dX4_wordFrom_97 (by decide) ?_
                exact tf_reti (z := 17) hx hb hr hlocks hQ hW (show (-2147483648) ≤ (17) ∧ (17) ≤ 2147483647 by omega) dX4_wordFrom_207
            · refine tf_bipush hx hb dX4_wordFrom_80 (by decide) ?_
              refine lv_goto (tgt := 207) hx hb dX4_wordFrom_82 (by decide) ?_
              exact tf_reti (z := 16) hx hb hr hlocks hQ hW (show (-2147483648) ≤ (16) ∧ (16) ≤ 2147483647 by omega) dX4_wordFrom_207
          · refine tf_iconst hx hb dX4_wordFrom_66 ?_
            refine lv_goto (tgt := 207) hx hb dX4_wordFrom_67 (by decide) ?_
            exact tf_reti (z := 5) hx hb hr hlocks hQ hW (show (-2147483648) ≤ (5) ∧ (5) ≤ 2147483647 by omega) dX4_wordFrom_207
        · refine tf_iconst hx hb dX4_wordFrom_52 ?_
          refine lv_goto (tgt := 207) hx hb dX4_wordFrom_53 (by decide) ?_
          exact tf_reti (z := 4) hx hb hr hlocks hQ hW (show (-2147483648) ≤ (4) ∧ (4) ≤ 2147483647 by omega) dX4_wordFrom_207
      · refine tf_iconst hx hb dX4_wordFrom_38 ?_
        refine lv_goto (tgt := 207) hx hb dX4_wordFrom_39 (by decide) ?_
        exact tf_reti (z := 3) hx hb hr hlocks hQ hW (show (-2147483648) ≤ (3) ∧ (3) ≤ 2147483647 by omega) dX4_wordFrom_207
    · refine tf_iconst hx hb dX4_wordFrom_24 ?_
      refine lv_goto (tgt := 207) hx hb dX4_wordFrom_25 (by decide) ?_
      exact tf_reti (z := 2) hx hb hr hlocks hQ hW (show (-2147483648) ≤ (2) ∧ (2) ≤ 2147483647 by omega) dX4_wordFrom_207
  · refine tf_iconst hx hb dX4_wordFrom_10 ?_
    refine lv_goto (tgt := 207) hx hb dX4_wordFrom_11 (by decide) ?_
    exact tf_reti (z := 1) hx hb hr hlocks hQ hW (show (-2147483648) ≤ (1) ∧ (1) ≤ 2147483647 by omega) dX4_wordFrom_207

abbrev M_X4_sortFrom : List (Nat × Nat) := []
set_option maxHeartbeats 4000000 in
set_option maxRecDepth 100000 in
theorem c_X4_sortFrom (l : Launch) (g : tf_G) (T : tf_T) (a0 : Nat) (ha0 : T a0 = some (21, 0)) (x1 : Int) (hp1 : 0 ≤ x1 ∧ x1 ≤ 399) (b0 : Nat) (hb0 : T b0 = some (3, 400)) : Met l yX4_sortFrom (cd_X4_sortFrom :: wsL_law) ({ frames := 7, cells := 0, slots := 0, locals := 154 }) (tf_P g T [.ref a0, .int (Int32.ofInt x1)] (fun H => tf_s H a0 (g.1.2 4 3) = some (.ref b0))) (tf_Qi g M_X4_sortFrom T (fun z _ _ => (-2147483648) ≤ z ∧ z ≤ 2147483647)) 0 0 (fun q => tf_B g ≤ q) := by
  refine Met.ofW (cc := cX4_sortFrom) (maxL := 2) (ret := (some .int)) (by decide) rfl ?_
  intro p e s m args below meth c s₁ B hml hv
  obtain ⟨hargs, hk, hW0, hB, hpre⟩ := hv
  have he0 := hpre
  have hx := B.exec
  have hb := B.bytes
  have hr := B.returns
  have hts : ∀ w ∈ wsL_law, w.before args s = true := fun w h => atoms_spec (ws := cd_X4_sortFrom :: wsL_law) B.pre w (List.mem_cons_of_mem _ h)
  have hown : s.vm.findClass RX4 = some m.cls := findClass_of_methodNamed B.named
  have hlocks := B.notSynchronized
  have hK := hk.1
  have hW := tf_n.start (M := M_X4_sortFrom) hW0 hB
  obtain ⟨Q, hQ⟩ : ∃ q, q = MQ below (tf_Qi g M_X4_sortFrom T (fun z _ _ => (-2147483648) ≤ z ∧ z ≤ 2147483647)) args s 0 0 (fun q => tf_B g ≤ q) := ⟨_, rfl⟩
  rw [← hQ]
  obtain ⟨R, hR⟩ : ∃ q, q = (headSpec (cd_X4_sortFrom :: wsL_law) ({ frames := 7, cells := 0, slots := 0, locals := 154 })).room := ⟨_, rfl⟩
  rw [← hR]
  have hR1 : 7 ≤ R.frames := by rw [hR]; exact Nat.le_refl _
  have hR2 : 154 ≤ R.locals := by rw [hR]; exact Nat.le_refl _
  have hR3 : 0 ≤ R.cells := by rw [hR]; exact Nat.le_refl _
  have hR4 : 0 ≤ R.slots := by rw [hR]; exact Nat.le_refl _
  have hin := (name_of_methodNamed B.named B.method).1
  clear hR B
  refine tf_enter (As := [.ref a0, .int (Int32.ofInt x1)]) hargs (Nat.le_of_ble_eq_true rfl) (fun ls hl => ?_)
  have hl : lv_has ls 2 [(0, .ref a0), (1, .int (Int32.ofInt x1))] := hl
  refine lv_aload_n hx hb dX4_sortFrom_0 rfl (lv_at hl 0 rfl) ?_
  refine tf_get hx hb hts inlX4 hown hK (ci := 4) rfl hW ha0 rfl 3 rfl (by decide) (hts _ fl_X4_22) dX4_sortFrom_1 (fun v1 hv1 hsv1 => ?_)
  obtain rfl : v1 = .ref b0 := Option.some.inj (hsv1.symm.trans he0)
  refine lv_iload_n hx hb dX4_sortFrom_4 rfl (lv_at hl 1 rfl) ?_
  refine tf_iald (t0 := 0) hx hb hK hW hb0 rfl rfl (by omega) (by omega) dX4_sortFrom_5 (fun v2 hv2 hsv2 => ?_)
  obtain ⟨z3, rfl, hz3⟩ := tf_v0 hv2
  refine tf_calli (va_runS (As := [.int (Int32.ofInt z3)]) (rest := []) ⟨hx, hb, hml, hown, hts⟩ (c_X4_isLetter l g T (z3) ⟨by omega, by omega⟩) ⟨callB_of 1 hts (gw_ws cm_X4_isLetter) rfl rfl rfl (hts _ (tw6 (i := 0) rfl)) (hts _ (tw20 (i := 16) rfl)) hd_X4_isLetter.2 ⟨Nat.le_trans (by decide) hR1, Nat.le_trans (by decide) hR2⟩, hts _ (tw20 (i := 17) rfl)⟩ (tf_preS hk hW trivial) rfl rfl hl.1 rfl (lv_room (Nat.le_of_ble_eq_true rfl)) dX4_sortFrom_6 ⟨Nat.zero_le _, Nat.zero_le _⟩) hW (by decide) (fun z4 H4 locs4 hW hF4 hp4 => ?_)
  have hs5 := tf_keepF hF4 ha0 rfl rfl (by decide) he0
  have hp4 : z4 = 0 ∨ z4 = 1 := hp4
  refine tf_if_eq (tgt := 18) hx hb ⟨by omega, by omega⟩ dX4_sortFrom_9 (by decide) (fun h6 => ?_) (fun h6 => ?_)
  · refine lv_aload_n hx hb dX4_sortFrom_18 rfl (lv_at hl 0 rfl) ?_
    refine tf_get hx hb hts inlX4 hown hK (ci := 4) rfl hW ha0 rfl 3 rfl (by decide) (hts _ fl_X4_22) dX4_sortFrom_19 (fun v7 hv7 hsv7 => ?_)
    obtain rfl : v7 = .ref b0 := Option.some.inj (hsv7.symm.trans hs5)
    refine lv_iload_n hx hb dX4_sortFrom_22 rfl (lv_at hl 1 rfl) ?_
    refine tf_iald (t0 := 0) hx hb hK hW hb0 rfl rfl (by omega) (by omega) dX4_sortFrom_23 (fun v8 hv8 hsv8 => ?_)
    obtain ⟨z9, rfl, hz9⟩ := tf_v0 hv8
    refine tf_calli (va_runS (As := [.int (Int32.ofInt z9)]) (rest := []) ⟨hx, hb, hml, hown, hts⟩ (c_X4_isDigit l g T (z9) ⟨by omega, by omega⟩) ⟨callB_of 1 hts (gw_ws cm_X4_isDigit) rfl rfl rfl (hts _ (tw6 (i := 0) rfl)) (hts _ (tw20 (i := 19) rfl)) hd_X4_isDigit.2 ⟨Nat.le_trans (by decide) hR1, Nat.le_trans (by decide) hR2⟩, hts _ (tw20 (i := 20) rfl)⟩ (tf_preS hk hW trivial) rfl rfl hl.1 rfl (lv_room (Nat.le_of_ble_eq_true rfl)) dX4_sortFrom_24 ⟨Nat.zero_le _, Nat.zero_le _⟩) hW (by decide) (fun z10 H10 locs10 hW hF10 hp10 => ?_)
    have hs11 := tf_keepF hF10 ha0 rfl rfl (by decide) hs5
    have hp10 : z10 = 0 ∨ z10 = 1 := hp10
    refine tf_if_eq (tgt := 38) hx hb ⟨by omega, by omega⟩ dX4_sortFrom_27 (by decide) (fun h12 => ?_) (fun h12 => ?_)
    · refine tf_sipush hx hb dX4_sortFrom_38 (by decide) ?_
      refine lv_aload_n hx hb dX4_sortFrom_41 rfl (lv_at hl 0 rfl) ?_
      refine tf_get hx hb hts inlX4 hown hK (ci := 4) rfl hW ha0 rfl 3 rfl (by decide) (hts _ fl_X4_22) dX4_sortFrom_42 (fun v13 hv13 hsv13 => ?_)
      obtain rfl : v13 = .ref b0 := Option.some.inj (hsv13.symm.trans hs11)
      refine lv_iload_n hx hb dX4_sortFrom_45 rfl (lv_at hl 1 rfl) ?_
      refine tf_iald (t0 := 0) hx hb hK hW hb0 rfl rfl (by omega) (by omega) dX4_sortFrom_46 (fun v14 hv14 hsv14 => ?_)
      obtain ⟨z15, rfl, hz15⟩ := tf_v0 hv14
      refine tf_iadd hx hb dX4_sortFrom_47 ?_
      exact tf_reti (z := (1000 + z15)) hx hb hr hlocks hQ hW (show (-2147483648) ≤ ((1000 + z15)) ∧ ((1000 + z15)) ≤ 2147483647 by omega) dX4_sortFrom_48
    · refine lv_aload_n hx hb dX4_sortFrom_30 rfl (lv_at hl 0 rfl) ?_
      refine lv_iload_n hx hb dX4_sortFrom_31 rfl (lv_at hl 1 rfl) ?_
      refine tf_calli (va_runV (As := [.int (Int32.ofInt x1)]) (rest := []) ⟨hx, hb, hml, hown, hts⟩ (c_X4_numberFrom l g T a0 ha0 (x1) ⟨by omega, by omega⟩ b0 hb0) (cwV 1 hts gv_X4_58 rfl rfl rfl hd_X4_numberFrom ⟨Nat.le_trans (by decide) hR1, Nat.le_trans (by decide) hR2⟩) (tf_preV hk hW ha0 (ci := 4) rfl rfl hs11) rfl rfl hl.1 rfl (lv_room (Nat.le_of_ble_eq_true rfl)) dX4_sortFrom_32 ⟨Nat.zero_le _, Nat.zero_le _⟩) hW (by decide) (fun z16 H16 locs16 hW hF16 hp16 => ?_)
      have hs17 := tf_keepF hF16 ha0 rfl rfl (by decide) hs11
      obtain ⟨hp16_0, hp16_1⟩ := hp16
      refine lv_goto (tgt := 48) hx hb dX4_sortFrom_35 (by decide) ?_
      exact tf_reti (z := z16) hx hb hr hlocks hQ hW (show (-2147483648) ≤ (z16) ∧ (z16) ≤ 2147483647 by omega) dX4_sortFrom_48
  · refine lv_aload_n hx hb dX4_sortFrom_12 rfl (lv_at hl 0 rfl) ?_
    refine lv_iload_n hx hb dX4_sortFrom_13 rfl (lv_at hl 1 rfl) ?_
    refine tf_calli (va_runV (As := [.int (Int32.ofInt x1)]) (rest := []) ⟨hx, hb, hml, hown, hts⟩ (c_X4_wordFrom l g T a0 ha0 (x1) ⟨by omega, by omega⟩ b0 hb0) (cwV 1 hts gv_X4_55 rfl rfl rfl hd_X4_wordFrom ⟨Nat.le_trans (by decide) hR1, Nat.le_trans (by decide) hR2⟩) (tf_preV hk hW ha0 (ci := 4) rfl rfl hs5) rfl rfl hl.1 rfl (lv_room (Nat.le_of_ble_eq_true rfl)) dX4_sortFrom_14 ⟨Nat.zero_le _, Nat.zero_le _⟩) hW (by decide) (fun z18 H18 locs18 hW hF18 hp18 => ?_)
    have hs19 := tf_keepF hF18 ha0 rfl rfl (by decide) hs5
    obtain ⟨hp18_0, hp18_1⟩ := hp18
    exact tf_reti (z := z18) hx hb hr hlocks hQ hW (show (-2147483648) ≤ (z18) ∧ (z18) ≤ 2147483647 by omega) dX4_sortFrom_17

abbrev M_X4_cut : List (Nat × Nat) := [(0, 0), (21, 2), (21, 3), (21, 4)]
set_option maxHeartbeats 4000000 in
set_option maxRecDepth 100000 in
theorem c_X4_cut (l : Launch) (g : tf_G) (T : tf_T) (a0 : Nat) (ha0 : T a0 = some (21, 0)) (a1 : Nat) (ha1 : T a1 = some (3, 400)) (x2 : Int) (hp2 : (-2147483648) ≤ x2 ∧ x2 ≤ 2147483647) : Met l yX4_cut (cd_X4_cut :: wsL_law) ({ frames := 8, cells := 0, slots := 0, locals := 175 }) (tf_P g T [.ref a0, .ref a1, .int (Int32.ofInt x2)] (fun H => True)) (tf_Qv g M_X4_cut T (fun _ H => tf_s H a0 (g.1.2 4 3) = some (.ref a1) ∧ (∃ z : Int, tf_s H a0 (g.1.2 4 2) = some (.int (Int32.ofInt z)) ∧ 1 ≤ z ∧ z ≤ 401))) 0 0 (fun q => tf_B g ≤ q) := by
  refine Met.ofW (cc := cX4_cut) (maxL := 4) (ret := none) (by decide) rfl ?_
  intro p e s m args below meth c s₁ B hml hv
  obtain ⟨hargs, hk, hW0, hB, hpre⟩ := hv
  have hx := B.exec
  have hb := B.bytes
  have hr := B.returns
  have hts : ∀ w ∈ wsL_law, w.before args s = true := fun w h => atoms_spec (ws := cd_X4_cut :: wsL_law) B.pre w (List.mem_cons_of_mem _ h)
  have hown : s.vm.findClass RX4 = some m.cls := findClass_of_methodNamed B.named
  have hlocks := B.notSynchronized
  have hK := hk.1
  have hW := tf_n.start (M := M_X4_cut) hW0 hB
  obtain ⟨Q, hQ⟩ : ∃ q, q = MQ below (tf_Qv g M_X4_cut T (fun _ H => tf_s H a0 (g.1.2 4 3) = some (.ref a1) ∧ (∃ z : Int, tf_s H a0 (g.1.2 4 2) = some (.int (Int32.ofInt z)) ∧ 1 ≤ z ∧ z ≤ 401))) args s 0 0 (fun q => tf_B g ≤ q) := ⟨_, rfl⟩
  rw [← hQ]
  obtain ⟨R, hR⟩ : ∃ q, q = (headSpec (cd_X4_cut :: wsL_law) ({ frames := 8, cells := 0, slots := 0, locals := 175 })).room := ⟨_, rfl⟩
  rw [← hR]
  have hR1 : 8 ≤ R.frames := by rw [hR]; exact Nat.le_refl _
  have hR2 : 175 ≤ R.locals := by rw [hR]; exact Nat.le_refl _
  have hR3 : 0 ≤ R.cells := by rw [hR]; exact Nat.le_refl _
  have hR4 : 0 ≤ R.slots := by rw [hR]; exact Nat.le_refl _
  have hin := (name_of_methodNamed B.named B.method).1
  clear hR B
  have j_32 : ∀ (n_32 : Nat), ∀ (x3_32 : Int), 0 ≤ x3_32 ∧ x3_32 ≤ 400 → ∀ (f4_32 : Int), 0 ≤ f4_32 ∧ f4_32 ≤ 400 → (400 - x3_32 + 1 ≤ (n_32 : Int)) → ∀ (H : Heap) (locs : List Loc), tf_n tf_kt g M_X4_cut T s.heap T H locs → tf_s H a0 (g.1.2 4 3) = some (.ref a1) → tf_s H a0 (g.1.2 4 4) = some (.int (Int32.ofInt f4_32)) → ∀ (ls : Array Slot), lv_has ls 4 [(0, .ref a0), (3, .int (Int32.ofInt x3_32))] → W p l e R s m args below meth c H locs 0 0 Q (F0 m 32 ls []) := by
    intro n_32
    induction n_32 with
    | zero =>
      intro x3_32 hx3_32 f4_32 hf4_32 hm_32
      exfalso; omega
    | succ n_32 ih_32 =>
      intro x3_32 hx3_32 f4_32 hf4_32 hm_32 H locs hW hs3_32 hs4_32 ls hl
      have j_69 : 0 ≤ x3_32 ∧ x3_32 ≤ 399 → ∀ (f4_69 : Int), 1 ≤ f4_69 ∧ f4_69 ≤ 400 → ∀ (H : Heap) (locs : List Loc), tf_n tf_kt g M_X4_cut T s.heap T H locs → tf_s H a0 (g.1.2 4 3) = some (.ref a1) → tf_s H a0 (g.1.2 4 4) = some (.int (Int32.ofInt f4_69)) → ∀ (ls : Array Slot), lv_has ls 4 [(0, .ref a0), (3, .int (Int32.ofInt x3_32))] → W p l e R s m args below meth c H locs 0 0 Q (F0 m 69 ls []) := by
        intro hx3_69 f4_69 hf4_69 H locs hW hs3_69 hs4_69 ls hl
        refine lv_iinc (v := Int32.ofInt ((x3_32 + 1))) (lv' := [(3, .int (Int32.ofInt ((x3_32 + 1)))), (0, .ref a0)]) hx hb dX4_cut_69 hl (k := 1) rfl (Int32.ofInt_add _ _).symm (by decide) rfl (fun ls hl => ?_)
        refine lv_goto (tgt := 32) hx hb dX4_cut_72 (by decide) ?_
        exact ih_32 ((x3_32 + 1)) ⟨by omega, by omega⟩ (f4_69) ⟨by omega, by omega⟩ (by omega) _ _ hW hs3_69 hs4_69 _ (lv_sub hl [1, 0] rfl)
      refine lv_iload_n hx hb dX4_cut_32 rfl (lv_at hl 1 rfl) ?_
      refine lv_aload_n hx hb dX4_cut_33 rfl (lv_at hl 0 rfl) ?_
      refine tf_get hx hb hts inlX4 hown hK (ci := 4) rfl hW ha0 rfl 4 rfl (by decide) (hts _ fl_X4_25) dX4_cut_34 (fun v1 hv1 hsv1 => ?_)
      obtain rfl : v1 = .int (Int32.ofInt f4_32) := Option.some.inj (hsv1.symm.trans hs4_32)
      refine tf_icmp_ge (tgt := 75) hx hb ⟨by omega, by omega⟩ ⟨by omega, by omega⟩ dX4_cut_37 (by decide) (fun h2 => ?_) (fun h2 => ?_)
      · refine lv_aload_n hx hb dX4_cut_75 rfl (lv_at hl 0 rfl) ?_
        refine tf_iconst hx hb dX4_cut_76 ?_
        refine lv_aload_n hx hb dX4_cut_77 rfl (lv_at hl 0 rfl) ?_
        refine tf_get hx hb hts inlX4 hown hK (ci := 4) rfl hW ha0 rfl 4 rfl (by decide) (hts _ fl_X4_25) dX4_cut_78 (fun v3 hv3 hsv3 => ?_)
        obtain rfl : v3 = .int (Int32.ofInt f4_32) := Option.some.inj (hsv3.symm.trans hs4_32)
        refine tf_callv (va_runV (As := [.int (Int32.ofInt 0), .int (Int32.ofInt f4_32)]) (rest := []) ⟨hx, hb, hml, hown, hts⟩ (c_X4_add l g T a0 ha0 (0) ⟨by omega, by omega⟩ (f4_32) ⟨by omega, by omega⟩) (cwV 2 hts gv_X4_45 rfl rfl rfl hd_X4_add ⟨Nat.le_trans (by decide) hR1, Nat.le_trans (by decide) hR2⟩) (tf_preV hk hW ha0 (ci := 4) rfl rfl trivial) rfl rfl hl.1 rfl (lv_room (Nat.le_of_ble_eq_true rfl)) dX4_cut_81 ⟨Nat.zero_le _, Nat.zero_le _⟩) hW (by decide) (fun H4 locs4 hW hF4 hp4 => ?_)
        have hs5 := tf_keepF hF4 ha0 rfl rfl (by decide) hs3_32
        have hs6 := tf_keepF hF4 ha0 rfl rfl (by decide) hs4_32
        obtain ⟨zo4_0, ho4_0, hzo4_0⟩ := hp4
        exact tf_retv hx hb hr hlocks hQ hW ⟨hs5, ⟨_, ho4_0, by omega, by omega⟩⟩ dX4_cut_84
      · refine lv_aload_n hx hb dX4_cut_40 rfl (lv_at hl 0 rfl) ?_
        refine tf_get hx hb hts inlX4 hown hK (ci := 4) rfl hW ha0 rfl 3 rfl (by decide) (hts _ fl_X4_22) dX4_cut_41 (fun v7 hv7 hsv7 => ?_)
        obtain rfl : v7 = .ref a1 := Option.some.inj (hsv7.symm.trans hs3_32)
        refine lv_iload_n hx hb dX4_cut_44 rfl (lv_at hl 1 rfl) ?_
        refine tf_iald (t0 := 0) hx hb hK hW ha1 rfl rfl (by omega) (by omega) dX4_cut_45 (fun v8 hv8 hsv8 => ?_)
        obtain ⟨z9, rfl, hz9⟩ := tf_v0 hv8
        refine tf_bipush hx hb dX4_cut_46 (by decide) ?_
        refine tf_icmp_eq (tgt := 69) hx hb ⟨by omega, by omega⟩ ⟨by decide, by decide⟩ dX4_cut_48 (by decide) (fun h10 => ?_) (fun h10 => ?_)
        · exact j_69 ⟨by omega, by omega⟩ (f4_32) ⟨by omega, by omega⟩ _ _ hW hs3_32 hs4_32 _ (lv_sub hl [0, 1] rfl)
        · refine lv_aload_n hx hb dX4_cut_51 rfl (lv_at hl 0 rfl) ?_
          refine lv_iload_n hx hb dX4_cut_52 rfl (lv_at hl 1 rfl) ?_
          refine tf_calli (va_runV (As := [.int (Int32.ofInt x3_32)]) (rest := []) ⟨hx, hb, hml, hown, hts⟩ (c_X4_goesOn l g T a0 ha0 (x3_32) ⟨by omega, by omega⟩ a1 ha1) (cwV 1 hts gv_X4_37 rfl rfl rfl hd_X4_goesOn ⟨Nat.le_trans (by decide) hR1, Nat.le_trans (by decide) hR2⟩) (tf_preV hk hW ha0 (ci := 4) rfl rfl hs3_32) rfl rfl hl.1 rfl (lv_room (Nat.le_of_ble_eq_true rfl)) dX4_cut_53 ⟨Nat.zero_le _, Nat.zero_le _⟩) hW (by decide) (fun z11 H11 locs11 hW hF11 hp11 => ?_)
          have hs12 := tf_keepF hF11 ha0 rfl rfl (by decide) hs3_32
          have hs13 := tf_keepF hF11 ha0 rfl rfl (by decide) hs4_32
          have hp11 : z11 = 0 ∨ z11 = 1 := hp11
          refine tf_if_ne (tgt := 69) hx hb ⟨by omega, by omega⟩ dX4_cut_56 (by decide) (fun h14 => ?_) (fun h14 => ?_)
          · exact j_69 ⟨by omega, by omega⟩ (f4_32) ⟨by omega, by omega⟩ _ _ hW hs12 hs13 _ (lv_sub hl [0, 1] rfl)
          · refine lv_aload_n hx hb dX4_cut_59 rfl (lv_at hl 0 rfl) ?_
            refine lv_aload_n hx hb dX4_cut_60 rfl (lv_at hl 0 rfl) ?_
            refine lv_iload_n hx hb dX4_cut_61 rfl (lv_at hl 1 rfl) ?_
            refine tf_calli (va_runV (As := [.int (Int32.ofInt x3_32)]) (rest := [.ref a0]) ⟨hx, hb, hml, hown, hts⟩ (c_X4_sortFrom l g T a0 ha0 (x3_32) ⟨by omega, by omega⟩ a1 ha1) (cwV 1 hts gv_X4_41 rfl rfl rfl hd_X4_sortFrom ⟨Nat.le_trans (by decide) hR1, Nat.le_trans (by decide) hR2⟩) (tf_preV hk hW ha0 (ci := 4) rfl rfl hs12) rfl rfl hl.1 rfl (lv_room (Nat.le_of_ble_eq_true rfl)) dX4_cut_62 ⟨Nat.zero_le _, Nat.zero_le _⟩) hW (by decide) (fun z15 H15 locs15 hW hF15 hp15 => ?_)
            have hs16 := tf_keepF hF15 ha0 rfl rfl (by decide) hs12
            have hs17 := tf_keepF hF15 ha0 rfl rfl (by decide) hs13
            obtain ⟨hp15_0, hp15_1⟩ := hp15
            refine lv_iload_n hx hb dX4_cut_65 rfl (lv_at hl 1 rfl) ?_
            refine tf_callv (va_runV (As := [.int (Int32.ofInt z15), .int (Int32.ofInt x3_32)]) (rest := []) ⟨hx, hb, hml, hown, hts⟩ (c_X4_add l g T a0 ha0 (z15) ⟨by omega, by omega⟩ (x3_32) ⟨by omega, by omega⟩) (cwV 2 hts gv_X4_45 rfl rfl rfl hd_X4_add ⟨Nat.le_trans (by decide) hR1, Nat.le_trans (by decide) hR2⟩) (tf_preV hk hW ha0 (ci := 4) rfl rfl trivial) rfl rfl hl.1 rfl (lv_room (Nat.le_of_ble_eq_true rfl)) dX4_cut_66 ⟨Nat.zero_le _, Nat.zero_le _⟩) hW (by decide) (fun H18 locs18 hW hF18 hp18 => ?_)
            have hs19 := tf_keepF hF18 ha0 rfl rfl (by decide) hs16
            have hs20 := tf_keepF hF18 ha0 rfl rfl (by decide) hs17
            obtain ⟨zo18_0, ho18_0, hzo18_0⟩ := hp18
            exact j_69 ⟨by omega, by omega⟩ (f4_32) ⟨by omega, by omega⟩ _ _ hW hs19 hs20 _ (lv_sub hl [0, 1] rfl)
  refine tf_enter (As := [.ref a0, .ref a1, .int (Int32.ofInt x2)]) hargs (Nat.le_of_ble_eq_true rfl) (fun ls hl => ?_)
  have hl : lv_has ls 4 [(0, .ref a0), (1, .ref a1), (2, .int (Int32.ofInt x2))] := hl
  refine lv_aload_n hx hb dX4_cut_0 rfl (lv_at hl 0 rfl) ?_
  refine lv_aload_n hx hb dX4_cut_1 rfl (lv_at hl 1 rfl) ?_
  refine tf_put hx hb hts inlX4 tyX4 tyX4_ok nmX4 hown hK (ci := 4) rfl hW ha0 rfl rfl 3 rfl (by decide) (by decide) (hts _ fl_X4_22) rfl (tf_u3 ha1 (by omega)) rfl rfl dX4_cut_2 (fun H21 locs21 hW hs21 ht21 hq21 => ?_)
  refine lv_aload_n hx hb dX4_cut_5 rfl (lv_at hl 0 rfl) ?_
  refine tf_iconst hx hb dX4_cut_6 ?_
  refine lv_iload_n hx hb dX4_cut_7 rfl (lv_at hl 2 rfl) ?_
  refine lv_aload_n hx hb dX4_cut_8 rfl (lv_at hl 1 rfl) ?_
  refine tf_alen (t0 := 0) hx hb hK hW ha1 rfl rfl dX4_cut_9 (fun hn22 => ?_)
  refine tf_sipush hx hb dX4_cut_10 (by decide) ?_
  refine tf_mmin hx hb hml hl hown (hts _ (tw20 (i := 10) rfl)) (hts _ (tw18 (i := 17) rfl)) (hts _ (tw10 (i := 2) rfl)) (hts _ (tw18 (i := 18) rfl)) ⟨by decide, by decide⟩ ⟨by decide, by decide⟩ (Nat.le_of_ble_eq_true rfl) (Nat.le_trans (by decide) hR1) (Nat.le_trans (by decide) hR2) (Nat.zero_le _) (Nat.zero_le _) dX4_cut_13 (fun z23 hz23 => ?_)
  refine tf_mmin hx hb hml hl hown (hts _ (tw20 (i := 10) rfl)) (hts _ (tw18 (i := 17) rfl)) (hts _ (tw10 (i := 2) rfl)) (hts _ (tw18 (i := 18) rfl)) ⟨by omega, by omega⟩ ⟨by omega, by omega⟩ (Nat.le_of_ble_eq_true rfl) (Nat.le_trans (by decide) hR1) (Nat.le_trans (by decide) hR2) (Nat.zero_le _) (Nat.zero_le _) dX4_cut_16 (fun z24 hz24 => ?_)
  refine tf_mmax hx hb hml hl hown (hts _ (tw20 (i := 11) rfl)) (hts _ (tw10 (i := 1) rfl)) (hts _ (tw10 (i := 2) rfl)) (hts _ (tw10 (i := 3) rfl)) ⟨by decide, by decide⟩ ⟨by omega, by omega⟩ (Nat.le_of_ble_eq_true rfl) (Nat.le_trans (by decide) hR1) (Nat.le_trans (by decide) hR2) (Nat.zero_le _) (Nat.zero_le _) dX4_cut_19 (fun z25 hz25 => ?_)
  refine tf_put hx hb hts inlX4 tyX4 tyX4_ok nmX4 hown hK (ci := 4) rfl hW ha0 rfl rfl 4 rfl (by decide) (by decide) (hts _ fl_X4_25) rfl (tf_u0 (by omega) (by omega)) rfl rfl dX4_cut_22 (fun H26 locs26 hW hs26 ht26 hq26 => ?_)
  have hs27 := (ht26 3 (by decide) (by decide)).trans hs21
  refine lv_aload_n hx hb dX4_cut_25 rfl (lv_at hl 0 rfl) ?_
  refine tf_iconst hx hb dX4_cut_26 ?_
  refine tf_put hx hb hts inlX4 tyX4 tyX4_ok nmX4 hown hK (ci := 4) rfl hW ha0 rfl rfl 2 rfl (by decide) (by decide) (hts _ fl_X4_18) rfl (tf_u0 (by omega) (by omega)) rfl rfl dX4_cut_27 (fun H28 locs28 hW hs28 ht28 hq28 => ?_)
  have hs29 := (ht28 3 (by decide) (by decide)).trans hs27
  have hs30 := (ht28 4 (by decide) (by decide)).trans hs26
  refine tf_iconst hx hb dX4_cut_30 ?_
  refine lv_istore_n (lv' := [(3, .int (Int32.ofInt 0)), (0, .ref a0), (1, .ref a1), (2, .int (Int32.ofInt x2))]) hx hb dX4_cut_31 rfl hl (by decide) rfl (fun ls hl => ?_)
  exact j_32 ((400 - 0 + 1 : Int)).toNat (0) ⟨by omega, by omega⟩ (z25) ⟨by omega, by omega⟩ (by omega) _ _ hW hs29 hs30 _ (lv_sub hl [1, 0] rfl)

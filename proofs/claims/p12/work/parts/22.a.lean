
abbrev M_X10_in : List (Nat × Nat) := []
set_option maxHeartbeats 4000000 in
set_option maxRecDepth 100000 in
theorem c_X10_in (l : Launch) (g : tf_G) (T : tf_T) (x0 : Int) (hp0 : (-9223372036854775808) ≤ x0 ∧ x0 ≤ 9223372036854775807) (x1 : Int) (hp1 : (-9223372036854775808) ≤ x1 ∧ x1 ≤ 9223372036854775807) (x2 : Int) (hp2 : (-9223372036854775808) ≤ x2 ∧ x2 ≤ 9223372036854775807) : Met l yX10_in (cd_X10_in :: wsL_law) ({ frames := 1, cells := 0, slots := 0, locals := 24 }) (tf_P g T [.long (Int64.ofInt x0), .long (Int64.ofInt x1), .long (Int64.ofInt x2)] (fun H => True)) (tf_Qi g M_X10_in T (fun z _ _ => (z = 1 ∧ x1 ≤ x0 ∧ x0 ≤ x2) ∨ (z = 0 ∧ (x0 < x1 ∨ x2 < x0)))) 0 0 (fun q => tf_B g ≤ q) := by
  refine Met.ofW (cc := cX10_in) (maxL := 6) (ret := (some .boolean)) (by decide) rfl ?_
  intro p e s m args below meth c s₁ B hml hv
  obtain ⟨hargs, hk, hW0, hB, hpre⟩ := hv
  have hx := B.exec
  have hb := B.bytes
  have hr := B.returns
  have hts : ∀ w ∈ wsL_law, w.before args s = true := fun w h => atoms_spec (ws := cd_X10_in :: wsL_law) B.pre w (List.mem_cons_of_mem _ h)
  have hown : s.vm.findClass RX10 = some m.cls := findClass_of_methodNamed B.named
  have hlocks := B.notSynchronized
  have hK := hk.1
  have hW := tf_n.start (M := M_X10_in) hW0 hB
  obtain ⟨Q, hQ⟩ : ∃ q, q = MQ below (tf_Qi g M_X10_in T (fun z _ _ => (z = 1 ∧ x1 ≤ x0 ∧ x0 ≤ x2) ∨ (z = 0 ∧ (x0 < x1 ∨ x2 < x0)))) args s 0 0 (fun q => tf_B g ≤ q) := ⟨_, rfl⟩
  rw [← hQ]
  obtain ⟨R, hR⟩ : ∃ q, q = (headSpec (cd_X10_in :: wsL_law) ({ frames := 1, cells := 0, slots := 0, locals := 24 })).room := ⟨_, rfl⟩
  rw [← hR]
  have hR1 : 1 ≤ R.frames := by rw [hR]; exact Nat.le_refl _
  have hR2 : 24 ≤ R.locals := by rw [hR]; exact Nat.le_refl _
  have hR3 : 0 ≤ R.cells := by rw [hR]; exact Nat.le_refl _
  have hR4 : 0 ≤ R.slots := by rw [hR]; exact Nat.le_refl _
  have hin := (name_of_methodNamed B.named B.method).1
  clear hR B
  refine tf_enter (As := [.long (Int64.ofInt x0), .long (Int64.ofInt x1), .long (Int64.ofInt x2)]) hargs (Nat.le_of_ble_eq_true rfl) (fun ls hl => ?_)
  have hl : lv_has ls 6 [(0, .long (Int64.ofInt x0)), (2, .long (Int64.ofInt x1)), (4, .long (Int64.ofInt x2))] := hl
  refine lv_lload_n hx hb dX10_in_0 rfl (lv_at hl 0 rfl) ?_
  refine lv_lload_n hx hb dX10_in_1 rfl (lv_at hl 1 rfl) ?_
  refine tf_lcmp hx hb ⟨by omega, by omega⟩ ⟨by omega, by omega⟩ dX10_in_2 (fun z1 hz1 => ?_)
  refine tf_if_lt (tgt := 17) hx hb ⟨by omega, by omega⟩ dX10_in_3 (by decide) (fun h2 => ?_) (fun h2 => ?_)
  · refine tf_iconst hx hb dX10_in_17 ?_
    exact tf_retz (z := 0) hx hb hr hlocks hQ hW (by omega) (show ((0) = 1 ∧ x1 ≤ x0 ∧ x0 ≤ x2) ∨ ((0) = 0 ∧ (x0 < x1 ∨ x2 < x0)) by omega) dX10_in_18
  · refine lv_lload_n hx hb dX10_in_6 rfl (lv_at hl 0 rfl) ?_
    refine lv_lload hx hb dX10_in_7 (lv_at hl 2 rfl) ?_
    refine tf_lcmp hx hb ⟨by omega, by omega⟩ ⟨by omega, by omega⟩ dX10_in_9 (fun z3 hz3 => ?_)
    refine tf_if_gt (tgt := 17) hx hb ⟨by omega, by omega⟩ dX10_in_10 (by decide) (fun h4 => ?_) (fun h4 => ?_)
    · refine tf_iconst hx hb dX10_in_17 ?_
      exact tf_retz (z := 0) hx hb hr hlocks hQ hW (by omega) (show ((0) = 1 ∧ x1 ≤ x0 ∧ x0 ≤ x2) ∨ ((0) = 0 ∧ (x0 < x1 ∨ x2 < x0)) by omega) dX10_in_18
    · refine tf_iconst hx hb dX10_in_13 ?_
      refine lv_goto (tgt := 18) hx hb dX10_in_14 (by decide) ?_
      exact tf_retz (z := 1) hx hb hr hlocks hQ hW (by omega) (show ((1) = 1 ∧ x1 ≤ x0 ∧ x0 ≤ x2) ∨ ((1) = 0 ∧ (x0 < x1 ∨ x2 < x0)) by omega) dX10_in_18

abbrev M_X10_is : List (Nat × Nat) := []
set_option maxHeartbeats 4000000 in
set_option maxRecDepth 100000 in
theorem c_X10_is (l : Launch) (g : tf_G) (T : tf_T) (x0 : Int) (hp0 : (-2147483648) ≤ x0 ∧ x0 ≤ 2147483647) (x1 : Int) (hp1 : (-2147483648) ≤ x1 ∧ x1 ≤ 2147483647) : Met l yX10_is (cd_X10_is :: wsL_law) ({ frames := 1, cells := 0, slots := 0, locals := 24 }) (tf_P g T [.int (Int32.ofInt x0), .int (Int32.ofInt x1)] (fun H => True)) (tf_Qi g M_X10_is T (fun z _ _ => (z = 1 ∧ (0 ≤ x1 → x1 ≤ 7 → 0 ≤ x0 → tf_p2 x1 ≤ x0)) ∨ (z = 0))) 0 0 (fun q => tf_B g ≤ q) := by
  refine Met.ofW (cc := cX10_is) (maxL := 2) (ret := (some .boolean)) (by decide) rfl ?_
  intro p e s m args below meth c s₁ B hml hv
  obtain ⟨hargs, hk, hW0, hB, hpre⟩ := hv
  have hx := B.exec
  have hb := B.bytes
  have hr := B.returns
  have hts : ∀ w ∈ wsL_law, w.before args s = true := fun w h => atoms_spec (ws := cd_X10_is :: wsL_law) B.pre w (List.mem_cons_of_mem _ h)
  have hown : s.vm.findClass RX10 = some m.cls := findClass_of_methodNamed B.named
  have hlocks := B.notSynchronized
  have hK := hk.1
  have hW := tf_n.start (M := M_X10_is) hW0 hB
  obtain ⟨Q, hQ⟩ : ∃ q, q = MQ below (tf_Qi g M_X10_is T (fun z _ _ => (z = 1 ∧ (0 ≤ x1 → x1 ≤ 7 → 0 ≤ x0 → tf_p2 x1 ≤ x0)) ∨ (z = 0))) args s 0 0 (fun q => tf_B g ≤ q) := ⟨_, rfl⟩
  rw [← hQ]
  obtain ⟨R, hR⟩ : ∃ q, q = (headSpec (cd_X10_is :: wsL_law) ({ frames := 1, cells := 0, slots := 0, locals := 24 })).room := ⟨_, rfl⟩
  rw [← hR]
  have hR1 : 1 ≤ R.frames := by rw [hR]; exact Nat.le_refl _
  have hR2 : 24 ≤ R.locals := by rw [hR]; exact Nat.le_refl _
  have hR3 : 0 ≤ R.cells := by rw [hR]; exact Nat.le_refl _
  have hR4 : 0 ≤ R.slots := by rw [hR]; exact Nat.le_refl _
  have hin := (name_of_methodNamed B.named B.method).1
  clear hR B
  refine tf_enter (As := [.int (Int32.ofInt x0), .int (Int32.ofInt x1)]) hargs (Nat.le_of_ble_eq_true rfl) (fun ls hl => ?_)
  have hl : lv_has ls 2 [(0, .int (Int32.ofInt x0)), (1, .int (Int32.ofInt x1))] := hl
  refine lv_iload_n hx hb dX10_is_0 rfl (lv_at hl 0 rfl) ?_
  refine lv_iload_n hx hb dX10_is_1 rfl (lv_at hl 1 rfl) ?_
  refine tf_ishr_e hx hb dX10_is_2 (fun zq ezq hzq => ?_)
  refine tf_iconst hx hb dX10_is_3 ?_
  refine tf_iand_e hx hb dX10_is_4 (fun za eza hza => ?_)
  refine tf_iconst hx hb dX10_is_5 ?_
  refine tf_icmp_ne (tgt := 13) hx hb ⟨by omega, by omega⟩ ⟨by decide, by decide⟩ dX10_is_6 (by decide) (fun h1 => ?_) (fun h1 => ?_)
  · refine tf_iconst hx hb dX10_is_13 ?_
    exact tf_retz (z := 0) hx hb hr hlocks hQ hW (by omega) (by first | exact Or.inr rfl | exact Or.inl ⟨rfl, fun h0 h7 hx => tf_bit ezq eza (by omega) h0 h7 hx⟩) dX10_is_14
  · refine tf_iconst hx hb dX10_is_9 ?_
    refine lv_goto (tgt := 14) hx hb dX10_is_10 (by decide) ?_
    exact tf_retz (z := 1) hx hb hr hlocks hQ hW (by omega) (by first | exact Or.inr rfl | exact Or.inl ⟨rfl, fun h0 h7 hx => tf_bit ezq eza (by omega) h0 h7 hx⟩) dX10_is_14

abbrev M_X10_isCell : List (Nat × Nat) := []
set_option maxHeartbeats 4000000 in
set_option maxRecDepth 100000 in
theorem c_X10_isCell (l : Launch) (g : tf_G) (T : tf_T) (x0 : Int) (hp0 : (-2147483648) ≤ x0 ∧ x0 ≤ 2147483647) : Met l yX10_isCell (cd_X10_isCell :: wsL_law) ({ frames := 2, cells := 0, slots := 0, locals := 49 }) (tf_P g T [.int (Int32.ofInt x0)] (fun H => True)) (tf_Qi g M_X10_isCell T (fun z _ _ => (z = 1 ∧ 0 ≤ x0 ∧ x0 ≤ 99) ∨ (z = 0 ∧ (x0 < 0 ∨ 99 < x0)))) 0 0 (fun q => tf_B g ≤ q) := by
  refine Met.ofW (cc := cX10_isCell) (maxL := 1) (ret := (some .boolean)) (by decide) rfl ?_
  intro p e s m args below meth c s₁ B hml hv
  obtain ⟨hargs, hk, hW0, hB, hpre⟩ := hv
  have hx := B.exec
  have hb := B.bytes
  have hr := B.returns
  have hts : ∀ w ∈ wsL_law, w.before args s = true := fun w h => atoms_spec (ws := cd_X10_isCell :: wsL_law) B.pre w (List.mem_cons_of_mem _ h)
  have hown : s.vm.findClass RX10 = some m.cls := findClass_of_methodNamed B.named
  have hlocks := B.notSynchronized
  have hK := hk.1
  have hW := tf_n.start (M := M_X10_isCell) hW0 hB
  obtain ⟨Q, hQ⟩ : ∃ q, q = MQ below (tf_Qi g M_X10_isCell T (fun z _ _ => (z = 1 ∧ 0 ≤ x0 ∧ x0 ≤ 99) ∨ (z = 0 ∧ (x0 < 0 ∨ 99 < x0)))) args s 0 0 (fun q => tf_B g ≤ q) := ⟨_, rfl⟩
  rw [← hQ]
  obtain ⟨R, hR⟩ : ∃ q, q = (headSpec (cd_X10_isCell :: wsL_law) ({ frames := 2, cells := 0, slots := 0, locals := 49 })).room := ⟨_, rfl⟩
  rw [← hR]
  have hR1 : 2 ≤ R.frames := by rw [hR]; exact Nat.le_refl _
  have hR2 : 49 ≤ R.locals := by rw [hR]; exact Nat.le_refl _
  have hR3 : 0 ≤ R.cells := by rw [hR]; exact Nat.le_refl _
  have hR4 : 0 ≤ R.slots := by rw [hR]; exact Nat.le_refl _
  have hin := (name_of_methodNamed B.named B.method).1
  clear hR B
  refine tf_enter (As := [.int (Int32.ofInt x0)]) hargs (Nat.le_of_ble_eq_true rfl) (fun ls hl => ?_)
  have hl : lv_has ls 1 [(0, .int (Int32.ofInt x0))] := hl
  refine lv_iload_n hx hb dX10_isCell_0 rfl (lv_at hl 0 rfl) ?_
  refine tf_i2l hx hb ⟨by omega, by omega⟩ dX10_isCell_1 ?_
  refine tf_lconst (z := 0) hx hb dX10_isCell_2 (by decide) ?_
  refine tf_ldc2 (z := 99) hx hb hown (hts _ kl_X10_120) (by decide) dX10_isCell_3 ?_
  refine tf_calli (va_runS (As := [.long (Int64.ofInt x0), .long (Int64.ofInt 0), .long (Int64.ofInt 99)]) (rest := []) ⟨hx, hb, hml, hown, hts⟩ (c_X10_in l g T (x0) ⟨by omega, by omega⟩ (0) ⟨by omega, by omega⟩ (99) ⟨by omega, by omega⟩) ⟨callB_of 3 hts (gw_ws cm_X10_in) rfl rfl rfl (hts _ (tw1 (i := 5) rfl)) (hts _ (tw11 (i := 3) rfl)) hd_X10_in.2 ⟨Nat.le_trans (by decide) hR1, Nat.le_trans (by decide) hR2⟩, hts _ (tw11 (i := 4) rfl)⟩ (tf_preS hk hW trivial) rfl rfl hl.1 rfl (lv_room (Nat.le_of_ble_eq_true rfl)) dX10_isCell_6 ⟨Nat.zero_le _, Nat.zero_le _⟩) hW (by decide) (fun z1 H1 locs1 hW hF1 hp1 => ?_)
  rcases hp1 with ⟨rfl, h2, h3⟩ | ⟨rfl, h4⟩
  · exact tf_retz (z := 1) hx hb hr hlocks hQ hW (by omega) (show ((1) = 1 ∧ 0 ≤ x0 ∧ x0 ≤ 99) ∨ ((1) = 0 ∧ (x0 < 0 ∨ 99 < x0)) by omega) dX10_isCell_9
  · exact tf_retz (z := 0) hx hb hr hlocks hQ hW (by omega) (show ((0) = 1 ∧ 0 ≤ x0 ∧ x0 ≤ 99) ∨ ((0) = 0 ∧ (x0 < 0 ∨ 99 < x0)) by omega) dX10_isCell_9

abbrev M_X10_isWay : List (Nat × Nat) := []
set_option maxHeartbeats 4000000 in
set_option maxRecDepth 100000 in
theorem c_X10_isWay (l : Launch) (g : tf_G) (T : tf_T) (x0 : Int) (hp0 : (-2147483648) ≤ x0 ∧ x0 ≤ 2147483647) : Met l yX10_isWay (cd_X10_isWay :: wsL_law) ({ frames := 2, cells := 0, slots := 0, locals := 49 }) (tf_P g T [.int (Int32.ofInt x0)] (fun H => True)) (tf_Qi g M_X10_isWay T (fun z _ _ => (z = 1 ∧ 0 ≤ x0 ∧ x0 ≤ 3) ∨ (z = 0 ∧ (x0 < 0 ∨ 3 < x0)))) 0 0 (fun q => tf_B g ≤ q) := by
  refine Met.ofW (cc := cX10_isWay) (maxL := 1) (ret := (some .boolean)) (by decide) rfl ?_
  intro p e s m args below meth c s₁ B hml hv
  obtain ⟨hargs, hk, hW0, hB, hpre⟩ := hv
  have hx := B.exec
  have hb := B.bytes
  have hr := B.returns
  have hts : ∀ w ∈ wsL_law, w.before args s = true := fun w h => atoms_spec (ws := cd_X10_isWay :: wsL_law) B.pre w (List.mem_cons_of_mem _ h)
  have hown : s.vm.findClass RX10 = some m.cls := findClass_of_methodNamed B.named
  have hlocks := B.notSynchronized
  have hK := hk.1
  have hW := tf_n.start (M := M_X10_isWay) hW0 hB
  obtain ⟨Q, hQ⟩ : ∃ q, q = MQ below (tf_Qi g M_X10_isWay T (fun z _ _ => (z = 1 ∧ 0 ≤ x0 ∧ x0 ≤ 3) ∨ (z = 0 ∧ (x0 < 0 ∨ 3 < x0)))) args s 0 0 (fun q => tf_B g ≤ q) := ⟨_, rfl⟩
  rw [← hQ]
  obtain ⟨R, hR⟩ : ∃ q, q = (headSpec (cd_X10_isWay :: wsL_law) ({ frames := 2, cells := 0, slots := 0, locals := 49 })).room := ⟨_, rfl⟩
  rw [← hR]
  have hR1 : 2 ≤ R.frames := by rw [hR]; exact Nat.le_refl _
  have hR2 : 49 ≤ R.locals := by rw [hR]; exact Nat.le_refl _
  have hR3 : 0 ≤ R.cells := by rw [hR]; exact Nat.le_refl _
  have hR4 : 0 ≤ R.slots := by rw [hR]; exact Nat.le_refl _
  have hin := (name_of_methodNamed B.named B.method).1
  clear hR B
  refine tf_enter (As := [.int (Int32.ofInt x0)]) hargs (Nat.le_of_ble_eq_true rfl) (fun ls hl => ?_)
  have hl : lv_has ls 1 [(0, .int (Int32.ofInt x0))] := hl
  refine lv_iload_n hx hb dX10_isWay_0 rfl (lv_at hl 0 rfl) ?_
  refine tf_i2l hx hb ⟨by omega, by omega⟩ dX10_isWay_1 ?_
  refine tf_lconst (z := 0) hx hb dX10_isWay_2 (by decide) ?_
  refine tf_ldc2 (z := 3) hx hb hown (hts _ kl_X10_122) (by decide) dX10_isWay_3 ?_
  refine tf_calli (va_runS (As := [.long (Int64.ofInt x0), .long (Int64.ofInt 0), .long (Int64.ofInt 3)]) (rest := []) ⟨hx, hb, hml, hown, hts⟩ (c_X10_in l g T (x0) ⟨by omega, by omega⟩ (0) ⟨by omega, by omega⟩ (3) ⟨by omega, by omega⟩) ⟨callB_of 3 hts (gw_ws cm_X10_in) rfl rfl rfl (hts _ (tw1 (i := 5) rfl)) (hts _ (tw11 (i := 3) rfl)) hd_X10_in.2 ⟨Nat.le_trans (by decide) hR1, Nat.le_trans (by decide) hR2⟩, hts _ (tw11 (i := 4) rfl)⟩ (tf_preS hk hW trivial) rfl rfl hl.1 rfl (lv_room (Nat.le_of_ble_eq_true rfl)) dX10_isWay_6 ⟨Nat.zero_le _, Nat.zero_le _⟩) hW (by decide) (fun z1 H1 locs1 hW hF1 hp1 => ?_)
  rcases hp1 with ⟨rfl, h2, h3⟩ | ⟨rfl, h4⟩
  · exact tf_retz (z := 1) hx hb hr hlocks hQ hW (by omega) (show ((1) = 1 ∧ 0 ≤ x0 ∧ x0 ≤ 3) ∨ ((1) = 0 ∧ (x0 < 0 ∨ 3 < x0)) by omega) dX10_isWay_9
  · exact tf_retz (z := 0) hx hb hr hlocks hQ hW (by omega) (show ((0) = 1 ∧ 0 ≤ x0 ∧ x0 ≤ 3) ∨ ((0) = 0 ∧ (x0 < 0 ∨ 3 < x0)) by omega) dX10_isWay_9

abbrev M_X10_isUse : List (Nat × Nat) := []
set_option maxHeartbeats 4000000 in
set_option maxRecDepth 100000 in
theorem c_X10_isUse (l : Launch) (g : tf_G) (T : tf_T) (x0 : Int) (hp0 : (-2147483648) ≤ x0 ∧ x0 ≤ 2147483647) : Met l yX10_isUse (cd_X10_isUse :: wsL_law) ({ frames := 2, cells := 0, slots := 0, locals := 49 }) (tf_P g T [.int (Int32.ofInt x0)] (fun H => True)) (tf_Qi g M_X10_isUse T (fun z _ _ => (z = 1 ∧ 1 ≤ x0 ∧ x0 ≤ 3) ∨ (z = 0 ∧ (x0 < 1 ∨ 3 < x0)))) 0 0 (fun q => tf_B g ≤ q) := by
  refine Met.ofW (cc := cX10_isUse) (maxL := 1) (ret := (some .boolean)) (by decide) rfl ?_
  intro p e s m args below meth c s₁ B hml hv
  obtain ⟨hargs, hk, hW0, hB, hpre⟩ := hv
  have hx := B.exec
  have hb := B.bytes
  have hr := B.returns
  have hts : ∀ w ∈ wsL_law, w.before args s = true := fun w h => atoms_spec (ws := cd_X10_isUse :: wsL_law) B.pre w (List.mem_cons_of_mem _ h)
  have hown : s.vm.findClass RX10 = some m.cls := findClass_of_methodNamed B.named
  have hlocks := B.notSynchronized
  have hK := hk.1
  have hW := tf_n.start (M := M_X10_isUse) hW0 hB
  obtain ⟨Q, hQ⟩ : ∃ q, q = MQ below (tf_Qi g M_X10_isUse T (fun z _ _ => (z = 1 ∧ 1 ≤ x0 ∧ x0 ≤ 3) ∨ (z = 0 ∧ (x0 < 1 ∨ 3 < x0)))) args s 0 0 (fun q => tf_B g ≤ q) := ⟨_, rfl⟩
  rw [← hQ]
  obtain ⟨R, hR⟩ : ∃ q, q = (headSpec (cd_X10_isUse :: wsL_law) ({ frames := 2, cells := 0, slots := 0, locals := 49 })).room := ⟨_, rfl⟩
  rw [← hR]
  have hR1 : 2 ≤ R.frames := by rw [hR]; exact Nat.le_refl _
  have hR2 : 49 ≤ R.locals := by rw [hR]; exact Nat.le_refl _
  have hR3 : 0 ≤ R.cells := by rw [hR]; exact Nat.le_refl _
  have hR4 : 0 ≤ R.slots := by rw [hR]; exact Nat.le_refl _
  have hin := (name_of_methodNamed B.named B.method).1
  clear hR B
  refine tf_enter (As := [.int (Int32.ofInt x0)]) hargs (Nat.le_of_ble_eq_true rfl) (fun ls hl => ?_)
  have hl : lv_has ls 1 [(0, .int (Int32.ofInt x0))] := hl
  refine lv_iload_n hx hb dX10_isUse_0 rfl (lv_at hl 0 rfl) ?_
  refine tf_i2l hx hb ⟨by omega, by omega⟩ dX10_isUse_1 ?_
  refine tf_lconst (z := 1) hx hb dX10_isUse_2 (by decide) ?_
  refine tf_ldc2 (z := 3) hx hb hown (hts _ kl_X10_122) (by decide) dX10_isUse_3 ?_
  refine tf_calli (va_runS (As := [.long (Int64.ofInt x0), .long (Int64.ofInt 1), .long (Int64.ofInt 3)]) (rest := []) ⟨hx, hb, hml, hown, hts⟩ (c_X10_in l g T (x0) ⟨by omega, by omega⟩ (1) ⟨by omega, by omega⟩ (3) ⟨by omega, by omega⟩) ⟨callB_of 3 hts (gw_ws cm_X10_in) rfl rfl rfl (hts _ (tw1 (i := 5) rfl)) (hts _ (tw11 (i := 3) rfl)) hd_X10_in.2 ⟨Nat.le_trans (by decide) hR1, Nat.le_trans (by decide) hR2⟩, hts _ (tw11 (i := 4) rfl)⟩ (tf_preS hk hW trivial) rfl rfl hl.1 rfl (lv_room (Nat.le_of_ble_eq_true rfl)) dX10_isUse_6 ⟨Nat.zero_le _, Nat.zero_le _⟩) hW (by decide) (fun z1 H1 locs1 hW hF1 hp1 => ?_)
  rcases hp1 with ⟨rfl, h2, h3⟩ | ⟨rfl, h4⟩
  · exact tf_retz (z := 1) hx hb hr hlocks hQ hW (by omega) (show ((1) = 1 ∧ 1 ≤ x0 ∧ x0 ≤ 3) ∨ ((1) = 0 ∧ (x0 < 1 ∨ 3 < x0)) by omega) dX10_isUse_9
  · exact tf_retz (z := 0) hx hb hr hlocks hQ hW (by omega) (show ((0) = 1 ∧ 1 ≤ x0 ∧ x0 ≤ 3) ∨ ((0) = 0 ∧ (x0 < 1 ∨ 3 < x0)) by omega) dX10_isUse_9

abbrev M_X10_isSmall : List (Nat × Nat) := []
set_option maxHeartbeats 4000000 in
set_option maxRecDepth 100000 in
theorem c_X10_isSmall (l : Launch) (g : tf_G) (T : tf_T) (x0 : Int) (hp0 : (-2147483648) ≤ x0 ∧ x0 ≤ 2147483647) : Met l yX10_isSmall (cd_X10_isSmall :: wsL_law) ({ frames := 1, cells := 0, slots := 0, locals := 24 }) (tf_P g T [.int (Int32.ofInt x0)] (fun H => True)) (tf_Qi g M_X10_isSmall T (fun z _ _ => (z = 1 ∧ 97 ≤ x0 ∧ x0 ≤ 122) ∨ (z = 0 ∧ (x0 < 97 ∨ 122 < x0)))) 0 0 (fun q => tf_B g ≤ q) := by
  refine Met.ofW (cc := cX10_isSmall) (maxL := 1) (ret := (some .boolean)) (by decide) rfl ?_
  intro p e s m args below meth c s₁ B hml hv
  obtain ⟨hargs, hk, hW0, hB, hpre⟩ := hv
  have hx := B.exec
  have hb := B.bytes
  have hr := B.returns
  have hts : ∀ w ∈ wsL_law, w.before args s = true := fun w h => atoms_spec (ws := cd_X10_isSmall :: wsL_law) B.pre w (List.mem_cons_of_mem _ h)
  have hown : s.vm.findClass RX10 = some m.cls := findClass_of_methodNamed B.named
  have hlocks := B.notSynchronized
  have hK := hk.1
  have hW := tf_n.start (M := M_X10_isSmall) hW0 hB
  obtain ⟨Q, hQ⟩ : ∃ q, q = MQ below (tf_Qi g M_X10_isSmall T (fun z _ _ => (z = 1 ∧ 97 ≤ x0 ∧ x0 ≤ 122) ∨ (z = 0 ∧ (x0 < 97 ∨ 122 < x0)))) args s 0 0 (fun q => tf_B g ≤ q) := ⟨_, rfl⟩
  rw [← hQ]
  obtain ⟨R, hR⟩ : ∃ q, q = (headSpec (cd_X10_isSmall :: wsL_law) ({ frames := 1, cells := 0, slots := 0, locals := 24 })).room := ⟨_, rfl⟩
  rw [← hR]
  have hR1 : 1 ≤ R.frames := by rw [hR]; exact Nat.le_refl _
  have hR2 : 24 ≤ R.locals := by rw [hR]; exact Nat.le_refl _
  have hR3 : 0 ≤ R.cells := by rw [hR]; exact Nat.le_refl _
  have hR4 : 0 ≤ R.slots := by rw [hR]; exact Nat.le_refl _
  have hin := (name_of_methodNamed B.named B.method).1
  clear hR B
  refine tf_enter (As := [.int (Int32.ofInt x0)]) hargs (Nat.le_of_ble_eq_true rfl) (fun ls hl => ?_)
  have hl : lv_has ls 1 [(0, .int (Int32.ofInt x0))] := hl
  refine lv_iload_n hx hb dX10_isSmall_0 rfl (lv_at hl 0 rfl) ?_
  refine tf_bipush hx hb dX10_isSmall_1 (by decide) ?_
  refine tf_icmp_lt (tgt := 16) hx hb ⟨by omega, by omega⟩ ⟨by decide, by decide⟩ dX10_isSmall_3 (by decide) (fun h1 => ?_) (fun h1 => ?_)
  · refine tf_iconst hx hb dX10_isSmall_16 ?_
    exact tf_retz (z := 0) hx hb hr hlocks hQ hW (by omega) (show ((0) = 1 ∧ 97 ≤ x0 ∧ x0 ≤ 122) ∨ ((0) = 0 ∧ (x0 < 97 ∨ 122 < x0)) by omega) dX10_isSmall_17
  · refine lv_iload_n hx hb dX10_isSmall_6 rfl (lv_at hl 0 rfl) ?_
    refine tf_bipush hx hb dX10_isSmall_7 (by decide) ?_
    refine tf_icmp_gt (tgt := 16) hx hb ⟨by omega, by omega⟩ ⟨by decide, by decide⟩ dX10_isSmall_9 (by decide) (fun h2 => ?_) (fun h2 => ?_)
    · refine tf_iconst hx hb dX10_isSmall_16 ?_
      exact tf_retz (z := 0) hx hb hr hlocks hQ hW (by omega) (show ((0) = 1 ∧ 97 ≤ x0 ∧ x0 ≤ 122) ∨ ((0) = 0 ∧ (x0 < 97 ∨ 122 < x0)) by omega) dX10_isSmall_17
    · refine tf_iconst hx hb dX10_isSmall_12 ?_
      refine lv_goto (tgt := 17) hx hb dX10_isSmall_13 (by decide) ?_
      exact tf_retz (z := 1) hx hb hr hlocks hQ hW (by omega) (show ((1) = 1 ∧ 97 ≤ x0 ∧ x0 ≤ 122) ∨ ((1) = 0 ∧ (x0 < 97 ∨ 122 < x0)) by omega) dX10_isSmall_17

abbrev M_X10_isDigit : List (Nat × Nat) := []
set_option maxHeartbeats 4000000 in
set_option maxRecDepth 100000 in
theorem c_X10_isDigit (l : Launch) (g : tf_G) (T : tf_T) (x0 : Int) (hp0 : (-2147483648) ≤ x0 ∧ x0 ≤ 2147483647) : Met l yX10_isDigit (cd_X10_isDigit :: wsL_law) ({ frames := 1, cells := 0, slots := 0, locals := 24 }) (tf_P g T [.int (Int32.ofInt x0)] (fun H => True)) (tf_Qi g M_X10_isDigit T (fun z _ _ => (z = 1 ∧ 48 ≤ x0 ∧ x0 ≤ 57) ∨ (z = 0 ∧ (x0 < 48 ∨ 57 < x0)))) 0 0 (fun q => tf_B g ≤ q) := by
  refine Met.ofW (cc := cX10_isDigit) (maxL := 1) (ret := (some .boolean)) (by decide) rfl ?_
  intro p e s m args below meth c s₁ B hml hv
  obtain ⟨hargs, hk, hW0, hB, hpre⟩ := hv
  have hx := B.exec
  have hb := B.bytes
  have hr := B.returns
  have hts : ∀ w ∈ wsL_law, w.before args s = true := fun w h => atoms_spec (ws := cd_X10_isDigit :: wsL_law) B.pre w (List.mem_cons_of_mem _ h)
  have hown : s.vm.findClass RX10 = some m.cls := findClass_of_methodNamed B.named
  have hlocks := B.notSynchronized
  have hK := hk.1
  have hW := tf_n.start (M := M_X10_isDigit) hW0 hB
  obtain ⟨Q, hQ⟩ : ∃ q, q = MQ below (tf_Qi g M_X10_isDigit T (fun z _ _ => (z = 1 ∧ 48 ≤ x0 ∧ x0 ≤ 57) ∨ (z = 0 ∧ (x0 < 48 ∨ 57 < x0)))) args s 0 0 (fun q => tf_B g ≤ q) := ⟨_, rfl⟩
  rw [← hQ]
  obtain ⟨R, hR⟩ : ∃ q, q = (headSpec (cd_X10_isDigit :: wsL_law) ({ frames := 1, cells := 0, slots := 0, locals := 24 })).room := ⟨_, rfl⟩
  rw [← hR]
  have hR1 : 1 ≤ R.frames := by rw [hR]; exact Nat.le_refl _
  have hR2 : 24 ≤ R.locals := by rw [hR]; exact Nat.le_refl _
  have hR3 : 0 ≤ R.cells := by rw [hR]; exact Nat.le_refl _
  have hR4 : 0 ≤ R.slots := by rw [hR]; exact Nat.le_refl _
  have hin := (name_of_methodNamed B.named B.method).1
  clear hR B
  refine tf_enter (As := [.int (Int32.ofInt x0)]) hargs (Nat.le_of_ble_eq_true rfl) (fun ls hl => ?_)
  have hl : lv_has ls 1 [(0, .int (Int32.ofInt x0))] := hl
  refine lv_iload_n hx hb dX10_isDigit_0 rfl (lv_at hl 0 rfl) ?_
  refine tf_bipush hx hb dX10_isDigit_1 (by decide) ?_
  refine tf_icmp_lt (tgt := 16) hx hb ⟨by omega, by omega⟩ ⟨by decide, by decide⟩ dX10_isDigit_3 (by decide) (fun h1 => ?_) (fun h1 => ?_)
  · refine tf_iconst hx hb dX10_isDigit_16 ?_
    exact tf_retz (z := 0) hx hb hr hlocks hQ hW (by omega) (show ((0) = 1 ∧ 48 ≤ x0 ∧ x0 ≤ 57) ∨ ((0) = 0 ∧ (x0 < 48 ∨ 57 < x0)) by omega) dX10_isDigit_17
  · refine lv_iload_n hx hb dX10_isDigit_6 rfl (lv_at hl 0 rfl) ?_
    refine tf_bipush hx hb dX10_isDigit_7 (by decide) ?_
    refine tf_icmp_gt (tgt := 16) hx hb ⟨by omega, by omega⟩ ⟨by decide, by decide⟩ dX10_isDigit_9 (by decide) (fun h2 => ?_) (fun h2 => ?_)
    · refine tf_iconst hx hb dX10_isDigit_16 ?_
      exact tf_retz (z := 0) hx hb hr hlocks hQ hW (by omega) (show ((0) = 1 ∧ 48 ≤ x0 ∧ x0 ≤ 57) ∨ ((0) = 0 ∧ (x0 < 48 ∨ 57 < x0)) by omega) dX10_isDigit_17
    · refine tf_iconst hx hb dX10_isDigit_12 ?_
      refine lv_goto (tgt := 17) hx hb dX10_isDigit_13 (by decide) ?_
      exact tf_retz (z := 1) hx hb hr hlocks hQ hW (by omega) (show ((1) = 1 ∧ 48 ≤ x0 ∧ x0 ≤ 57) ∨ ((1) = 0 ∧ (x0 < 48 ∨ 57 < x0)) by omega) dX10_isDigit_17

abbrev M_X10_tell : List (Nat × Nat) := [(27, 0), (50, 1)]
set_option maxHeartbeats 4000000 in
set_option maxRecDepth 100000 in
theorem c_X10_tell (l : Launch) (g : tf_G) (T : tf_T) (a0 : Nat) (ha0 : T a0 = some (50, 0)) (x1 : Int) (hp1 : (-6) ≤ x1 ∧ x1 ≤ 2147483647) : Met l yX10_tell (cd_X10_tell :: wsL_law) ({ frames := 1, cells := 0, slots := 0, locals := 24 }) (tf_P g T [.ref a0, .int (Int32.ofInt x1)] (fun H => True)) (tf_Qi g M_X10_tell T (fun z _ _ => (-2147483648) ≤ z ∧ z ≤ 2147483647 ∧ z = x1)) 0 0 (fun q => tf_B g ≤ q) := by
  refine Met.ofW (cc := cX10_tell) (maxL := 2) (ret := (some .int)) (by decide) rfl ?_
  intro p e s m args below meth c s₁ B hml hv
  obtain ⟨hargs, hk, hW0, hB, hpre⟩ := hv
  have hx := B.exec
  have hb := B.bytes
  have hr := B.returns
  have hts : ∀ w ∈ wsL_law, w.before args s = true := fun w h => atoms_spec (ws := cd_X10_tell :: wsL_law) B.pre w (List.mem_cons_of_mem _ h)
  have hown : s.vm.findClass RX10 = some m.cls := findClass_of_methodNamed B.named
  have hlocks := B.notSynchronized
  have hK := hk.1
  have hW := tf_n.start (M := M_X10_tell) hW0 hB
  obtain ⟨Q, hQ⟩ : ∃ q, q = MQ below (tf_Qi g M_X10_tell T (fun z _ _ => (-2147483648) ≤ z ∧ z ≤ 2147483647 ∧ z = x1)) args s 0 0 (fun q => tf_B g ≤ q) := ⟨_, rfl⟩
  rw [← hQ]
  obtain ⟨R, hR⟩ : ∃ q, q = (headSpec (cd_X10_tell :: wsL_law) ({ frames := 1, cells := 0, slots := 0, locals := 24 })).room := ⟨_, rfl⟩
  rw [← hR]
  have hR1 : 1 ≤ R.frames := by rw [hR]; exact Nat.le_refl _
  have hR2 : 24 ≤ R.locals := by rw [hR]; exact Nat.le_refl _
  have hR3 : 0 ≤ R.cells := by rw [hR]; exact Nat.le_refl _
  have hR4 : 0 ≤ R.slots := by rw [hR]; exact Nat.le_refl _
  have hin := (name_of_methodNamed B.named B.method).1
  clear hR B
  have j_10 : (-6) ≤ x1 ∧ x1 ≤ 2147483647 → ∀ (y1_10 : Int), (-6) ≤ y1_10 ∧ y1_10 ≤ 0 → ∀ (H : Heap) (locs : List Loc), tf_n tf_kt g M_X10_tell T s.heap T H locs → ∀ (ls : Array Slot), lv_has ls 2 [(0, .ref a0), (1, .int (Int32.ofInt x1))] → W p l e R s m args below meth c H locs 0 0 Q (F0 m 10 ls [.int (Int32.ofInt y1_10), .ref a0]) := by
    intro hx1_10 y1_10 hy1_10 H locs hW  ls hl
    refine tf_put hx hb hts inlX10 tyX10 tyX10_ok nmX10 hown hK (ci := 10) rfl hW ha0 rfl rfl 1 rfl (by decide) (by decide) (hts _ fl_X10_106) rfl (tf_u0 (by omega) (by omega)) rfl rfl dX10_tell_10 (fun H1 locs1 hW hs1 ht1 hq1 => ?_)
    refine lv_iload_n hx hb dX10_tell_13 rfl (lv_at hl 1 rfl) ?_
    refine tf_if_ge (tgt := 28) hx hb ⟨by omega, by omega⟩ dX10_tell_14 (by decide) (fun h2 => ?_) (fun h2 => ?_)
    · refine lv_iload_n hx hb dX10_tell_28 rfl (lv_at hl 1 rfl) ?_
      exact tf_reti (z := x1) hx hb hr hlocks hQ hW (show (-2147483648) ≤ (x1) ∧ (x1) ≤ 2147483647 ∧ (x1) = x1 by omega) dX10_tell_29
    · refine lv_aload_n hx hb dX10_tell_17 rfl (lv_at hl 0 rfl) ?_
      refine tf_get hx hb hts inlX10 hown hK (ci := 10) rfl hW ha0 rfl 2 rfl (by decide) (hts _ fl_X10_7) dX10_tell_18 (fun v3 hv3 hsv3 => ?_)
      obtain ⟨ad4, rfl, had4⟩ := tf_v1 hv3
      refine lv_iload_n hx hb dX10_tell_21 rfl (lv_at hl 1 rfl) ?_
      refine tf_ineg hx hb dX10_tell_22 ?_
      refine lv_dup2_11 hx hb dX10_tell_23 rfl rfl ?_
      refine tf_iald (t0 := 0) hx hb hK hW had4 rfl rfl (by omega) (by omega) dX10_tell_24 (fun v5 hv5 hsv5 => ?_)
      obtain ⟨z6, rfl, hz6⟩ := tf_v0 hv5
      refine tf_iconst hx hb dX10_tell_25 ?_
      refine tf_iadd_any hx hb dX10_tell_26 (fun z7 hz7 => ?_)
      refine tf_iast (t0 := 0) hx hb hK hW had4 rfl rfl (by omega) (by omega) (by decide) (tf_u0 (by omega) (by omega)) dX10_tell_27 (fun H8 locs8 hW hs8 ht8 hq8 => ?_)
      refine lv_iload_n hx hb dX10_tell_28 rfl (lv_at hl 1 rfl) ?_
      exact tf_reti (z := x1) hx hb hr hlocks hQ hW (show (-2147483648) ≤ (x1) ∧ (x1) ≤ 2147483647 ∧ (x1) = x1 by omega) dX10_tell_29
  refine tf_enter (As := [.ref a0, .int (Int32.ofInt x1)]) hargs (Nat.le_of_ble_eq_true rfl) (fun ls hl => ?_)
  have hl : lv_has ls 2 [(0, .ref a0), (1, .int (Int32.ofInt x1))] := hl
  refine lv_aload_n hx hb dX10_tell_0 rfl (lv_at hl 0 rfl) ?_
  refine lv_iload_n hx hb dX10_tell_1 rfl (lv_at hl 1 rfl) ?_
  refine tf_if_ge (tgt := 9) hx hb ⟨by omega, by omega⟩ dX10_tell_2 (by decide) (fun h9 => ?_) (fun h9 => ?_)
  · refine tf_iconst hx hb dX10_tell_9 ?_
    exact j_10 ⟨by omega, by omega⟩ (0) ⟨by omega, by omega⟩ _ _ hW  _ (lv_sub hl [0, 1] rfl)
  · refine lv_iload_n hx hb dX10_tell_5 rfl (lv_at hl 1 rfl) ?_
    refine lv_goto (tgt := 10) hx hb dX10_tell_6 (by decide) ?_
    exact j_10 ⟨by omega, by omega⟩ (x1) ⟨by omega, by omega⟩ _ _ hW  _ (lv_sub hl [0, 1] rfl)

abbrev M_X10_was : List (Nat × Nat) := [(50, 1)]
set_option maxHeartbeats 4000000 in
set_option maxRecDepth 100000 in
theorem c_X10_was (l : Launch) (g : tf_G) (T : tf_T) (a0 : Nat) (ha0 : T a0 = some (50, 0)) (x1 : Int) (hp1 : (-2147483648) ≤ x1 ∧ x1 ≤ 2147483647) : Met l yX10_was (cd_X10_was :: wsL_law) ({ frames := 1, cells := 0, slots := 0, locals := 24 }) (tf_P g T [.ref a0, .int (Int32.ofInt x1)] (fun H => True)) (tf_Qi g M_X10_was T (fun z _ _ => (-2147483648) ≤ z ∧ z ≤ 2147483647 ∧ z = x1)) 0 0 (fun q => tf_B g ≤ q) := by
  refine Met.ofW (cc := cX10_was) (maxL := 2) (ret := (some .int)) (by decide) rfl ?_
  intro p e s m args below meth c s₁ B hml hv
  obtain ⟨hargs, hk, hW0, hB, hpre⟩ := hv
  have hx := B.exec
  have hb := B.bytes
  have hr := B.returns
  have hts : ∀ w ∈ wsL_law, w.before args s = true := fun w h => atoms_spec (ws := cd_X10_was :: wsL_law) B.pre w (List.mem_cons_of_mem _ h)
  have hown : s.vm.findClass RX10 = some m.cls := findClass_of_methodNamed B.named
  have hlocks := B.notSynchronized
  have hK := hk.1
  have hW := tf_n.start (M := M_X10_was) hW0 hB
  obtain ⟨Q, hQ⟩ : ∃ q, q = MQ below (tf_Qi g M_X10_was T (fun z _ _ => (-2147483648) ≤ z ∧ z ≤ 2147483647 ∧ z = x1)) args s 0 0 (fun q => tf_B g ≤ q) := ⟨_, rfl⟩
  rw [← hQ]
  obtain ⟨R, hR⟩ : ∃ q, q = (headSpec (cd_X10_was :: wsL_law) ({ frames := 1, cells := 0, slots := 0, locals := 24 })).room := ⟨_, rfl⟩
  rw [← hR]
  have hR1 : 1 ≤ R.frames := by rw [hR]; exact Nat.le_refl _
  have hR2 : 24 ≤ R.locals := by rw [hR]; exact Nat.le_refl _
  have hR3 : 0 ≤ R.cells := by rw [hR]; exact Nat.le_refl _
  have hR4 : 0 ≤ R.slots := by rw [hR]; exact Nat.le_refl _
  have hin := (name_of_methodNamed B.named B.method).1
  clear hR B
  refine tf_enter (As := [.ref a0, .int (Int32.ofInt x1)]) hargs (Nat.le_of_ble_eq_true rfl) (fun ls hl => ?_)
  have hl : lv_has ls 2 [(0, .ref a0), (1, .int (Int32.ofInt x1))] := hl
  refine lv_aload_n hx hb dX10_was_0 rfl (lv_at hl 0 rfl) ?_
  refine tf_iconst hx hb dX10_was_1 ?_
  refine tf_put hx hb hts inlX10 tyX10 tyX10_ok nmX10 hown hK (ci := 10) rfl hW ha0 rfl rfl 1 rfl (by decide) (by decide) (hts _ fl_X10_106) rfl (tf_u0 (by omega) (by omega)) rfl rfl dX10_was_2 (fun H1 locs1 hW hs1 ht1 hq1 => ?_)
  refine lv_iload_n hx hb dX10_was_5 rfl (lv_at hl 1 rfl) ?_
  exact tf_reti (z := x1) hx hb hr hlocks hQ hW (show (-2147483648) ≤ (x1) ∧ (x1) ≤ 2147483647 ∧ (x1) = x1 by omega) dX10_was_6

abbrev M_X10_change : List (Nat × Nat) := [(28, 0), (50, 1)]
set_option maxHeartbeats 4000000 in
set_option maxRecDepth 100000 in
theorem c_X10_change (l : Launch) (g : tf_G) (T : tf_T) (a0 : Nat) (ha0 : T a0 = some (50, 0)) (x1 : Int) (hp1 : 0 ≤ x1 ∧ x1 ≤ 380) (x2 : Int) (hp2 : (-2147483648) ≤ x2 ∧ x2 ≤ 2147483647) (hq0 : (5 ≤ x1 ∧ x1 ≤ 10 ∧ 0 ≤ x2 ∧ x2 ≤ 9999) ∨ (11 ≤ x1 ∧ x1 ≤ 240) ∨ (241 ≤ x1 ∧ x1 ≤ 340 ∧ 0 ≤ x2 ∧ x2 ≤ 3) ∨ (341 ≤ x1 ∧ x1 ≤ 380 ∧ 0 ≤ x2 ∧ x2 ≤ 999) ∨ (x1 = 2 ∧ -1 ≤ x2 ∧ x2 ≤ 5)) : Met l yX10_change (cd_X10_change :: wsL_law) ({ frames := 2, cells := 0, slots := 0, locals := 45 }) (tf_P g T [.ref a0, .int (Int32.ofInt x1), .int (Int32.ofInt x2)] (fun H => True)) (tf_Qi g M_X10_change T (fun z _ _ => (-2147483648) ≤ z ∧ z ≤ 2147483647)) 0 0 (fun q => tf_B g ≤ q) := by
  refine Met.ofW (cc := cX10_change) (maxL := 4) (ret := (some .int)) (by decide) rfl ?_
  intro p e s m args below meth c s₁ B hml hv
  obtain ⟨hargs, hk, hW0, hB, hpre⟩ := hv
  have hx := B.exec
  have hb := B.bytes
  have hr := B.returns
  have hts : ∀ w ∈ wsL_law, w.before args s = true := fun w h => atoms_spec (ws := cd_X10_change :: wsL_law) B.pre w (List.mem_cons_of_mem _ h)
  have hown : s.vm.findClass RX10 = some m.cls := findClass_of_methodNamed B.named
  have hlocks := B.notSynchronized
  have hK := hk.1
  have hW := tf_n.start (M := M_X10_change) hW0 hB
  obtain ⟨Q, hQ⟩ : ∃ q, q = MQ below (tf_Qi g M_X10_change T (fun z _ _ => (-2147483648) ≤ z ∧ z ≤ 2147483647)) args s 0 0 (fun q => tf_B g ≤ q) := ⟨_, rfl⟩
  rw [← hQ]
  obtain ⟨R, hR⟩ : ∃ q, q = (headSpec (cd_X10_change :: wsL_law) ({ frames := 2, cells := 0, slots := 0, locals := 45 })).room := ⟨_, rfl⟩
  rw [← hR]
  have hR1 : 2 ≤ R.frames := by rw [hR]; exact Nat.le_refl _
  have hR2 : 45 ≤ R.locals := by rw [hR]; exact Nat.le_refl _
  have hR3 : 0 ≤ R.cells := by rw [hR]; exact Nat.le_refl _
  have hR4 : 0 ≤ R.slots := by rw [hR]; exact Nat.le_refl _
  have hin := (name_of_methodNamed B.named B.method).1
  clear hR B
  refine tf_enter (As := [.ref a0, .int (Int32.ofInt x1), .int (Int32.ofInt x2)]) hargs (Nat.le_of_ble_eq_true rfl) (fun ls hl => ?_)
  have hl : lv_has ls 4 [(0, .ref a0), (1, .int (Int32.ofInt x1)), (2, .int (Int32.ofInt x2))] := hl
  refine lv_aload_n hx hb dX10_change_0 rfl (lv_at hl 0 rfl) ?_
  refine tf_get hx hb hts inlX10 hown hK (ci := 10) rfl hW ha0 rfl 3 rfl (by decide) (hts _ fl_X10_13) dX10_change_1 (fun v1 hv1 hsv1 => ?_)
  obtain ⟨ad2, rfl, had2⟩ := tf_v1 hv1
  refine lv_iload_n hx hb dX10_change_4 rfl (lv_at hl 1 rfl) ?_
  refine tf_iald (t0 := 0) hx hb hK hW had2 rfl rfl (by omega) (by omega) dX10_change_5 (fun v3 hv3 hsv3 => ?_)
  obtain ⟨z4, rfl, hz4⟩ := tf_v0 hv3
  refine lv_istore_n (lv' := [(3, .int (Int32.ofInt z4)), (0, .ref a0), (1, .int (Int32.ofInt x1)), (2, .int (Int32.ofInt x2))]) hx hb dX10_change_6 rfl hl (by decide) rfl (fun ls hl => ?_)
  refine lv_aload_n hx hb dX10_change_7 rfl (lv_at hl 1 rfl) ?_
  refine tf_get hx hb hts inlX10 hown hK (ci := 10) rfl hW ha0 rfl 3 rfl (by decide) (hts _ fl_X10_13) dX10_change_8 (fun v5 hv5 hsv5 => ?_)
  obtain rfl : v5 = .ref ad2 := Option.some.inj (hsv5.symm.trans hsv1)
  refine lv_iload_n hx hb dX10_change_11 rfl (lv_at hl 2 rfl) ?_
  refine lv_iload_n hx hb dX10_change_12 rfl (lv_at hl 3 rfl) ?_
  refine tf_rowst hx hb hK hW had2 rfl (by omega) (by omega) (by decide) ⟨by omega, by omega⟩ (tf_RO_any (tf_ROof hW had2) (by omega)) dX10_change_13 (fun H6 locs6 hW hu6 hq6 => ?_)
  have hs7 := tf_keepQ hsv1 (hq6 _ (tf_ne ha0 had2 (by decide)))
  refine lv_aload_n hx hb dX10_change_14 rfl (lv_at hl 1 rfl) ?_
  refine lv_iload_n hx hb dX10_change_15 rfl (lv_at hl 0 rfl) ?_
  refine tf_calli (va_runV (As := [.int (Int32.ofInt z4)]) (rest := []) ⟨hx, hb, hml, hown, hts⟩ (c_X10_was l g T a0 ha0 (z4) ⟨by omega, by omega⟩) (cwV 1 hts gv_X10_109 rfl rfl rfl hd_X10_was ⟨Nat.le_trans (by decide) hR1, Nat.le_trans (by decide) hR2⟩) (tf_preV hk hW ha0 (ci := 10) rfl rfl trivial) rfl rfl hl.1 rfl (lv_room (Nat.le_of_ble_eq_true rfl)) dX10_change_16 ⟨Nat.zero_le _, Nat.zero_le _⟩) hW (by decide) (fun z8 H8 locs8 hW hF8 hp8 => ?_)
  have hs9 := tf_keepF hF8 ha0 rfl rfl (by decide) hs7
  obtain ⟨hp8_0, hp8_1, hp8_2⟩ := hp8
  exact tf_reti (z := z8) hx hb hr hlocks hQ hW (show (-2147483648) ≤ (z8) ∧ (z8) ≤ 2147483647 by omega) dX10_change_19

abbrev M_X10_isTower : List (Nat × Nat) := []
set_option maxHeartbeats 4000000 in
set_option maxRecDepth 100000 in
theorem c_X10_isTower (l : Launch) (g : tf_G) (T : tf_T) (a0 : Nat) (ha0 : T a0 = some (50, 0)) (x1 : Int) (hp1 : (-2147483648) ≤ x1 ∧ x1 ≤ 2147483647) : Met l yX10_isTower (cd_X10_isTower :: wsL_law) ({ frames := 2, cells := 0, slots := 0, locals := 49 }) (tf_P g T [.ref a0, .int (Int32.ofInt x1)] (fun H => True)) (tf_Qi g M_X10_isTower T (fun z _ _ => (z = 1 ∧ 0 ≤ x1 ∧ x1 ≤ 5) ∨ (z = 0))) 0 0 (fun q => tf_B g ≤ q) := by
  refine Met.ofW (cc := cX10_isTower) (maxL := 2) (ret := (some .boolean)) (by decide) rfl ?_
  intro p e s m args below meth c s₁ B hml hv
  obtain ⟨hargs, hk, hW0, hB, hpre⟩ := hv
  have hx := B.exec
  have hb := B.bytes
  have hr := B.returns
  have hts : ∀ w ∈ wsL_law, w.before args s = true := fun w h => atoms_spec (ws := cd_X10_isTower :: wsL_law) B.pre w (List.mem_cons_of_mem _ h)
  have hown : s.vm.findClass RX10 = some m.cls := findClass_of_methodNamed B.named
  have hlocks := B.notSynchronized
  have hK := hk.1
  have hW := tf_n.start (M := M_X10_isTower) hW0 hB
  obtain ⟨Q, hQ⟩ : ∃ q, q = MQ below (tf_Qi g M_X10_isTower T (fun z _ _ => (z = 1 ∧ 0 ≤ x1 ∧ x1 ≤ 5) ∨ (z = 0))) args s 0 0 (fun q => tf_B g ≤ q) := ⟨_, rfl⟩
  rw [← hQ]
  obtain ⟨R, hR⟩ : ∃ q, q = (headSpec (cd_X10_isTower :: wsL_law) ({ frames := 2, cells := 0, slots := 0, locals := 49 })).room := ⟨_, rfl⟩
  rw [← hR]
  have hR1 : 2 ≤ R.frames := by rw [hR]; exact Nat.le_refl _
  have hR2 : 49 ≤ R.locals := by rw [hR]; exact Nat.le_refl _
  have hR3 : 0 ≤ R.cells := by rw [hR]; exact Nat.le_refl _
  have hR4 : 0 ≤ R.slots := by rw [hR]; exact Nat.le_refl _
  have hin := (name_of_methodNamed B.named B.method).1
  clear hR B
  refine tf_enter (As := [.ref a0, .int (Int32.ofInt x1)]) hargs (Nat.le_of_ble_eq_true rfl) (fun ls hl => ?_)
  have hl : lv_has ls 2 [(0, .ref a0), (1, .int (Int32.ofInt x1))] := hl
  refine lv_iload_n hx hb dX10_isTower_0 rfl (lv_at hl 1 rfl) ?_
  refine tf_i2l hx hb ⟨by omega, by omega⟩ dX10_isTower_1 ?_
  refine tf_lconst (z := 0) hx hb dX10_isTower_2 (by decide) ?_
  refine lv_aload_n hx hb dX10_isTower_3 rfl (lv_at hl 0 rfl) ?_
  refine tf_get hx hb hts inlX10 hown hK (ci := 10) rfl hW ha0 rfl 3 rfl (by decide) (hts _ fl_X10_13) dX10_isTower_4 (fun v1 hv1 hsv1 => ?_)
  obtain ⟨ad2, rfl, had2⟩ := tf_v1 hv1
  refine tf_iconst hx hb dX10_isTower_7 ?_
  refine tf_iald (t0 := 0) hx hb hK hW had2 rfl rfl (by omega) (by omega) dX10_isTower_8 (fun v3 hv3 hsv3 => ?_)
  obtain ⟨z4, rfl, hz4⟩ := tf_v0 hv3
  have hg5 := tf_rd0 (tf_ROof hW had2) hsv3 ⟨by omega, by omega⟩ (by omega)
  refine tf_i2l hx hb ⟨by omega, by omega⟩ dX10_isTower_9 ?_
  refine tf_lconst (z := 1) hx hb dX10_isTower_10 (by decide) ?_
  refine tf_lsub hx hb dX10_isTower_11 ?_
  refine tf_calli (va_runS (As := [.long (Int64.ofInt x1), .long (Int64.ofInt 0), .long (Int64.ofInt ((z4 - 1)))]) (rest := []) ⟨hx, hb, hml, hown, hts⟩ (c_X10_in l g T (x1) ⟨by omega, by omega⟩ (0) ⟨by omega, by omega⟩ ((z4 - 1)) ⟨by omega, by omega⟩) ⟨callB_of 3 hts (gw_ws cm_X10_in) rfl rfl rfl (hts _ (tw1 (i := 5) rfl)) (hts _ (tw11 (i := 3) rfl)) hd_X10_in.2 ⟨Nat.le_trans (by decide) hR1, Nat.le_trans (by decide) hR2⟩, hts _ (tw11 (i := 4) rfl)⟩ (tf_preS hk hW trivial) rfl rfl hl.1 rfl (lv_room (Nat.le_of_ble_eq_true rfl)) dX10_isTower_12 ⟨Nat.zero_le _, Nat.zero_le _⟩) hW (by decide) (fun z6 H6 locs6 hW hF6 hp6 => ?_)
  rcases hp6 with ⟨rfl, h7, h8⟩ | ⟨rfl, h9⟩
  · exact tf_retz (z := 1) hx hb hr hlocks hQ hW (by omega) (show ((1) = 1 ∧ 0 ≤ x1 ∧ x1 ≤ 5) ∨ ((1) = 0) by omega) dX10_isTower_15
  · exact tf_retz (z := 0) hx hb hr hlocks hQ hW (by omega) (show ((0) = 1 ∧ 0 ≤ x1 ∧ x1 ≤ 5) ∨ ((0) = 0) by omega) dX10_isTower_15

abbrev M_X10_ofTower : List (Nat × Nat) := []
set_option maxHeartbeats 4000000 in
set_option maxRecDepth 100000 in
theorem c_X10_ofTower (l : Launch) (g : tf_G) (T : tf_T) (a0 : Nat) (ha0 : T a0 = some (50, 0)) (x1 : Int) (hp1 : 0 ≤ x1 ∧ x1 ≤ 6) (x2 : Int) (hp2 : 0 ≤ x2 ∧ x2 ≤ 4) : Met l yX10_ofTower (cd_X10_ofTower :: wsL_law) ({ frames := 1, cells := 0, slots := 0, locals := 24 }) (tf_P g T [.ref a0, .int (Int32.ofInt x1), .int (Int32.ofInt x2)] (fun H => True)) (tf_Qi g M_X10_ofTower T (fun z _ _ => (-2147483648) ≤ z ∧ z ≤ 2147483647)) 0 0 (fun q => tf_B g ≤ q) := by
  refine Met.ofW (cc := cX10_ofTower) (maxL := 3) (ret := (some .int)) (by decide) rfl ?_
  intro p e s m args below meth c s₁ B hml hv
  obtain ⟨hargs, hk, hW0, hB, hpre⟩ := hv
  have hx := B.exec
  have hb := B.bytes
  have hr := B.returns
  have hts : ∀ w ∈ wsL_law, w.before args s = true := fun w h => atoms_spec (ws := cd_X10_ofTower :: wsL_law) B.pre w (List.mem_cons_of_mem _ h)
  have hown : s.vm.findClass RX10 = some m.cls := findClass_of_methodNamed B.named
  have hlocks := B.notSynchronized
  have hK := hk.1
  have hW := tf_n.start (M := M_X10_ofTower) hW0 hB
  obtain ⟨Q, hQ⟩ : ∃ q, q = MQ below (tf_Qi g M_X10_ofTower T (fun z _ _ => (-2147483648) ≤ z ∧ z ≤ 2147483647)) args s 0 0 (fun q => tf_B g ≤ q) := ⟨_, rfl⟩
  rw [← hQ]
  obtain ⟨R, hR⟩ : ∃ q, q = (headSpec (cd_X10_ofTower :: wsL_law) ({ frames := 1, cells := 0, slots := 0, locals := 24 })).room := ⟨_, rfl⟩
  rw [← hR]
  have hR1 : 1 ≤ R.frames := by rw [hR]; exact Nat.le_refl _
  have hR2 : 24 ≤ R.locals := by rw [hR]; exact Nat.le_refl _
  have hR3 : 0 ≤ R.cells := by rw [hR]; exact Nat.le_refl _
  have hR4 : 0 ≤ R.slots := by rw [hR]; exact Nat.le_refl _
  have hin := (name_of_methodNamed B.named B.method).1
  clear hR B
  refine tf_enter (As := [.ref a0, .int (Int32.ofInt x1), .int (Int32.ofInt x2)]) hargs (Nat.le_of_ble_eq_true rfl) (fun ls hl => ?_)
  have hl : lv_has ls 3 [(0, .ref a0), (1, .int (Int32.ofInt x1)), (2, .int (Int32.ofInt x2))] := hl
  refine lv_aload_n hx hb dX10_ofTower_0 rfl (lv_at hl 0 rfl) ?_
  refine tf_get hx hb hts inlX10 hown hK (ci := 10) rfl hW ha0 rfl 3 rfl (by decide) (hts _ fl_X10_13) dX10_ofTower_1 (fun v1 hv1 hsv1 => ?_)
  obtain ⟨ad2, rfl, had2⟩ := tf_v1 hv1
  refine tf_bipush hx hb dX10_ofTower_4 (by decide) ?_
  refine tf_iconst hx hb dX10_ofTower_6 ?_
  refine lv_iload_n hx hb dX10_ofTower_7 rfl (lv_at hl 1 rfl) ?_
  refine tf_imul hx hb dX10_ofTower_8 ?_
  refine tf_iadd hx hb dX10_ofTower_9 ?_
  refine lv_iload_n hx hb dX10_ofTower_10 rfl (lv_at hl 2 rfl) ?_
  refine tf_iadd hx hb dX10_ofTower_11 ?_
  refine tf_iald (t0 := 0) hx hb hK hW had2 rfl rfl (by omega) (by omega) dX10_ofTower_12 (fun v3 hv3 hsv3 => ?_)
  obtain ⟨z4, rfl, hz4⟩ := tf_v0 hv3
  exact tf_reti (z := z4) hx hb hr hlocks hQ hW (show (-2147483648) ≤ (z4) ∧ (z4) ≤ 2147483647 by omega) dX10_ofTower_13

abbrev M_X10_covers : List (Nat × Nat) := []
set_option maxHeartbeats 4000000 in
set_option maxRecDepth 100000 in
theorem c_X10_covers (l : Launch) (g : tf_G) (T : tf_T) (a0 : Nat) (ha0 : T a0 = some (50, 0)) (x1 : Int) (hp1 : 0 ≤ x1 ∧ x1 ≤ 6) (x2 : Int) (hp2 : 0 ≤ x2 ∧ x2 ≤ 99) : Met l yX10_covers (cd_X10_covers :: wsL_law) ({ frames := 2, cells := 0, slots := 0, locals := 49 }) (tf_P g T [.ref a0, .int (Int32.ofInt x1), .int (Int32.ofInt x2)] (fun H => True)) (tf_Qi g M_X10_covers T (fun z _ _ => z = 0 ∨ z = 1)) 0 0 (fun q => tf_B g ≤ q) := by
  refine Met.ofW (cc := cX10_covers) (maxL := 5) (ret := (some .boolean)) (by decide) rfl ?_
  intro p e s m args below meth c s₁ B hml hv
  obtain ⟨hargs, hk, hW0, hB, hpre⟩ := hv
  have hx := B.exec
  have hb := B.bytes
  have hr := B.returns
  have hts : ∀ w ∈ wsL_law, w.before args s = true := fun w h => atoms_spec (ws := cd_X10_covers :: wsL_law) B.pre w (List.mem_cons_of_mem _ h)
  have hown : s.vm.findClass RX10 = some m.cls := findClass_of_methodNamed B.named
  have hlocks := B.notSynchronized
  have hK := hk.1
  have hW := tf_n.start (M := M_X10_covers) hW0 hB
  obtain ⟨Q, hQ⟩ : ∃ q, q = MQ below (tf_Qi g M_X10_covers T (fun z _ _ => z = 0 ∨ z = 1)) args s 0 0 (fun q => tf_B g ≤ q) := ⟨_, rfl⟩
  rw [← hQ]
  obtain ⟨R, hR⟩ : ∃ q, q = (headSpec (cd_X10_covers :: wsL_law) ({ frames := 2, cells := 0, slots := 0, locals := 49 })).room := ⟨_, rfl⟩
  rw [← hR]
  have hR1 : 2 ≤ R.frames := by rw [hR]; exact Nat.le_refl _
  have hR2 : 49 ≤ R.locals := by rw [hR]; exact Nat.le_refl _
  have hR3 : 0 ≤ R.cells := by rw [hR]; exact Nat.le_refl _
  have hR4 : 0 ≤ R.slots := by rw [hR]; exact Nat.le_refl _
  have hin := (name_of_methodNamed B.named B.method).1
  clear hR B
  refine tf_enter (As := [.ref a0, .int (Int32.ofInt x1), .int (Int32.ofInt x2)]) hargs (Nat.le_of_ble_eq_true rfl) (fun ls hl => ?_)
  have hl : lv_has ls 5 [(0, .ref a0), (1, .int (Int32.ofInt x1)), (2, .int (Int32.ofInt x2))] := hl
  refine lv_iload_n hx hb dX10_covers_0 rfl (lv_at hl 2 rfl) ?_
  refine tf_bipush hx hb dX10_covers_1 (by decide) ?_
  refine tf_irem hx hb ⟨by omega, by omega⟩ (by omega) ⟨by decide, by decide⟩ (by decide) dX10_covers_3 ?_
  refine tf_name (fun z1 ez1 => ?_)
  refine lv_aload_n hx hb dX10_covers_4 rfl (lv_at hl 0 rfl) ?_
  refine lv_iload_n hx hb dX10_covers_5 rfl (lv_at hl 1 rfl) ?_
  refine tf_iconst hx hb dX10_covers_6 ?_
  refine tf_calli (va_runV (As := [.int (Int32.ofInt x1), .int (Int32.ofInt 0)]) (rest := [.int (Int32.ofInt z1)]) ⟨hx, hb, hml, hown, hts⟩ (c_X10_ofTower l g T a0 ha0 (x1) ⟨by omega, by omega⟩ (0) ⟨by omega, by omega⟩) (cwV 2 hts gv_X10_124 rfl rfl rfl hd_X10_ofTower ⟨Nat.le_trans (by decide) hR1, Nat.le_trans (by decide) hR2⟩) (tf_preV hk hW ha0 (ci := 10) rfl rfl trivial) rfl rfl hl.1 rfl (lv_room (Nat.le_of_ble_eq_true rfl)) dX10_covers_7 ⟨Nat.zero_le _, Nat.zero_le _⟩) hW (by decide) (fun z2 H2 locs2 hW hF2 hp2 => ?_)
  obtain ⟨hp2_0, hp2_1⟩ := hp2
  refine tf_isub_any hx hb dX10_covers_10 (fun z3 hz3 => ?_)
  refine lv_istore_n (lv' := [(3, .int (Int32.ofInt z3)), (0, .ref a0), (1, .int (Int32.ofInt x1)), (2, .int (Int32.ofInt x2))]) hx hb dX10_covers_11 rfl hl (by decide) rfl (fun ls hl => ?_)
  refine lv_iload_n hx hb dX10_covers_12 rfl (lv_at hl 3 rfl) ?_
  refine tf_bipush hx hb dX10_covers_13 (by decide) ?_
  refine tf_idiv hx hb ⟨by omega, by omega⟩ (by omega) ⟨by decide, by decide⟩ (by decide) dX10_covers_15 ?_
  refine tf_name (fun z4 ez4 => ?_)
  refine lv_aload_n hx hb dX10_covers_16 rfl (lv_at hl 1 rfl) ?_
  refine lv_iload_n hx hb dX10_covers_17 rfl (lv_at hl 2 rfl) ?_
  refine tf_iconst hx hb dX10_covers_18 ?_
  refine tf_calli (va_runV (As := [.int (Int32.ofInt x1), .int (Int32.ofInt 1)]) (rest := [.int (Int32.ofInt z4)]) ⟨hx, hb, hml, hown, hts⟩ (c_X10_ofTower l g T a0 ha0 (x1) ⟨by omega, by omega⟩ (1) ⟨by omega, by omega⟩) (cwV 2 hts gv_X10_124 rfl rfl rfl hd_X10_ofTower ⟨Nat.le_trans (by decide) hR1, Nat.le_trans (by decide) hR2⟩) (tf_preV hk hW ha0 (ci := 10) rfl rfl trivial) rfl rfl hl.1 rfl (lv_room (Nat.le_of_ble_eq_true rfl)) dX10_covers_19 ⟨Nat.zero_le _, Nat.zero_le _⟩) hW (by decide) (fun z5 H5 locs5 hW hF5 hp5 => ?_)
  obtain ⟨hp5_0, hp5_1⟩ := hp5
  refine tf_isub_any hx hb dX10_covers_22 (fun z6 hz6 => ?_)
  refine lv_istore (lv' := [(4, .int (Int32.ofInt z6)), (3, .int (Int32.ofInt z3)), (0, .ref a0), (1, .int (Int32.ofInt x1)), (2, .int (Int32.ofInt x2))]) hx hb dX10_covers_23 hl (by decide) rfl (fun ls hl => ?_)
  refine lv_iload_n hx hb dX10_covers_25 rfl (lv_at hl 1 rfl) ?_
  refine tf_i2l hx hb ⟨by omega, by omega⟩ dX10_covers_26 ?_
  refine tf_lconst (z := 0) hx hb dX10_covers_27 (by decide) ?_
  refine lv_aload_n hx hb dX10_covers_28 rfl (lv_at hl 2 rfl) ?_
  refine lv_iload_n hx hb dX10_covers_29 rfl (lv_at hl 3 rfl) ?_
  refine tf_iconst hx hb dX10_covers_30 ?_
  refine tf_calli (va_runV (As := [.int (Int32.ofInt x1), .int (Int32.ofInt 2)]) (rest := [.long (Int64.ofInt 0), .long (Int64.ofInt z3)]) ⟨hx, hb, hml, hown, hts⟩ (c_X10_ofTower l g T a0 ha0 (x1) ⟨by omega, by omega⟩ (2) ⟨by omega, by omega⟩) (cwV 2 hts gv_X10_124 rfl rfl rfl hd_X10_ofTower ⟨Nat.le_trans (by decide) hR1, Nat.le_trans (by decide) hR2⟩) (tf_preV hk hW ha0 (ci := 10) rfl rfl trivial) rfl rfl hl.1 rfl (lv_room (Nat.le_of_ble_eq_true rfl)) dX10_covers_31 ⟨Nat.zero_le _, Nat.zero_le _⟩) hW (by decide) (fun z7 H7 locs7 hW hF7 hp7 => ?_)
  obtain ⟨hp7_0, hp7_1⟩ := hp7
  refine tf_i2l hx hb ⟨by omega, by omega⟩ dX10_covers_34 ?_
  refine tf_lconst (z := 1) hx hb dX10_covers_35 (by decide) ?_
  refine tf_lsub hx hb dX10_covers_36 ?_
  refine tf_calli (va_runS (As := [.long (Int64.ofInt z3), .long (Int64.ofInt 0), .long (Int64.ofInt ((z7 - 1)))]) (rest := []) ⟨hx, hb, hml, hown, hts⟩ (c_X10_in l g T (z3) ⟨by omega, by omega⟩ (0) ⟨by omega, by omega⟩ ((z7 - 1)) ⟨by omega, by omega⟩) ⟨callB_of 3 hts (gw_ws cm_X10_in) rfl rfl rfl (hts _ (tw1 (i := 5) rfl)) (hts _ (tw11 (i := 3) rfl)) hd_X10_in.2 ⟨Nat.le_trans (by decide) hR1, Nat.le_trans (by decide) hR2⟩, hts _ (tw11 (i := 4) rfl)⟩ (tf_preS hk hW trivial) rfl rfl hl.1 rfl (lv_room (Nat.le_of_ble_eq_true rfl)) dX10_covers_37 ⟨Nat.zero_le _, Nat.zero_le _⟩) hW (by decide) (fun z8 H8 locs8 hW hF8 hp8 => ?_)
  rcases hp8 with ⟨rfl, h9, h10⟩ | ⟨rfl, h11⟩
  · refine tf_if_eq (tgt := 66) hx hb ⟨by decide, by decide⟩ dX10_covers_40 (by decide) (fun h12 => ?_) (fun h12 => ?_)
    · exfalso; omega
    · refine lv_iload hx hb dX10_covers_43 (lv_at hl 0 rfl) ?_
      refine tf_i2l hx hb ⟨by omega, by omega⟩ dX10_covers_45 ?_
      refine tf_lconst (z := 0) hx hb dX10_covers_46 (by decide) ?_
      refine lv_aload_n hx hb dX10_covers_47 rfl (lv_at hl 2 rfl) ?_
      refine lv_iload_n hx hb dX10_covers_48 rfl (lv_at hl 3 rfl) ?_
      refine tf_iconst hx hb dX10_covers_49 ?_
      refine tf_calli (va_runV (As := [.int (Int32.ofInt x1), .int (Int32.ofInt 3)]) (rest := [.long (Int64.ofInt 0), .long (Int64.ofInt z6)]) ⟨hx, hb, hml, hown, hts⟩ (c_X10_ofTower l g T a0 ha0 (x1) ⟨by omega, by omega⟩ (3) ⟨by omega, by omega⟩) (cwV 2 hts gv_X10_124 rfl rfl rfl hd_X10_ofTower ⟨Nat.le_trans (by decide) hR1, Nat.le_trans (by decide) hR2⟩) (tf_preV hk hW ha0 (ci := 10) rfl rfl trivial) rfl rfl hl.1 rfl (lv_room (Nat.le_of_ble_eq_true rfl)) dX10_covers_50 ⟨Nat.zero_le _, Nat.zero_le _⟩) hW (by decide) (fun z13 H13 locs13 hW hF13 hp13 => ?_)
      obtain ⟨hp13_0, hp13_1⟩ := hp13
      refine tf_i2l hx hb ⟨by omega, by omega⟩ dX10_covers_53 ?_
      refine tf_lconst (z := 1) hx hb dX10_covers_54 (by decide) ?_
      refine tf_lsub hx hb dX10_covers_55 ?_
      refine tf_calli (va_runS (As := [.long (Int64.ofInt z6), .long (Int64.ofInt 0), .long (Int64.ofInt ((z13 - 1)))]) (rest := []) ⟨hx, hb, hml, hown, hts⟩ (c_X10_in l g T (z6) ⟨by omega, by omega⟩ (0) ⟨by omega, by omega⟩ ((z13 - 1)) ⟨by omega, by omega⟩) ⟨callB_of 3 hts (gw_ws cm_X10_in) rfl rfl rfl (hts _ (tw1 (i := 5) rfl)) (hts _ (tw11 (i := 3) rfl)) hd_X10_in.2 ⟨Nat.le_trans (by decide) hR1, Nat.le_trans (by decide) hR2⟩, hts _ (tw11 (i := 4) rfl)⟩ (tf_preS hk hW trivial) rfl rfl hl.1 rfl (lv_room (Nat.le_of_ble_eq_true rfl)) dX10_covers_56 ⟨Nat.zero_le _, Nat.zero_le _⟩) hW (by decide) (fun z14 H14 locs14 hW hF14 hp14 => ?_)
      rcases hp14 with ⟨rfl, h15, h16⟩ | ⟨rfl, h17⟩
      · refine tf_if_eq (tgt := 66) hx hb ⟨by decide, by decide⟩ dX10_covers_59 (by decide) (fun h18 => ?_) (fun h18 => ?_)
        · exfalso; omega
        · refine tf_iconst hx hb dX10_covers_62 ?_
          refine lv_goto (tgt := 67) hx hb dX10_covers_63 (by decide) ?_
          exact tf_retz (z := 1) hx hb hr hlocks hQ hW (by omega) (show (1) = 0 ∨ (1) = 1 by omega) dX10_covers_67
      · refine tf_if_eq (tgt := 66) hx hb ⟨by decide, by decide⟩ dX10_covers_59 (by decide) (fun h19 => ?_) (fun h19 => ?_)
        · refine tf_iconst hx hb dX10_covers_66 ?_
          exact tf_retz (z := 0) hx hb hr hlocks hQ hW (by omega) (show (0) = 0 ∨ (0) = 1 by omega) dX10_covers_67
        · exfalso; omega
  · refine tf_if_eq (tgt := 66) hx hb ⟨by decide, by decide⟩ dX10_covers_40 (by decide) (fun h20 => ?_) (fun h20 => ?_)
    · refine tf_iconst hx hb dX10_covers_66 ?_
      exact tf_retz (z := 0) hx hb hr hlocks hQ hW (by omega) (show (0) = 0 ∨ (0) = 1 by omega) dX10_covers_67
    · exfalso; omega

abbrev M_X10_towerOn : List (Nat × Nat) := []
set_option maxHeartbeats 4000000 in
set_option maxRecDepth 100000 in
theorem c_X10_towerOn (l : Launch) (g : tf_G) (T : tf_T) (a0 : Nat) (ha0 : T a0 = some (50, 0)) (x1 : Int) (hp1 : 0 ≤ x1 ∧ x1 ≤ 99) : Met l yX10_towerOn (cd_X10_towerOn :: wsL_law) ({ frames := 3, cells := 0, slots := 0, locals := 73 }) (tf_P g T [.ref a0, .int (Int32.ofInt x1)] (fun H => True)) (tf_Qi g M_X10_towerOn T (fun z _ _ => (-1) ≤ z ∧ z ≤ 5)) 0 0 (fun q => tf_B g ≤ q) := by
  refine Met.ofW (cc := cX10_towerOn) (maxL := 4) (ret := (some .int)) (by decide) rfl ?_
  intro p e s m args below meth c s₁ B hml hv
  obtain ⟨hargs, hk, hW0, hB, hpre⟩ := hv
  have hx := B.exec
  have hb := B.bytes
  have hr := B.returns
  have hts : ∀ w ∈ wsL_law, w.before args s = true := fun w h => atoms_spec (ws := cd_X10_towerOn :: wsL_law) B.pre w (List.mem_cons_of_mem _ h)
  have hown : s.vm.findClass RX10 = some m.cls := findClass_of_methodNamed B.named
  have hlocks := B.notSynchronized
  have hK := hk.1
  have hW := tf_n.start (M := M_X10_towerOn) hW0 hB
  obtain ⟨Q, hQ⟩ : ∃ q, q = MQ below (tf_Qi g M_X10_towerOn T (fun z _ _ => (-1) ≤ z ∧ z ≤ 5)) args s 0 0 (fun q => tf_B g ≤ q) := ⟨_, rfl⟩
  rw [← hQ]
  obtain ⟨R, hR⟩ : ∃ q, q = (headSpec (cd_X10_towerOn :: wsL_law) ({ frames := 3, cells := 0, slots := 0, locals := 73 })).room := ⟨_, rfl⟩
  rw [← hR]
  have hR1 : 3 ≤ R.frames := by rw [hR]; exact Nat.le_refl _
  have hR2 : 73 ≤ R.locals := by rw [hR]; exact Nat.le_refl _
  have hR3 : 0 ≤ R.cells := by rw [hR]; exact Nat.le_refl _
  have hR4 : 0 ≤ R.slots := by rw [hR]; exact Nat.le_refl _
  have hin := (name_of_methodNamed B.named B.method).1
  clear hR B
  have j_4 : ∀ (n_4 : Nat), 0 ≤ x1 ∧ x1 ≤ 99 → ∀ (x2_4 : Int), (-1) ≤ x2_4 ∧ x2_4 ≤ 5 → ∀ (x3_4 : Int), 0 ≤ x3_4 ∧ x3_4 ≤ 6 → (6 - x3_4 + 1 ≤ (n_4 : Int)) → ∀ (H : Heap) (locs : List Loc), tf_n tf_kt g M_X10_towerOn T s.heap T H locs → ∀ (ls : Array Slot), lv_has ls 4 [(0, .ref a0), (1, .int (Int32.ofInt x1)), (2, .int (Int32.ofInt x2_4)), (3, .int (Int32.ofInt x3_4))] → W p l e R s m args below meth c H locs 0 0 Q (F0 m 4 ls []) := by
    intro n_4
    induction n_4 with
    | zero =>
      intro hx1_4 x2_4 hx2_4 x3_4 hx3_4 hm_4
      exfalso; omega
    | succ n_4 ih_4 =>
      intro hx1_4 x2_4 hx2_4 x3_4 hx3_4 hm_4 H locs hW  ls hl
      have j_28 : 0 ≤ x1 ∧ x1 ≤ 99 → 0 ≤ x3_4 ∧ x3_4 ≤ 5 → ∀ (y0_28 : Int), (-1) ≤ y0_28 ∧ y0_28 ≤ 5 → ∀ (H : Heap) (locs : List Loc), tf_n tf_kt g M_X10_towerOn T s.heap T H locs → ∀ (ls : Array Slot), lv_has ls 4 [(0, .ref a0), (1, .int (Int32.ofInt x1)), (3, .int (Int32.ofInt x3_4))] → W p l e R s m args below meth c H locs 0 0 Q (F0 m 28 ls [.int (Int32.ofInt y0_28)]) := by
        intro hx1_28 hx3_28 y0_28 hy0_28 H locs hW  ls hl
        refine lv_istore_n (lv' := [(2, .int (Int32.ofInt y0_28)), (0, .ref a0), (1, .int (Int32.ofInt x1)), (3, .int (Int32.ofInt x3_4))]) hx hb dX10_towerOn_28 rfl hl (by decide) rfl (fun ls hl => ?_)
        refine lv_iinc (v := Int32.ofInt ((x3_4 + 1))) (lv' := [(3, .int (Int32.ofInt ((x3_4 + 1)))), (2, .int (Int32.ofInt y0_28)), (0, .ref a0), (1, .int (Int32.ofInt x1))]) hx hb dX10_towerOn_29 hl (k := 3) rfl (Int32.ofInt_add _ _).symm (by decide) rfl (fun ls hl => ?_)
        refine lv_goto (tgt := 4) hx hb dX10_towerOn_32 (by decide) ?_
        exact ih_4 ⟨by omega, by omega⟩ (y0_28) ⟨by omega, by omega⟩ ((x3_4 + 1)) ⟨by omega, by omega⟩ (by omega) _ _ hW  _ (lv_sub hl [2, 3, 1, 0] rfl)
      refine lv_iload_n hx hb dX10_towerOn_4 rfl (lv_at hl 3 rfl) ?_
      refine lv_aload_n hx hb dX10_towerOn_5 rfl (lv_at hl 0 rfl) ?_
      refine tf_get hx hb hts inlX10 hown hK (ci := 10) rfl hW ha0 rfl 3 rfl (by decide) (hts _ fl_X10_13) dX10_towerOn_6 (fun v1 hv1 hsv1 => ?_)
      obtain ⟨ad2, rfl, had2⟩ := tf_v1 hv1
      refine tf_iconst hx hb dX10_towerOn_9 ?_
      refine tf_iald (t0 := 0) hx hb hK hW had2 rfl rfl (by omega) (by omega) dX10_towerOn_10 (fun v3 hv3 hsv3 => ?_)
      obtain ⟨z4, rfl, hz4⟩ := tf_v0 hv3
      have hg5 := tf_rd0 (tf_ROof hW had2) hsv3 ⟨by omega, by omega⟩ (by omega)
      refine tf_icmp_ge (tgt := 35) hx hb ⟨by omega, by omega⟩ ⟨by omega, by omega⟩ dX10_towerOn_11 (by decide) (fun h6 => ?_) (fun h6 => ?_)
      · refine lv_iload_n hx hb dX10_towerOn_35 rfl (lv_at hl 2 rfl) ?_
        exact tf_reti (z := x2_4) hx hb hr hlocks hQ hW (show (-1) ≤ (x2_4) ∧ (x2_4) ≤ 5 by omega) dX10_towerOn_36
      · refine lv_aload_n hx hb dX10_towerOn_14 rfl (lv_at hl 0 rfl) ?_
        refine lv_iload_n hx hb dX10_towerOn_15 rfl (lv_at hl 3 rfl) ?_
        refine lv_iload_n hx hb dX10_towerOn_16 rfl (lv_at hl 1 rfl) ?_
        refine tf_calli (va_runV (As := [.int (Int32.ofInt x3_4), .int (Int32.ofInt x1)]) (rest := []) ⟨hx, hb, hml, hown, hts⟩ (c_X10_covers l g T a0 ha0 (x3_4) ⟨by omega, by omega⟩ (x1) ⟨by omega, by omega⟩) (cwV 2 hts gv_X10_128 rfl rfl rfl hd_X10_covers ⟨Nat.le_trans (by decide) hR1, Nat.le_trans (by decide) hR2⟩) (tf_preV hk hW ha0 (ci := 10) rfl rfl trivial) rfl rfl hl.1 rfl (lv_room (Nat.le_of_ble_eq_true rfl)) dX10_towerOn_17 ⟨Nat.zero_le _, Nat.zero_le _⟩) hW (by decide) (fun z7 H7 locs7 hW hF7 hp7 => ?_)
        have hp7 : z7 = 0 ∨ z7 = 1 := hp7
        refine tf_if_eq (tgt := 27) hx hb ⟨by omega, by omega⟩ dX10_towerOn_20 (by decide) (fun h8 => ?_) (fun h8 => ?_)
        · refine lv_iload_n hx hb dX10_towerOn_27 rfl (lv_at hl 2 rfl) ?_
          exact j_28 ⟨by omega, by omega⟩ ⟨by omega, by omega⟩ (x2_4) ⟨by omega, by omega⟩ _ _ hW  _ (lv_sub hl [0, 1, 3] rfl)
        · refine lv_iload_n hx hb dX10_towerOn_23 rfl (lv_at hl 3 rfl) ?_
          refine lv_goto (tgt := 28) hx hb dX10_towerOn_24 (by decide) ?_
          exact j_28 ⟨by omega, by omega⟩ ⟨by omega, by omega⟩ (x3_4) ⟨by omega, by omega⟩ _ _ hW  _ (lv_sub hl [0, 1, 3] rfl)
  refine tf_enter (As := [.ref a0, .int (Int32.ofInt x1)]) hargs (Nat.le_of_ble_eq_true rfl) (fun ls hl => ?_)
  have hl : lv_has ls 4 [(0, .ref a0), (1, .int (Int32.ofInt x1))] := hl
  refine tf_iconst hx hb dX10_towerOn_0 ?_
  refine lv_istore_n (lv' := [(2, .int (Int32.ofInt ((-1)))), (0, .ref a0), (1, .int (Int32.ofInt x1))]) hx hb dX10_towerOn_1 rfl hl (by decide) rfl (fun ls hl => ?_)
  refine tf_iconst hx hb dX10_towerOn_2 ?_
  refine lv_istore_n (lv' := [(3, .int (Int32.ofInt 0)), (2, .int (Int32.ofInt ((-1)))), (0, .ref a0), (1, .int (Int32.ofInt x1))]) hx hb dX10_towerOn_3 rfl hl (by decide) rfl (fun ls hl => ?_)
  exact j_4 ((6 - 0 + 1 : Int)).toNat ⟨by omega, by omega⟩ ((-1)) ⟨by omega, by omega⟩ (0) ⟨by omega, by omega⟩ (by omega) _ _ hW  _ (lv_sub hl [2, 3, 1, 0] rfl)

abbrev M_X10_isGround : List (Nat × Nat) := []
set_option maxHeartbeats 4000000 in
set_option maxRecDepth 100000 in
theorem c_X10_isGround (l : Launch) (g : tf_G) (T : tf_T) (a0 : Nat) (ha0 : T a0 = some (50, 0)) (x1 : Int) (hp1 : (-2147483648) ≤ x1 ∧ x1 ≤ 2147483647) : Met l yX10_isGround (cd_X10_isGround :: wsL_law) ({ frames := 4, cells := 0, slots := 0, locals := 96 }) (tf_P g T [.ref a0, .int (Int32.ofInt x1)] (fun H => True)) (tf_Qi g M_X10_isGround T (fun z _ _ => (z = 1 ∧ 0 ≤ x1 ∧ x1 ≤ 99) ∨ (z = 0))) 0 0 (fun q => tf_B g ≤ q) := by
  refine Met.ofW (cc := cX10_isGround) (maxL := 2) (ret := (some .boolean)) (by decide) rfl ?_
  intro p e s m args below meth c s₁ B hml hv
  obtain ⟨hargs, hk, hW0, hB, hpre⟩ := hv
  have hx := B.exec
  have hb := B.bytes
  have hr := B.returns
  have hts : ∀ w ∈ wsL_law, w.before args s = true := fun w h => atoms_spec (ws := cd_X10_isGround :: wsL_law) B.pre w (List.mem_cons_of_mem _ h)
  have hown : s.vm.findClass RX10 = some m.cls := findClass_of_methodNamed B.named
  have hlocks := B.notSynchronized
  have hK := hk.1
  have hW := tf_n.start (M := M_X10_isGround) hW0 hB
  obtain ⟨Q, hQ⟩ : ∃ q, q = MQ below (tf_Qi g M_X10_isGround T (fun z _ _ => (z = 1 ∧ 0 ≤ x1 ∧ x1 ≤ 99) ∨ (z = 0))) args s 0 0 (fun q => tf_B g ≤ q) := ⟨_, rfl⟩
  rw [← hQ]
  obtain ⟨R, hR⟩ : ∃ q, q = (headSpec (cd_X10_isGround :: wsL_law) ({ frames := 4, cells := 0, slots := 0, locals := 96 })).room := ⟨_, rfl⟩
  rw [← hR]
  have hR1 : 4 ≤ R.frames := by rw [hR]; exact Nat.le_refl _
  have hR2 : 96 ≤ R.locals := by rw [hR]; exact Nat.le_refl _
  have hR3 : 0 ≤ R.cells := by rw [hR]; exact Nat.le_refl _
  have hR4 : 0 ≤ R.slots := by rw [hR]; exact Nat.le_refl _
  have hin := (name_of_methodNamed B.named B.method).1
  clear hR B
  refine tf_enter (As := [.ref a0, .int (Int32.ofInt x1)]) hargs (Nat.le_of_ble_eq_true rfl) (fun ls hl => ?_)
  have hl : lv_has ls 2 [(0, .ref a0), (1, .int (Int32.ofInt x1))] := hl
  refine lv_iload_n hx hb dX10_isGround_0 rfl (lv_at hl 1 rfl) ?_
  refine tf_calli (va_runS (As := [.int (Int32.ofInt x1)]) (rest := []) ⟨hx, hb, hml, hown, hts⟩ (c_X10_isCell l g T (x1) ⟨by omega, by omega⟩) ⟨callB_of 1 hts (gw_ws cm_X10_isCell) rfl rfl rfl (hts _ (tw1 (i := 5) rfl)) (hts _ (tw11 (i := 19) rfl)) hd_X10_isCell.2 ⟨Nat.le_trans (by decide) hR1, Nat.le_trans (by decide) hR2⟩, hts _ (tw11 (i := 20) rfl)⟩ (tf_preS hk hW trivial) rfl rfl hl.1 rfl (lv_room (Nat.le_of_ble_eq_true rfl)) dX10_isGround_1 ⟨Nat.zero_le _, Nat.zero_le _⟩) hW (by decide) (fun z1 H1 locs1 hW hF1 hp1 => ?_)
  rcases hp1 with ⟨rfl, h2, h3⟩ | ⟨rfl, h4⟩
  · refine tf_if_eq (tgt := 20) hx hb ⟨by decide, by decide⟩ dX10_isGround_4 (by decide) (fun h5 => ?_) (fun h5 => ?_)
    · exfalso; omega
    · refine lv_aload_n hx hb dX10_isGround_7 rfl (lv_at hl 0 rfl) ?_
      refine lv_iload_n hx hb dX10_isGround_8 rfl (lv_at hl 1 rfl) ?_
      refine tf_calli (va_runV (As := [.int (Int32.ofInt x1)]) (rest := []) ⟨hx, hb, hml, hown, hts⟩ (c_X10_towerOn l g T a0 ha0 (x1) ⟨by omega, by omega⟩) (cwV 1 hts gv_X10_136 rfl rfl rfl hd_X10_towerOn ⟨Nat.le_trans (by decide) hR1, Nat.le_trans (by decide) hR2⟩) (tf_preV hk hW ha0 (ci := 10) rfl rfl trivial) rfl rfl hl.1 rfl (lv_room (Nat.le_of_ble_eq_true rfl)) dX10_isGround_9 ⟨Nat.zero_le _, Nat.zero_le _⟩) hW (by decide) (fun z6 H6 locs6 hW hF6 hp6 => ?_)
      obtain ⟨hp6_0, hp6_1⟩ := hp6
      refine tf_iconst hx hb dX10_isGround_12 ?_
      refine tf_icmp_ne (tgt := 20) hx hb ⟨by omega, by omega⟩ ⟨by decide, by decide⟩ dX10_isGround_13 (by decide) (fun h7 => ?_) (fun h7 => ?_)
      · refine tf_iconst hx hb dX10_isGround_20 ?_
        exact tf_retz (z := 0) hx hb hr hlocks hQ hW (by omega) (show ((0) = 1 ∧ 0 ≤ x1 ∧ x1 ≤ 99) ∨ ((0) = 0) by omega) dX10_isGround_21
      · refine tf_iconst hx hb dX10_isGround_16 ?_
        refine lv_goto (tgt := 21) hx hb dX10_isGround_17 (by decide) ?_
        exact tf_retz (z := 1) hx hb hr hlocks hQ hW (by omega) (show ((1) = 1 ∧ 0 ≤ x1 ∧ x1 ≤ 99) ∨ ((1) = 0) by omega) dX10_isGround_21
  · refine tf_if_eq (tgt := 20) hx hb ⟨by decide, by decide⟩ dX10_isGround_4 (by decide) (fun h8 => ?_) (fun h8 => ?_)
    · refine tf_iconst hx hb dX10_isGround_20 ?_
      exact tf_retz (z := 0) hx hb hr hlocks hQ hW (by omega) (show ((0) = 1 ∧ 0 ≤ x1 ∧ x1 ≤ 99) ∨ ((0) = 0) by omega) dX10_isGround_21
    · exfalso; omega

abbrev M_X10_ofWork : List (Nat × Nat) := []
set_option maxHeartbeats 4000000 in
set_option maxRecDepth 100000 in
theorem c_X10_ofWork (l : Launch) (g : tf_G) (T : tf_T) (a0 : Nat) (ha0 : T a0 = some (50, 0)) (x1 : Int) (hp1 : 0 ≤ x1 ∧ x1 ≤ 7) (x2 : Int) (hp2 : 0 ≤ x2 ∧ x2 ≤ 3) (b0 : Nat) (hb0 : T b0 = some (28, 5830)) (r0 : Int → Int) : Met l yX10_ofWork (cd_X10_ofWork :: wsL_law) ({ frames := 1, cells := 0, slots := 0, locals := 24 }) (tf_P g T [.ref a0, .int (Int32.ofInt x1), .int (Int32.ofInt x2)] (fun H => tf_s H a0 (g.1.2 10 3) = some (.ref b0) ∧ tf_rw H b0 = r0)) (tf_Qi g M_X10_ofWork T (fun z _ _ => (-2147483648) ≤ z ∧ z ≤ 2147483647 ∧ z = r0 (381 + 4 * x1 + x2))) 0 0 (fun q => tf_B g ≤ q) := by
  refine Met.ofW (cc := cX10_ofWork) (maxL := 3) (ret := (some .int)) (by decide) rfl ?_
  intro p e s m args below meth c s₁ B hml hv
  obtain ⟨hargs, hk, hW0, hB, hpre⟩ := hv
  obtain ⟨he0, he1⟩ := hpre
  have hx := B.exec
  have hb := B.bytes
  have hr := B.returns
  have hts : ∀ w ∈ wsL_law, w.before args s = true := fun w h => atoms_spec (ws := cd_X10_ofWork :: wsL_law) B.pre w (List.mem_cons_of_mem _ h)
  have hown : s.vm.findClass RX10 = some m.cls := findClass_of_methodNamed B.named
  have hlocks := B.notSynchronized
  have hK := hk.1
  have hW := tf_n.start (M := M_X10_ofWork) hW0 hB
  obtain ⟨Q, hQ⟩ : ∃ q, q = MQ below (tf_Qi g M_X10_ofWork T (fun z _ _ => (-2147483648) ≤ z ∧ z ≤ 2147483647 ∧ z = r0 (381 + 4 * x1 + x2))) args s 0 0 (fun q => tf_B g ≤ q) := ⟨_, rfl⟩
  rw [← hQ]
  obtain ⟨R, hR⟩ : ∃ q, q = (headSpec (cd_X10_ofWork :: wsL_law) ({ frames := 1, cells := 0, slots := 0, locals := 24 })).room := ⟨_, rfl⟩
  rw [← hR]
  have hR1 : 1 ≤ R.frames := by rw [hR]; exact Nat.le_refl _
  have hR2 : 24 ≤ R.locals := by rw [hR]; exact Nat.le_refl _
  have hR3 : 0 ≤ R.cells := by rw [hR]; exact Nat.le_refl _
  have hR4 : 0 ≤ R.slots := by rw [hR]; exact Nat.le_refl _
  have hin := (name_of_methodNamed B.named B.method).1
  clear hR B
  refine tf_enter (As := [.ref a0, .int (Int32.ofInt x1), .int (Int32.ofInt x2)]) hargs (Nat.le_of_ble_eq_true rfl) (fun ls hl => ?_)
  have hl : lv_has ls 3 [(0, .ref a0), (1, .int (Int32.ofInt x1)), (2, .int (Int32.ofInt x2))] := hl
  refine lv_aload_n hx hb dX10_ofWork_0 rfl (lv_at hl 0 rfl) ?_
  refine tf_get hx hb hts inlX10 hown hK (ci := 10) rfl hW ha0 rfl 3 rfl (by decide) (hts _ fl_X10_13) dX10_ofWork_1 (fun v1 hv1 hsv1 => ?_)
  obtain rfl : v1 = .ref b0 := Option.some.inj (hsv1.symm.trans he0)
  refine tf_sipush hx hb dX10_ofWork_4 (by decide) ?_
  refine tf_iconst hx hb dX10_ofWork_7 ?_
  refine lv_iload_n hx hb dX10_ofWork_8 rfl (lv_at hl 1 rfl) ?_
  refine tf_imul hx hb dX10_ofWork_9 ?_
  refine tf_iadd hx hb dX10_ofWork_10 ?_
  refine lv_iload_n hx hb dX10_ofWork_11 rfl (lv_at hl 2 rfl) ?_
  refine tf_iadd hx hb dX10_ofWork_12 ?_
  refine tf_iald (t0 := 0) hx hb hK hW hb0 rfl rfl (by omega) (by omega) dX10_ofWork_13 (fun v2 hv2 hsv2 => ?_)
  obtain ⟨z3, rfl, hz3⟩ := tf_v0 hv2
  have er4 : r0 ((381 + (4 * x1)) + x2) = z3 := he1 ▸ tf_rw_of (by omega) hsv2 ⟨by omega, by omega⟩
  exact tf_reti (z := z3) hx hb hr hlocks hQ hW (show (-2147483648) ≤ (z3) ∧ (z3) ≤ 2147483647 ∧ (z3) = r0 (381 + 4 * x1 + x2) by omega) dX10_ofWork_14

abbrev M_X10_isOfWork : List (Nat × Nat) := []
set_option maxHeartbeats 4000000 in
set_option maxRecDepth 100000 in
theorem c_X10_isOfWork (l : Launch) (g : tf_G) (T : tf_T) (a0 : Nat) (ha0 : T a0 = some (50, 0)) (x1 : Int) (hp1 : (-2147483648) ≤ x1 ∧ x1 ≤ 2147483647) : Met l yX10_isOfWork (cd_X10_isOfWork :: wsL_law) ({ frames := 2, cells := 0, slots := 0, locals := 46 }) (tf_P g T [.ref a0, .int (Int32.ofInt x1)] (fun H => True)) (tf_Qi g M_X10_isOfWork T (fun z _ _ => z = 0 ∨ z = 1)) 0 0 (fun q => tf_B g ≤ q) := by
  refine Met.ofW (cc := cX10_isOfWork) (maxL := 5) (ret := (some .boolean)) (by decide) rfl ?_
  intro p e s m args below meth c s₁ B hml hv
  obtain ⟨hargs, hk, hW0, hB, hpre⟩ := hv
  have hx := B.exec
  have hb := B.bytes
  have hr := B.returns
  have hts : ∀ w ∈ wsL_law, w.before args s = true := fun w h => atoms_spec (ws := cd_X10_isOfWork :: wsL_law) B.pre w (List.mem_cons_of_mem _ h)
  have hown : s.vm.findClass RX10 = some m.cls := findClass_of_methodNamed B.named
  have hlocks := B.notSynchronized
  have hK := hk.1
  have hW := tf_n.start (M := M_X10_isOfWork) hW0 hB
  obtain ⟨Q, hQ⟩ : ∃ q, q = MQ below (tf_Qi g M_X10_isOfWork T (fun z _ _ => z = 0 ∨ z = 1)) args s 0 0 (fun q => tf_B g ≤ q) := ⟨_, rfl⟩
  rw [← hQ]
  obtain ⟨R, hR⟩ : ∃ q, q = (headSpec (cd_X10_isOfWork :: wsL_law) ({ frames := 2, cells := 0, slots := 0, locals := 46 })).room := ⟨_, rfl⟩
  rw [← hR]
  have hR1 : 2 ≤ R.frames := by rw [hR]; exact Nat.le_refl _
  have hR2 : 46 ≤ R.locals := by rw [hR]; exact Nat.le_refl _
  have hR3 : 0 ≤ R.cells := by rw [hR]; exact Nat.le_refl _
  have hR4 : 0 ≤ R.slots := by rw [hR]; exact Nat.le_refl _
  have hin := (name_of_methodNamed B.named B.method).1
  clear hR B
  have j_4 : ∀ (n_4 : Nat), (-2147483648) ≤ x1 ∧ x1 ≤ 2147483647 → ∀ (x2_4 : Int), 0 ≤ x2_4 ∧ x2_4 ≤ 1 → ∀ (x3_4 : Int), 0 ≤ x3_4 ∧ x3_4 ≤ 8 → (8 - x3_4 + 1 ≤ (n_4 : Int)) → ∀ (H : Heap) (locs : List Loc), tf_n tf_kt g M_X10_isOfWork T s.heap T H locs → ∀ (ls : Array Slot), lv_has ls 5 [(0, .ref a0), (1, .int (Int32.ofInt x1)), (2, .int (Int32.ofInt x2_4)), (3, .int (Int32.ofInt x3_4))] → W p l e R s m args below meth c H locs 0 0 Q (F0 m 4 ls []) := by
    intro n_4
    induction n_4 with
    | zero =>
      intro hx1_4 x2_4 hx2_4 x3_4 hx3_4 hm_4
      exfalso; omega
    | succ n_4 ih_4 =>
      intro hx1_4 x2_4 hx2_4 x3_4 hx3_4 hm_4 H locs hW  ls hl
      have j_63 : (-2147483648) ≤ x1 ∧ x1 ≤ 2147483647 → 0 ≤ x3_4 ∧ x3_4 ≤ 7 → ∀ (y0_63 : Int), 0 ≤ y0_63 ∧ y0_63 ≤ 1 → ∀ (H : Heap) (locs : List Loc), tf_n tf_kt g M_X10_isOfWork T s.heap T H locs → ∀ (ls : Array Slot), lv_has ls 5 [(0, .ref a0), (1, .int (Int32.ofInt x1)), (3, .int (Int32.ofInt x3_4))] → W p l e R s m args below meth c H locs 0 0 Q (F0 m 63 ls [.int (Int32.ofInt y0_63)]) := by
        intro hx1_63 hx3_63 y0_63 hy0_63 H locs hW  ls hl
        refine lv_istore_n (lv' := [(2, .int (Int32.ofInt y0_63)), (0, .ref a0), (1, .int (Int32.ofInt x1)), (3, .int (Int32.ofInt x3_4))]) hx hb dX10_isOfWork_63 rfl hl (by decide) rfl (fun ls hl => ?_)
        refine lv_iinc (v := Int32.ofInt ((x3_4 + 1))) (lv' := [(3, .int (Int32.ofInt ((x3_4 + 1)))), (2, .int (Int32.ofInt y0_63)), (0, .ref a0), (1, .int (Int32.ofInt x1))]) hx hb dX10_isOfWork_64 hl (k := 3) rfl (Int32.ofInt_add _ _).symm (by decide) rfl (fun ls hl => ?_)
        refine lv_goto (tgt := 4) hx hb dX10_isOfWork_67 (by decide) ?_
        exact ih_4 ⟨by omega, by omega⟩ (y0_63) ⟨by omega, by omega⟩ ((x3_4 + 1)) ⟨by omega, by omega⟩ (by omega) _ _ hW  _ (lv_sub hl [2, 3, 1, 0] rfl)
      have j_58 : (-2147483648) ≤ x1 ∧ x1 ≤ 2147483647 → 0 ≤ x3_4 ∧ x3_4 ≤ 7 → ∀ (H : Heap) (locs : List Loc), tf_n tf_kt g M_X10_isOfWork T s.heap T H locs → ∀ (ls : Array Slot), lv_has ls 5 [(0, .ref a0), (1, .int (Int32.ofInt x1)), (3, .int (Int32.ofInt x3_4))] → W p l e R s m args below meth c H locs 0 0 Q (F0 m 58 ls []) := by
        intro hx1_58 hx3_58 H locs hW  ls hl
        refine tf_iconst hx hb dX10_isOfWork_58 ?_
        refine lv_goto (tgt := 63) hx hb dX10_isOfWork_59 (by decide) ?_
        exact j_63 ⟨by omega, by omega⟩ ⟨by omega, by omega⟩ (1) ⟨by omega, by omega⟩ _ _ hW  _ (lv_sub hl [0, 1, 2] rfl)
      have j_62 : (-2147483648) ≤ x1 ∧ x1 ≤ 2147483647 → 0 ≤ x3_4 ∧ x3_4 ≤ 7 → ∀ (H : Heap) (locs : List Loc), tf_n tf_kt g M_X10_isOfWork T s.heap T H locs → ∀ (ls : Array Slot), lv_has ls 5 [(0, .ref a0), (1, .int (Int32.ofInt x1)), (3, .int (Int32.ofInt x3_4))] → W p l e R s m args below meth c H locs 0 0 Q (F0 m 62 ls []) := by
        intro hx1_62 hx3_62 H locs hW  ls hl
        refine tf_iconst hx hb dX10_isOfWork_62 ?_
        exact j_63 ⟨by omega, by omega⟩ ⟨by omega, by omega⟩ (0) ⟨by omega, by omega⟩ _ _ hW  _ (lv_sub hl [0, 1, 2] rfl)
      have j_42 : (-2147483648) ≤ x1 ∧ x1 ≤ 2147483647 → 0 ≤ x3_4 ∧ x3_4 ≤ 7 → ∀ (x4_42 : Int), (-2147483648) ≤ x4_42 ∧ x4_42 ≤ 2147483647 → ∀ (H : Heap) (locs : List Loc), tf_n tf_kt g M_X10_isOfWork T s.heap T H locs → ∀ (ls : Array Slot), lv_has ls 5 [(0, .ref a0), (1, .int (Int32.ofInt x1)), (3, .int (Int32.ofInt x3_4)), (4, .int (Int32.ofInt x4_42))] → W p l e R s m args below meth c H locs 0 0 Q (F0 m 42 ls []) := by
        intro hx1_42 hx3_42 x4_42 hx4_42 H locs hW  ls hl
        refine lv_iload hx hb dX10_isOfWork_42 (lv_at hl 3 rfl) ?_
        refine tf_iconst hx hb dX10_isOfWork_44 ?_
        refine tf_icmp_ne (tgt := 62) hx hb ⟨by omega, by omega⟩ ⟨by decide, by decide⟩ dX10_isOfWork_45 (by decide) (fun h1 => ?_) (fun h1 => ?_)
        · exact j_62 ⟨by omega, by omega⟩ ⟨by omega, by omega⟩ _ _ hW  _ (lv_sub hl [0, 1, 2] rfl)
        · refine lv_aload_n hx hb dX10_isOfWork_48 rfl (lv_at hl 0 rfl) ?_
          refine lv_iload_n hx hb dX10_isOfWork_49 rfl (lv_at hl 2 rfl) ?_
          refine tf_iconst hx hb dX10_isOfWork_50 ?_
          obtain ⟨pv2, hpv2, hok2⟩ := tf_peek hW ha0 (ci := 10) rfl 3 rfl
          obtain ⟨ad3, rfl, had3⟩ := tf_v1 hok2
          obtain ⟨r4, hr4⟩ := tf_rname hW ad3
          have hro4 : tf_RO r4 := hr4 ▸ tf_ROof hW had3
          refine tf_calli (va_runV (As := [.int (Int32.ofInt x3_4), .int (Int32.ofInt 2)]) (rest := []) ⟨hx, hb, hml, hown, hts⟩ (c_X10_ofWork l g T a0 ha0 (x3_4) ⟨by omega, by omega⟩ (2) ⟨by omega, by omega⟩ ad3 had3 r4) (cwV 2 hts gv_X10_139 rfl rfl rfl hd_X10_ofWork ⟨Nat.le_trans (by decide) hR1, Nat.le_trans (by decide) hR2⟩) (tf_preV hk hW ha0 (ci := 10) rfl rfl ⟨hpv2, hr4⟩) rfl rfl hl.1 rfl (lv_room (Nat.le_of_ble_eq_true rfl)) dX10_isOfWork_51 ⟨Nat.zero_le _, Nat.zero_le _⟩) hW (by decide) (fun z5 H5 locs5 hW hF5 hp5 => ?_)
          have hs6 := tf_keepF hF5 ha0 rfl rfl (by decide) hpv2
          have hs7 := tf_keepC hF5 had3 rfl (by decide) hr4
          obtain ⟨hp5_0, hp5_1, hp5_2⟩ := hp5
          refine lv_iload_n hx hb dX10_isOfWork_54 rfl (lv_at hl 1 rfl) ?_
          refine tf_icmp_ne (tgt := 62) hx hb ⟨by omega, by omega⟩ ⟨by omega, by omega⟩ dX10_isOfWork_55 (by decide) (fun h8 => ?_) (fun h8 => ?_)
          · exact j_62 ⟨by omega, by omega⟩ ⟨by omega, by omega⟩ _ _ hW  _ (lv_sub hl [0, 1, 2] rfl)
          · exact j_58 ⟨by omega, by omega⟩ ⟨by omega, by omega⟩ _ _ hW  _ (lv_sub hl [0, 1, 2] rfl)
      refine lv_iload_n hx hb dX10_isOfWork_4 rfl (lv_at hl 3 rfl) ?_
      refine lv_aload_n hx hb dX10_isOfWork_5 rfl (lv_at hl 0 rfl) ?_
      refine tf_get hx hb hts inlX10 hown hK (ci := 10) rfl hW ha0 rfl 3 rfl (by decide) (hts _ fl_X10_13) dX10_isOfWork_6 (fun v9 hv9 hsv9 => ?_)
      obtain ⟨ad10, rfl, had10⟩ := tf_v1 hv9
      refine tf_iconst hx hb dX10_isOfWork_9 ?_
      refine tf_iald (t0 := 0) hx hb hK hW had10 rfl rfl (by omega) (by omega) dX10_isOfWork_10 (fun v11 hv11 hsv11 => ?_)
      obtain ⟨z12, rfl, hz12⟩ := tf_v0 hv11
      have hg13 := tf_rd3 (tf_ROof hW had10) hsv11 ⟨by omega, by omega⟩ (by omega)
      refine tf_icmp_ge (tgt := 70) hx hb ⟨by omega, by omega⟩ ⟨by omega, by omega⟩ dX10_isOfWork_11 (by decide) (fun h14 => ?_) (fun h14 => ?_)
      · refine lv_iload_n hx hb dX10_isOfWork_70 rfl (lv_at hl 2 rfl) ?_
        exact tf_retz (z := x2_4) hx hb hr hlocks hQ hW (by omega) (show (x2_4) = 0 ∨ (x2_4) = 1 by omega) dX10_isOfWork_71
      · refine lv_aload_n hx hb dX10_isOfWork_14 rfl (lv_at hl 0 rfl) ?_
        refine lv_iload_n hx hb dX10_isOfWork_15 rfl (lv_at hl 3 rfl) ?_
        refine tf_iconst hx hb dX10_isOfWork_16 ?_
        obtain ⟨r15, hr15⟩ := tf_rname hW ad10
        have hro15 : tf_RO r15 := hr15 ▸ tf_ROof hW had10
        refine tf_calli (va_runV (As := [.int (Int32.ofInt x3_4), .int (Int32.ofInt 0)]) (rest := []) ⟨hx, hb, hml, hown, hts⟩ (c_X10_ofWork l g T a0 ha0 (x3_4) ⟨by omega, by omega⟩ (0) ⟨by omega, by omega⟩ ad10 had10 r15) (cwV 2 hts gv_X10_139 rfl rfl rfl hd_X10_ofWork ⟨Nat.le_trans (by decide) hR1, Nat.le_trans (by decide) hR2⟩) (tf_preV hk hW ha0 (ci := 10) rfl rfl ⟨hsv9, hr15⟩) rfl rfl hl.1 rfl (lv_room (Nat.le_of_ble_eq_true rfl)) dX10_isOfWork_17 ⟨Nat.zero_le _, Nat.zero_le _⟩) hW (by decide) (fun z16 H16 locs16 hW hF16 hp16 => ?_)
        have hs17 := tf_keepF hF16 ha0 rfl rfl (by decide) hsv9
        have hs18 := tf_keepC hF16 had10 rfl (by decide) hr15
        obtain ⟨hp16_0, hp16_1, hp16_2⟩ := hp16
        refine lv_istore (lv' := [(4, .int (Int32.ofInt z16)), (0, .ref a0), (1, .int (Int32.ofInt x1)), (2, .int (Int32.ofInt x2_4)), (3, .int (Int32.ofInt x3_4))]) hx hb dX10_isOfWork_20 hl (by decide) rfl (fun ls hl => ?_)
        refine lv_iload_n hx hb dX10_isOfWork_22 rfl (lv_at hl 3 rfl) ?_
        refine tf_if_ne (tgt := 58) hx hb ⟨by omega, by omega⟩ dX10_isOfWork_23 (by decide) (fun h19 => ?_) (fun h19 => ?_)
        · exact j_58 ⟨by omega, by omega⟩ ⟨by omega, by omega⟩ _ _ hW  _ (lv_sub hl [1, 2, 4] rfl)
        · refine lv_iload hx hb dX10_isOfWork_26 (lv_at hl 0 rfl) ?_
          refine tf_iconst hx hb dX10_isOfWork_28 ?_
          refine tf_icmp_eq (tgt := 42) hx hb ⟨by omega, by omega⟩ ⟨by decide, by decide⟩ dX10_isOfWork_29 (by decide) (fun h20 => ?_) (fun h20 => ?_)
          · exact j_42 ⟨by omega, by omega⟩ ⟨by omega, by omega⟩ (z16) ⟨by omega, by omega⟩ _ _ hW  _ (lv_sub hl [1, 2, 4, 0] rfl)
          · refine lv_aload_n hx hb dX10_isOfWork_32 rfl (lv_at hl 1 rfl) ?_
            refine lv_iload_n hx hb dX10_isOfWork_33 rfl (lv_at hl 4 rfl) ?_
            refine tf_iconst hx hb dX10_isOfWork_34 ?_
            refine tf_calli (va_runV (As := [.int (Int32.ofInt x3_4), .int (Int32.ofInt 1)]) (rest := []) ⟨hx, hb, hml, hown, hts⟩ (c_X10_ofWork l g T a0 ha0 (x3_4) ⟨by omega, by omega⟩ (1) ⟨by omega, by omega⟩ ad10 had10 r15) (cwV 2 hts gv_X10_139 rfl rfl rfl hd_X10_ofWork ⟨Nat.le_trans (by decide) hR1, Nat.le_trans (by decide) hR2⟩) (tf_preV hk hW ha0 (ci := 10) rfl rfl ⟨hs17, hs18⟩) rfl rfl hl.1 rfl (lv_room (Nat.le_of_ble_eq_true rfl)) dX10_isOfWork_35 ⟨Nat.zero_le _, Nat.zero_le _⟩) hW (by decide) (fun z21 H21 locs21 hW hF21 hp21 => ?_)
            have hs22 := tf_keepF hF21 ha0 rfl rfl (by decide) hs17
            have hs23 := tf_keepC hF21 had10 rfl (by decide) hs18
            obtain ⟨hp21_0, hp21_1, hp21_2⟩ := hp21
            refine lv_iload_n hx hb dX10_isOfWork_38 rfl (lv_at hl 2 rfl) ?_
            refine tf_icmp_eq (tgt := 58) hx hb ⟨by omega, by omega⟩ ⟨by omega, by omega⟩ dX10_isOfWork_39 (by decide) (fun h24 => ?_) (fun h24 => ?_)
            · exact j_58 ⟨by omega, by omega⟩ ⟨by omega, by omega⟩ _ _ hW  _ (lv_sub hl [1, 2, 4] rfl)
            · exact j_42 ⟨by omega, by omega⟩ ⟨by omega, by omega⟩ (z16) ⟨by omega, by omega⟩ _ _ hW  _ (lv_sub hl [1, 2, 4, 0] rfl)
  refine tf_enter (As := [.ref a0, .int (Int32.ofInt x1)]) hargs (Nat.le_of_ble_eq_true rfl) (fun ls hl => ?_)
  have hl : lv_has ls 5 [(0, .ref a0), (1, .int (Int32.ofInt x1))] := hl
  refine tf_iconst hx hb dX10_isOfWork_0 ?_
  refine lv_istore_n (lv' := [(2, .int (Int32.ofInt 0)), (0, .ref a0), (1, .int (Int32.ofInt x1))]) hx hb dX10_isOfWork_1 rfl hl (by decide) rfl (fun ls hl => ?_)
  refine tf_iconst hx hb dX10_isOfWork_2 ?_
  refine lv_istore_n (lv' := [(3, .int (Int32.ofInt 0)), (2, .int (Int32.ofInt 0)), (0, .ref a0), (1, .int (Int32.ofInt x1))]) hx hb dX10_isOfWork_3 rfl hl (by decide) rfl (fun ls hl => ?_)
  exact j_4 ((8 - 0 + 1 : Int)).toNat ⟨by omega, by omega⟩ (0) ⟨by omega, by omega⟩ (0) ⟨by omega, by omega⟩ (by omega) _ _ hW  _ (lv_sub hl [2, 3, 1, 0] rfl)

abbrev M_X10_isOfPlace : List (Nat × Nat) := []
set_option maxHeartbeats 4000000 in
set_option maxRecDepth 100000 in
theorem c_X10_isOfPlace (l : Launch) (g : tf_G) (T : tf_T) (a0 : Nat) (ha0 : T a0 = some (50, 0)) (x1 : Int) (hp1 : (-2147483648) ≤ x1 ∧ x1 ≤ 2147483647) : Met l yX10_isOfPlace (cd_X10_isOfPlace :: wsL_law) ({ frames := 1, cells := 0, slots := 0, locals := 24 }) (tf_P g T [.ref a0, .int (Int32.ofInt x1)] (fun H => True)) (tf_Qi g M_X10_isOfPlace T (fun z _ _ => z = 0 ∨ z = 1)) 0 0 (fun q => tf_B g ≤ q) := by
  refine Met.ofW (cc := cX10_isOfPlace) (maxL := 4) (ret := (some .boolean)) (by decide) rfl ?_
  intro p e s m args below meth c s₁ B hml hv
  obtain ⟨hargs, hk, hW0, hB, hpre⟩ := hv
  have hx := B.exec
  have hb := B.bytes
  have hr := B.returns
  have hts : ∀ w ∈ wsL_law, w.before args s = true := fun w h => atoms_spec (ws := cd_X10_isOfPlace :: wsL_law) B.pre w (List.mem_cons_of_mem _ h)
  have hown : s.vm.findClass RX10 = some m.cls := findClass_of_methodNamed B.named
  have hlocks := B.notSynchronized
  have hK := hk.1
  have hW := tf_n.start (M := M_X10_isOfPlace) hW0 hB
  obtain ⟨Q, hQ⟩ : ∃ q, q = MQ below (tf_Qi g M_X10_isOfPlace T (fun z _ _ => z = 0 ∨ z = 1)) args s 0 0 (fun q => tf_B g ≤ q) := ⟨_, rfl⟩
  rw [← hQ]
  obtain ⟨R, hR⟩ : ∃ q, q = (headSpec (cd_X10_isOfPlace :: wsL_law) ({ frames := 1, cells := 0, slots := 0, locals := 24 })).room := ⟨_, rfl⟩
  rw [← hR]
  have hR1 : 1 ≤ R.frames := by rw [hR]; exact Nat.le_refl _
  have hR2 : 24 ≤ R.locals := by rw [hR]; exact Nat.le_refl _
  have hR3 : 0 ≤ R.cells := by rw [hR]; exact Nat.le_refl _
  have hR4 : 0 ≤ R.slots := by rw [hR]; exact Nat.le_refl _
  have hin := (name_of_methodNamed B.named B.method).1
  clear hR B
  have j_4 : ∀ (n_4 : Nat), (-2147483648) ≤ x1 ∧ x1 ≤ 2147483647 → ∀ (x2_4 : Int), 0 ≤ x2_4 ∧ x2_4 ≤ 1 → ∀ (x3_4 : Int), 0 ≤ x3_4 ∧ x3_4 ≤ 10000 → (10000 - x3_4 + 1 ≤ (n_4 : Int)) → ∀ (H : Heap) (locs : List Loc), tf_n tf_kt g M_X10_isOfPlace T s.heap T H locs → ∀ (ls : Array Slot), lv_has ls 4 [(0, .ref a0), (1, .int (Int32.ofInt x1)), (2, .int (Int32.ofInt x2_4)), (3, .int (Int32.ofInt x3_4))] → W p l e R s m args below meth c H locs 0 0 Q (F0 m 4 ls []) := by
    intro n_4
    induction n_4 with
    | zero =>
      intro hx1_4 x2_4 hx2_4 x3_4 hx3_4 hm_4
      exfalso; omega
    | succ n_4 ih_4 =>
      intro hx1_4 x2_4 hx2_4 x3_4 hx3_4 hm_4 H locs hW  ls hl
      have j_37 : (-2147483648) ≤ x1 ∧ x1 ≤ 2147483647 → 0 ≤ x3_4 ∧ x3_4 ≤ 9999 → ∀ (y0_37 : Int), 0 ≤ y0_37 ∧ y0_37 ≤ 1 → ∀ (H : Heap) (locs : List Loc), tf_n tf_kt g M_X10_isOfPlace T s.heap T H locs → ∀ (ls : Array Slot), lv_has ls 4 [(0, .ref a0), (1, .int (Int32.ofInt x1)), (3, .int (Int32.ofInt x3_4))] → W p l e R s m args below meth c H locs 0 0 Q (F0 m 37 ls [.int (Int32.ofInt y0_37)]) := by
        intro hx1_37 hx3_37 y0_37 hy0_37 H locs hW  ls hl
        refine lv_istore_n (lv' := [(2, .int (Int32.ofInt y0_37)), (0, .ref a0), (1, .int (Int32.ofInt x1)), (3, .int (Int32.ofInt x3_4))]) hx hb dX10_isOfPlace_37 rfl hl (by decide) rfl (fun ls hl => ?_)
        refine lv_iinc (v := Int32.ofInt ((x3_4 + 1))) (lv' := [(3, .int (Int32.ofInt ((x3_4 + 1)))), (2, .int (Int32.ofInt y0_37)), (0, .ref a0), (1, .int (Int32.ofInt x1))]) hx hb dX10_isOfPlace_38 hl (k := 3) rfl (Int32.ofInt_add _ _).symm (by decide) rfl (fun ls hl => ?_)
        refine lv_goto (tgt := 4) hx hb dX10_isOfPlace_41 (by decide) ?_
        exact ih_4 ⟨by omega, by omega⟩ (y0_37) ⟨by omega, by omega⟩ ((x3_4 + 1)) ⟨by omega, by omega⟩ (by omega) _ _ hW  _ (lv_sub hl [2, 3, 1, 0] rfl)
      have j_32 : (-2147483648) ≤ x1 ∧ x1 ≤ 2147483647 → 0 ≤ x3_4 ∧ x3_4 ≤ 9999 → ∀ (H : Heap) (locs : List Loc), tf_n tf_kt g M_X10_isOfPlace T s.heap T H locs → ∀ (ls : Array Slot), lv_has ls 4 [(0, .ref a0), (1, .int (Int32.ofInt x1)), (3, .int (Int32.ofInt x3_4))] → W p l e R s m args below meth c H locs 0 0 Q (F0 m 32 ls []) := by
        intro hx1_32 hx3_32 H locs hW  ls hl
        refine tf_iconst hx hb dX10_isOfPlace_32 ?_
        refine lv_goto (tgt := 37) hx hb dX10_isOfPlace_33 (by decide) ?_
        exact j_37 ⟨by omega, by omega⟩ ⟨by omega, by omega⟩ (1) ⟨by omega, by omega⟩ _ _ hW  _ (lv_sub hl [0, 1, 2] rfl)
      refine lv_iload_n hx hb dX10_isOfPlace_4 rfl (lv_at hl 3 rfl) ?_
      refine lv_aload_n hx hb dX10_isOfPlace_5 rfl (lv_at hl 0 rfl) ?_
      refine tf_get hx hb hts inlX10 hown hK (ci := 10) rfl hW ha0 rfl 3 rfl (by decide) (hts _ fl_X10_13) dX10_isOfPlace_6 (fun v1 hv1 hsv1 => ?_)
      obtain ⟨ad2, rfl, had2⟩ := tf_v1 hv1
      refine tf_iconst hx hb dX10_isOfPlace_9 ?_
      refine tf_iald (t0 := 0) hx hb hK hW had2 rfl rfl (by omega) (by omega) dX10_isOfPlace_10 (fun v3 hv3 hsv3 => ?_)
      obtain ⟨z4, rfl, hz4⟩ := tf_v0 hv3
      have hg5 := tf_rd4 (tf_ROof hW had2) hsv3 ⟨by omega, by omega⟩ (by omega)
      have hg6 := tf_rdM (tf_ROof hW had2) hsv3 ⟨by omega, by omega⟩ (by omega)
      refine tf_icmp_ge (tgt := 44) hx hb ⟨by omega, by omega⟩ ⟨by omega, by omega⟩ dX10_isOfPlace_11 (by decide) (fun h7 => ?_) (fun h7 => ?_)
      · refine lv_iload_n hx hb dX10_isOfPlace_44 rfl (lv_at hl 2 rfl) ?_
        exact tf_retz (z := x2_4) hx hb hr hlocks hQ hW (by omega) (show (x2_4) = 0 ∨ (x2_4) = 1 by omega) dX10_isOfPlace_45
      · refine lv_iload_n hx hb dX10_isOfPlace_14 rfl (lv_at hl 2 rfl) ?_
        refine tf_if_ne (tgt := 32) hx hb ⟨by omega, by omega⟩ dX10_isOfPlace_15 (by decide) (fun h8 => ?_) (fun h8 => ?_)
        · exact j_32 ⟨by omega, by omega⟩ ⟨by omega, by omega⟩ _ _ hW  _ (lv_sub hl [0, 1, 3] rfl)
        · refine lv_aload_n hx hb dX10_isOfPlace_18 rfl (lv_at hl 0 rfl) ?_
          refine tf_get hx hb hts inlX10 hown hK (ci := 10) rfl hW ha0 rfl 3 rfl (by decide) (hts _ fl_X10_13) dX10_isOfPlace_19 (fun v9 hv9 hsv9 => ?_)
          obtain rfl : v9 = .ref ad2 := Option.some.inj (hsv9.symm.trans hsv1)
          refine tf_sipush hx hb dX10_isOfPlace_22 (by decide) ?_
          refine lv_iload_n hx hb dX10_isOfPlace_25 rfl (lv_at hl 3 rfl) ?_
          refine tf_iadd hx hb dX10_isOfPlace_26 ?_
          refine tf_iald (t0 := 0) hx hb hK hW had2 rfl rfl (by omega) (by omega) dX10_isOfPlace_27 (fun v10 hv10 hsv10 => ?_)
          obtain ⟨z11, rfl, hz11⟩ := tf_v0 hv10
          refine lv_iload_n hx hb dX10_isOfPlace_28 rfl (lv_at hl 1 rfl) ?_
          refine tf_icmp_ne (tgt := 36) hx hb ⟨by omega, by omega⟩ ⟨by omega, by omega⟩ dX10_isOfPlace_29 (by decide) (fun h12 => ?_) (fun h12 => ?_)
          · refine tf_iconst hx hb dX10_isOfPlace_36 ?_
            exact j_37 ⟨by omega, by omega⟩ ⟨by omega, by omega⟩ (0) ⟨by omega, by omega⟩ _ _ hW  _ (lv_sub hl [0, 1, 3] rfl)
          · exact j_32 ⟨by omega, by omega⟩ ⟨by omega, by omega⟩ _ _ hW  _ (lv_sub hl [0, 1, 3] rfl)
  refine tf_enter (As := [.ref a0, .int (Int32.ofInt x1)]) hargs (Nat.le_of_ble_eq_true rfl) (fun ls hl => ?_)
  have hl : lv_has ls 4 [(0, .ref a0), (1, .int (Int32.ofInt x1))] := hl
  refine tf_iconst hx hb dX10_isOfPlace_0 ?_
  refine lv_istore_n (lv' := [(2, .int (Int32.ofInt 0)), (0, .ref a0), (1, .int (Int32.ofInt x1))]) hx hb dX10_isOfPlace_1 rfl hl (by decide) rfl (fun ls hl => ?_)
  refine tf_iconst hx hb dX10_isOfPlace_2 ?_
  refine lv_istore_n (lv' := [(3, .int (Int32.ofInt 0)), (2, .int (Int32.ofInt 0)), (0, .ref a0), (1, .int (Int32.ofInt x1))]) hx hb dX10_isOfPlace_3 rfl hl (by decide) rfl (fun ls hl => ?_)
  exact j_4 ((10000 - 0 + 1 : Int)).toNat ⟨by omega, by omega⟩ (0) ⟨by omega, by omega⟩ (0) ⟨by omega, by omega⟩ (by omega) _ _ hW  _ (lv_sub hl [2, 3, 1, 0] rfl)

abbrev M_X10_canBe : List (Nat × Nat) := []
set_option maxHeartbeats 4000000 in
set_option maxRecDepth 100000 in
theorem c_X10_canBe (l : Launch) (g : tf_G) (T : tf_T) (x0 : Int) (hp0 : (-2147483648) ≤ x0 ∧ x0 ≤ 2147483647) (x1 : Int) (hp1 : (-2147483648) ≤ x1 ∧ x1 ≤ 2147483647) (x2 : Int) (hp2 : (-2147483648) ≤ x2 ∧ x2 ≤ 2147483647) (x3 : Int) (hp3 : (-2147483648) ≤ x3 ∧ x3 ≤ 2147483647) (x4 : Int) (hp4 : (-2147483648) ≤ x4 ∧ x4 ≤ 2147483647) : Met l yX10_canBe (cd_X10_canBe :: wsL_law) ({ frames := 2, cells := 0, slots := 0, locals := 49 }) (tf_P g T [.int (Int32.ofInt x0), .int (Int32.ofInt x1), .int (Int32.ofInt x2), .int (Int32.ofInt x3), .int (Int32.ofInt x4)] (fun H => True)) (tf_Qi g M_X10_canBe T (fun z _ _ => (z = 1 ∧ 0 ≤ x0 ∧ x0 ≤ 9 ∧ 0 ≤ x1 ∧ x1 ≤ 9 ∧ 1 ≤ x2 ∧ x2 ≤ 5 ∧ 1 ≤ x3 ∧ x3 ≤ 5 ∧ 1 ≤ x4 ∧ x4 ≤ 40 ∧ x0 + x2 ≤ 10 ∧ x1 + x3 ≤ 10) ∨ (z = 0))) 0 0 (fun q => tf_B g ≤ q) := by
  refine Met.ofW (cc := cX10_canBe) (maxL := 5) (ret := (some .boolean)) (by decide) rfl ?_
  intro p e s m args below meth c s₁ B hml hv
  obtain ⟨hargs, hk, hW0, hB, hpre⟩ := hv
  have hx := B.exec
  have hb := B.bytes
  have hr := B.returns
  have hts : ∀ w ∈ wsL_law, w.before args s = true := fun w h => atoms_spec (ws := cd_X10_canBe :: wsL_law) B.pre w (List.mem_cons_of_mem _ h)
  have hown : s.vm.findClass RX10 = some m.cls := findClass_of_methodNamed B.named
  have hlocks := B.notSynchronized
  have hK := hk.1
  have hW := tf_n.start (M := M_X10_canBe) hW0 hB
  obtain ⟨Q, hQ⟩ : ∃ q, q = MQ below (tf_Qi g M_X10_canBe T (fun z _ _ => (z = 1 ∧ 0 ≤ x0 ∧ x0 ≤ 9 ∧ 0 ≤ x1 ∧ x1 ≤ 9 ∧ 1 ≤ x2 ∧ x2 ≤ 5 ∧ 1 ≤ x3 ∧ x3 ≤ 5 ∧ 1 ≤ x4 ∧ x4 ≤ 40 ∧ x0 + x2 ≤ 10 ∧ x1 + x3 ≤ 10) ∨ (z = 0))) args s 0 0 (fun q => tf_B g ≤ q) := ⟨_, rfl⟩
  rw [← hQ]
  obtain ⟨R, hR⟩ : ∃ q, q = (headSpec (cd_X10_canBe :: wsL_law) ({ frames := 2, cells := 0, slots := 0, locals := 49 })).room := ⟨_, rfl⟩
  rw [← hR]
  have hR1 : 2 ≤ R.frames := by rw [hR]; exact Nat.le_refl _
  have hR2 : 49 ≤ R.locals := by rw [hR]; exact Nat.le_refl _
  have hR3 : 0 ≤ R.cells := by rw [hR]; exact Nat.le_refl _
  have hR4 : 0 ≤ R.slots := by rw [hR]; exact Nat.le_refl _
  have hin := (name_of_methodNamed B.named B.method).1
  clear hR B
  refine tf_enter (As := [.int (Int32.ofInt x0), .int (Int32.ofInt x1), .int (Int32.ofInt x2), .int (Int32.ofInt x3), .int (Int32.ofInt x4)]) hargs (Nat.le_of_ble_eq_true rfl) (fun ls hl => ?_)
  have hl : lv_has ls 5 [(0, .int (Int32.ofInt x0)), (1, .int (Int32.ofInt x1)), (2, .int (Int32.ofInt x2)), (3, .int (Int32.ofInt x3)), (4, .int (Int32.ofInt x4))] := hl
  refine lv_iload_n hx hb dX10_canBe_0 rfl (lv_at hl 0 rfl) ?_
  refine tf_i2l hx hb ⟨by omega, by omega⟩ dX10_canBe_1 ?_
  refine tf_lconst (z := 0) hx hb dX10_canBe_2 (by decide) ?_
  refine tf_ldc2 (z := 9) hx hb hown (hts _ kl_X10_142) (by decide) dX10_canBe_3 ?_
  refine tf_calli (va_runS (As := [.long (Int64.ofInt x0), .long (Int64.ofInt 0), .long (Int64.ofInt 9)]) (rest := []) ⟨hx, hb, hml, hown, hts⟩ (c_X10_in l g T (x0) ⟨by omega, by omega⟩ (0) ⟨by omega, by omega⟩ (9) ⟨by omega, by omega⟩) ⟨callB_of 3 hts (gw_ws cm_X10_in) rfl rfl rfl (hts _ (tw1 (i := 5) rfl)) (hts _ (tw11 (i := 3) rfl)) hd_X10_in.2 ⟨Nat.le_trans (by decide) hR1, Nat.le_trans (by decide) hR2⟩, hts _ (tw11 (i := 4) rfl)⟩ (tf_preS hk hW trivial) rfl rfl hl.1 rfl (lv_room (Nat.le_of_ble_eq_true rfl)) dX10_canBe_6 ⟨Nat.zero_le _, Nat.zero_le _⟩) hW (by decide) (fun z1 H1 locs1 hW hF1 hp1 => ?_)
  rcases hp1 with ⟨rfl, h2, h3⟩ | ⟨rfl, h4⟩
  · refine tf_if_eq (tgt := 81) hx hb ⟨by decide, by decide⟩ dX10_canBe_9 (by decide) (fun h5 => ?_) (fun h5 => ?_)
    · exfalso; omega
    · refine lv_iload_n hx hb dX10_canBe_12 rfl (lv_at hl 1 rfl) ?_
      refine tf_i2l hx hb ⟨by omega, by omega⟩ dX10_canBe_13 ?_
      refine tf_lconst (z := 0) hx hb dX10_canBe_14 (by decide) ?_
      refine tf_ldc2 (z := 9) hx hb hown (hts _ kl_X10_142) (by decide) dX10_canBe_15 ?_
      refine tf_calli (va_runS (As := [.long (Int64.ofInt x1), .long (Int64.ofInt 0), .long (Int64.ofInt 9)]) (rest := []) ⟨hx, hb, hml, hown, hts⟩ (c_X10_in l g T (x1) ⟨by omega, by omega⟩ (0) ⟨by omega, by omega⟩ (9) ⟨by omega, by omega⟩) ⟨callB_of 3 hts (gw_ws cm_X10_in) rfl rfl rfl (hts _ (tw1 (i := 5) rfl)) (hts _ (tw11 (i := 3) rfl)) hd_X10_in.2 ⟨Nat.le_trans (by decide) hR1, Nat.le_trans (by decide) hR2⟩, hts _ (tw11 (i := 4) rfl)⟩ (tf_preS hk hW trivial) rfl rfl hl.1 rfl (lv_room (Nat.le_of_ble_eq_true rfl)) dX10_canBe_18 ⟨Nat.zero_le _, Nat.zero_le _⟩) hW (by decide) (fun z6 H6 locs6 hW hF6 hp6 => ?_)
      rcases hp6 with ⟨rfl, h7, h8⟩ | ⟨rfl, h9⟩
      · refine tf_if_eq (tgt := 81) hx hb ⟨by decide, by decide⟩ dX10_canBe_21 (by decide) (fun h10 => ?_) (fun h10 => ?_)
        · exfalso; omega
        · refine lv_iload_n hx hb dX10_canBe_24 rfl (lv_at hl 2 rfl) ?_
          refine tf_i2l hx hb ⟨by omega, by omega⟩ dX10_canBe_25 ?_
          refine tf_lconst (z := 1) hx hb dX10_canBe_26 (by decide) ?_
          refine tf_ldc2 (z := 5) hx hb hown (hts _ kl_X10_144) (by decide) dX10_canBe_27 ?_
          refine tf_calli (va_runS (As := [.long (Int64.ofInt x2), .long (Int64.ofInt 1), .long (Int64.ofInt 5)]) (rest := []) ⟨hx, hb, hml, hown, hts⟩ (c_X10_in l g T (x2) ⟨by omega, by omega⟩ (1) ⟨by omega, by omega⟩ (5) ⟨by omega, by omega⟩) ⟨callB_of 3 hts (gw_ws cm_X10_in) rfl rfl rfl (hts _ (tw1 (i := 5) rfl)) (hts _ (tw11 (i := 3) rfl)) hd_X10_in.2 ⟨Nat.le_trans (by decide) hR1, Nat.le_trans (by decide) hR2⟩, hts _ (tw11 (i := 4) rfl)⟩ (tf_preS hk hW trivial) rfl rfl hl.1 rfl (lv_room (Nat.le_of_ble_eq_true rfl)) dX10_canBe_30 ⟨Nat.zero_le _, Nat.zero_le _⟩) hW (by decide) (fun z11 H11 locs11 hW hF11 hp11 => ?_)
          rcases hp11 with ⟨rfl, h12, h13⟩ | ⟨rfl, h14⟩
          · refine tf_if_eq (tgt := 81) hx hb ⟨by decide, by decide⟩ dX10_canBe_33 (by decide) (fun h15 => ?_) (fun h15 => ?_)
            · exfalso; omega
            · refine lv_iload_n hx hb dX10_canBe_36 rfl (lv_at hl 3 rfl) ?_
              refine tf_i2l hx hb ⟨by omega, by omega⟩ dX10_canBe_37 ?_
              refine tf_lconst (z := 1) hx hb dX10_canBe_38 (by decide) ?_
              refine tf_ldc2 (z := 5) hx hb hown (hts _ kl_X10_144) (by decide) dX10_canBe_39 ?_
              refine tf_calli (va_runS (As := [.long (Int64.ofInt x3), .long (Int64.ofInt 1), .long (Int64.ofInt 5)]) (rest := []) ⟨hx, hb, hml, hown, hts⟩ (c_X10_in l g T (x3) ⟨by omega, by omega⟩ (1) ⟨by omega, by omega⟩ (5) ⟨by omega, by omega⟩) ⟨callB_of 3 hts (gw_ws cm_X10_in) rfl rfl rfl (hts _ (tw1 (i := 5) rfl)) (hts _ (tw11 (i := 3) rfl)) hd_X10_in.2 ⟨Nat.le_trans (by decide) hR1, Nat.le_trans (by decide) hR2⟩, hts _ (tw11 (i := 4) rfl)⟩ (tf_preS hk hW trivial) rfl rfl hl.1 rfl (lv_room (Nat.le_of_ble_eq_true rfl)) dX10_canBe_42 ⟨Nat.zero_le _, Nat.zero_le _⟩) hW (by decide) (fun z16 H16 locs16 hW hF16 hp16 => ?_)
              rcases hp16 with ⟨rfl, h17, h18⟩ | ⟨rfl, h19⟩
              · refine tf_if_eq (tgt := 81) hx hb ⟨by decide, by decide⟩ dX10_canBe_45 (by decide) (fun h20 => ?_) (fun h20 => ?_)
                · exfalso; omega
                · refine lv_iload hx hb dX10_canBe_48 (lv_at hl 4 rfl) ?_
                  refine tf_i2l hx hb ⟨by omega, by omega⟩ dX10_canBe_50 ?_
                  refine tf_lconst (z := 1) hx hb dX10_canBe_51 (by decide) ?_
                  refine tf_ldc2 (z := 40) hx hb hown (hts _ kl_X10_146) (by decide) dX10_canBe_52 ?_
                  refine tf_calli (va_runS (As := [.long (Int64.ofInt x4), .long (Int64.ofInt 1), .long (Int64.ofInt 40)]) (rest := []) ⟨hx, hb, hml, hown, hts⟩ (c_X10_in l g T (x4) ⟨by omega, by omega⟩ (1) ⟨by omega, by omega⟩ (40) ⟨by omega, by omega⟩) ⟨callB_of 3 hts (gw_ws cm_X10_in) rfl rfl rfl (hts _ (tw1 (i := 5) rfl)) (hts _ (tw11 (i := 3) rfl)) hd_X10_in.2 ⟨Nat.le_trans (by decide) hR1, Nat.le_trans (by decide) hR2⟩, hts _ (tw11 (i := 4) rfl)⟩ (tf_preS hk hW trivial) rfl rfl hl.1 rfl (lv_room (Nat.le_of_ble_eq_true rfl)) dX10_canBe_55 ⟨Nat.zero_le _, Nat.zero_le _⟩) hW (by decide) (fun z21 H21 locs21 hW hF21 hp21 => ?_)
                  rcases hp21 with ⟨rfl, h22, h23⟩ | ⟨rfl, h24⟩
                  · refine tf_if_eq (tgt := 81) hx hb ⟨by decide, by decide⟩ dX10_canBe_58 (by decide) (fun h25 => ?_) (fun h25 => ?_)
                    · exfalso; omega
                    · refine lv_iload_n hx hb dX10_canBe_61 rfl (lv_at hl 0 rfl) ?_
                      refine lv_iload_n hx hb dX10_canBe_62 rfl (lv_at hl 2 rfl) ?_
                      refine tf_iadd hx hb dX10_canBe_63 ?_
                      refine tf_bipush hx hb dX10_canBe_64 (by decide) ?_
                      refine tf_icmp_gt (tgt := 81) hx hb ⟨by omega, by omega⟩ ⟨by decide, by decide⟩ dX10_canBe_66 (by decide) (fun h26 => ?_) (fun h26 => ?_)
                      · refine tf_iconst hx hb dX10_canBe_81 ?_
                        exact tf_retz (z := 0) hx hb hr hlocks hQ hW (by omega) (show ((0) = 1 ∧ 0 ≤ x0 ∧ x0 ≤ 9 ∧ 0 ≤ x1 ∧ x1 ≤ 9 ∧ 1 ≤ x2 ∧ x2 ≤ 5 ∧ 1 ≤ x3 ∧ x3 ≤ 5 ∧ 1 ≤ x4 ∧ x4 ≤ 40 ∧ x0 + x2 ≤ 10 ∧ x1 + x3 ≤ 10) ∨ ((0) = 0) by omega) dX10_canBe_82
                      · refine lv_iload_n hx hb dX10_canBe_69 rfl (lv_at hl 1 rfl) ?_
                        refine lv_iload_n hx hb dX10_canBe_70 rfl (lv_at hl 3 rfl) ?_
                        refine tf_iadd hx hb dX10_canBe_71 ?_
                        refine tf_bipush hx hb dX10_canBe_72 (by decide) ?_
                        refine tf_icmp_gt (tgt := 81) hx hb ⟨by omega, by omega⟩ ⟨by decide, by decide⟩ dX10_canBe_74 (by decide) (fun h27 => ?_) (fun h27 => ?_)
                        · refine tf_iconst hx hb dX10_canBe_81 ?_
                          exact tf_retz (z := 0) hx hb hr hlocks hQ hW (by omega) (show ((0) = 1 ∧ 0 ≤ x0 ∧ x0 ≤ 9 ∧ 0 ≤ x1 ∧ x1 ≤ 9 ∧ 1 ≤ x2 ∧ x2 ≤ 5 ∧ 1 ≤ x3 ∧ x3 ≤ 5 ∧ 1 ≤ x4 ∧ x4 ≤ 40 ∧ x0 + x2 ≤ 10 ∧ x1 + x3 ≤ 10) ∨ ((0) = 0) by omega) dX10_canBe_82
                        · refine tf_iconst hx hb dX10_canBe_77 ?_
                          refine lv_goto (tgt := 82) hx hb dX10_canBe_78 (by decide) ?_
                          exact tf_retz (z := 1) hx hb hr hlocks hQ hW (by omega) (show ((1) = 1 ∧ 0 ≤ x0 ∧ x0 ≤ 9 ∧ 0 ≤ x1 ∧ x1 ≤ 9 ∧ 1 ≤ x2 ∧ x2 ≤ 5 ∧ 1 ≤ x3 ∧ x3 ≤ 5 ∧ 1 ≤ x4 ∧ x4 ≤ 40 ∧ x0 + x2 ≤ 10 ∧ x1 + x3 ≤ 10) ∨ ((1) = 0) by omega) dX10_canBe_82
                  · refine tf_if_eq (tgt := 81) hx hb ⟨by decide, by decide⟩ dX10_canBe_58 (by decide) (fun h28 => ?_) (fun h28 => ?_)
                    · refine tf_iconst hx hb dX10_canBe_81 ?_
                      exact tf_retz (z := 0) hx hb hr hlocks hQ hW (by omega) (show ((0) = 1 ∧ 0 ≤ x0 ∧ x0 ≤ 9 ∧ 0 ≤ x1 ∧ x1 ≤ 9 ∧ 1 ≤ x2 ∧ x2 ≤ 5 ∧ 1 ≤ x3 ∧ x3 ≤ 5 ∧ 1 ≤ x4 ∧ x4 ≤ 40 ∧ x0 + x2 ≤ 10 ∧ x1 + x3 ≤ 10) ∨ ((0) = 0) by omega) dX10_canBe_82
                    · exfalso; omega
              · refine tf_if_eq (tgt := 81) hx hb ⟨by decide, by decide⟩ dX10_canBe_45 (by decide) (fun h29 => ?_) (fun h29 => ?_)
                · refine tf_iconst hx hb dX10_canBe_81 ?_
                  exact tf_retz (z := 0) hx hb hr hlocks hQ hW (by omega) (show ((0) = 1 ∧ 0 ≤ x0 ∧ x0 ≤ 9 ∧ 0 ≤ x1 ∧ x1 ≤ 9 ∧ 1 ≤ x2 ∧ x2 ≤ 5 ∧ 1 ≤ x3 ∧ x3 ≤ 5 ∧ 1 ≤ x4 ∧ x4 ≤ 40 ∧ x0 + x2 ≤ 10 ∧ x1 + x3 ≤ 10) ∨ ((0) = 0) by omega) dX10_canBe_82
                · exfalso; omega
          · refine tf_if_eq (tgt := 81) hx hb ⟨by decide, by decide⟩ dX10_canBe_33 (by decide) (fun h30 => ?_) (fun h30 => ?_)
            · refine tf_iconst hx hb dX10_canBe_81 ?_
              exact tf_retz (z := 0) hx hb hr hlocks hQ hW (by omega) (show ((0) = 1 ∧ 0 ≤ x0 ∧ x0 ≤ 9 ∧ 0 ≤ x1 ∧ x1 ≤ 9 ∧ 1 ≤ x2 ∧ x2 ≤ 5 ∧ 1 ≤ x3 ∧ x3 ≤ 5 ∧ 1 ≤ x4 ∧ x4 ≤ 40 ∧ x0 + x2 ≤ 10 ∧ x1 + x3 ≤ 10) ∨ ((0) = 0) by omega) dX10_canBe_82
            · exfalso; omega
      · refine tf_if_eq (tgt := 81) hx hb ⟨by decide, by decide⟩ dX10_canBe_21 (by decide) (fun h31 => ?_) (fun h31 => ?_)
        · refine tf_iconst hx hb dX10_canBe_81 ?_
          exact tf_retz (z := 0) hx hb hr hlocks hQ hW (by omega) (show ((0) = 1 ∧ 0 ≤ x0 ∧ x0 ≤ 9 ∧ 0 ≤ x1 ∧ x1 ≤ 9 ∧ 1 ≤ x2 ∧ x2 ≤ 5 ∧ 1 ≤ x3 ∧ x3 ≤ 5 ∧ 1 ≤ x4 ∧ x4 ≤ 40 ∧ x0 + x2 ≤ 10 ∧ x1 + x3 ≤ 10) ∨ ((0) = 0) by omega) dX10_canBe_82
        · exfalso; omega
  · refine tf_if_eq (tgt := 81) hx hb ⟨by decide, by decide⟩ dX10_canBe_9 (by decide) (fun h32 => ?_) (fun h32 => ?_)
    · refine tf_iconst hx hb dX10_canBe_81 ?_
      exact tf_retz (z := 0) hx hb hr hlocks hQ hW (by omega) (show ((0) = 1 ∧ 0 ≤ x0 ∧ x0 ≤ 9 ∧ 0 ≤ x1 ∧ x1 ≤ 9 ∧ 1 ≤ x2 ∧ x2 ≤ 5 ∧ 1 ≤ x3 ∧ x3 ≤ 5 ∧ 1 ≤ x4 ∧ x4 ≤ 40 ∧ x0 + x2 ≤ 10 ∧ x1 + x3 ≤ 10) ∨ ((0) = 0) by omega) dX10_canBe_82
    · exfalso; omega

abbrev M_X10_isFree : List (Nat × Nat) := []
set_option maxHeartbeats 4000000 in
set_option maxRecDepth 100000 in
theorem c_X10_isFree (l : Launch) (g : tf_G) (T : tf_T) (a0 : Nat) (ha0 : T a0 = some (50, 0)) (x1 : Int) (hp1 : 0 ≤ x1 ∧ x1 ≤ 9) (x2 : Int) (hp2 : 0 ≤ x2 ∧ x2 ≤ 9) (x3 : Int) (hp3 : 1 ≤ x3 ∧ x3 ≤ 5) (x4 : Int) (hp4 : 1 ≤ x4 ∧ x4 ≤ 5) : Met l yX10_isFree (cd_X10_isFree :: wsL_law) ({ frames := 5, cells := 0, slots := 0, locals := 117 }) (tf_P g T [.ref a0, .int (Int32.ofInt x1), .int (Int32.ofInt x2), .int (Int32.ofInt x3), .int (Int32.ofInt x4)] (fun H => True)) (tf_Qi g M_X10_isFree T (fun z _ _ => z = 0 ∨ z = 1)) 0 0 (fun q => tf_B g ≤ q) := by
  refine Met.ofW (cc := cX10_isFree) (maxL := 9) (ret := (some .boolean)) (by decide) rfl ?_
  intro p e s m args below meth c s₁ B hml hv
  obtain ⟨hargs, hk, hW0, hB, hpre⟩ := hv
  have hx := B.exec
  have hb := B.bytes
  have hr := B.returns
  have hts : ∀ w ∈ wsL_law, w.before args s = true := fun w h => atoms_spec (ws := cd_X10_isFree :: wsL_law) B.pre w (List.mem_cons_of_mem _ h)
  have hown : s.vm.findClass RX10 = some m.cls := findClass_of_methodNamed B.named
  have hlocks := B.notSynchronized
  have hK := hk.1
  have hW := tf_n.start (M := M_X10_isFree) hW0 hB
  obtain ⟨Q, hQ⟩ : ∃ q, q = MQ below (tf_Qi g M_X10_isFree T (fun z _ _ => z = 0 ∨ z = 1)) args s 0 0 (fun q => tf_B g ≤ q) := ⟨_, rfl⟩
  rw [← hQ]
  obtain ⟨R, hR⟩ : ∃ q, q = (headSpec (cd_X10_isFree :: wsL_law) ({ frames := 5, cells := 0, slots := 0, locals := 117 })).room := ⟨_, rfl⟩
  rw [← hR]
  have hR1 : 5 ≤ R.frames := by rw [hR]; exact Nat.le_refl _
  have hR2 : 117 ≤ R.locals := by rw [hR]; exact Nat.le_refl _
  have hR3 : 0 ≤ R.cells := by rw [hR]; exact Nat.le_refl _
  have hR4 : 0 ≤ R.slots := by rw [hR]; exact Nat.le_refl _
  have hin := (name_of_methodNamed B.named B.method).1
  clear hR B
  have j_6 : ∀ (n_6 : Nat), 0 ≤ x1 ∧ x1 ≤ 9 → 0 ≤ x2 ∧ x2 ≤ 9 → 1 ≤ x3 ∧ x3 ≤ 5 → 1 ≤ x4 ∧ x4 ≤ 5 → ∀ (x5_6 : Int), 0 ≤ x5_6 ∧ x5_6 ≤ 1 → ∀ (x6_6 : Int), 0 ≤ x6_6 ∧ x6_6 ≤ 16 → (16 - x6_6 + 1 ≤ (n_6 : Int)) → ∀ (H : Heap) (locs : List Loc), tf_n tf_kt g M_X10_isFree T s.heap T H locs → ∀ (ls : Array Slot), lv_has ls 9 [(0, .ref a0), (1, .int (Int32.ofInt x1)), (2, .int (Int32.ofInt x2)), (3, .int (Int32.ofInt x3)), (4, .int (Int32.ofInt x4)), (5, .int (Int32.ofInt x5_6)), (6, .int (Int32.ofInt x6_6))] → W p l e R s m args below meth c H locs 0 0 Q (F0 m 6 ls []) := by
    intro n_6
    induction n_6 with
    | zero =>
      intro hx1_6 hx2_6 hx3_6 hx4_6 x5_6 hx5_6 x6_6 hx6_6 hm_6
      exfalso; omega
    | succ n_6 ih_6 =>
      intro hx1_6 hx2_6 hx3_6 hx4_6 x5_6 hx5_6 x6_6 hx6_6 hm_6 H locs hW  ls hl
      have j_18 : ∀ (n_18 : Nat), 0 ≤ x1 ∧ x1 ≤ 9 → 0 ≤ x2 ∧ x2 ≤ 9 → 1 ≤ x3 ∧ x3 ≤ 5 → 1 ≤ x4 ∧ x4 ≤ 5 → ∀ (x5_18 : Int), 0 ≤ x5_18 ∧ x5_18 ≤ 1 → 0 ≤ x6_6 ∧ x6_6 ≤ 13 → ∀ (x7_18 : Int), 0 ≤ x7_18 ∧ x7_18 ≤ 16 → (16 - x7_18 + 1 ≤ (n_18 : Int)) → ∀ (H : Heap) (locs : List Loc), tf_n tf_kt g M_X10_isFree T s.heap T H locs → ∀ (ls : Array Slot), lv_has ls 9 [(0, .ref a0), (1, .int (Int32.ofInt x1)), (2, .int (Int32.ofInt x2)), (3, .int (Int32.ofInt x3)), (4, .int (Int32.ofInt x4)), (5, .int (Int32.ofInt x5_18)), (6, .int (Int32.ofInt x6_6)), (7, .int (Int32.ofInt x7_18))] → W p l e R s m args below meth c H locs 0 0 Q (F0 m 18 ls []) := by
        intro n_18
        induction n_18 with
        | zero =>
          intro hx1_18 hx2_18 hx3_18 hx4_18 x5_18 hx5_18 hx6_18 x7_18 hx7_18 hm_18
          exfalso; omega
        | succ n_18 ih_18 =>
          intro hx1_18 hx2_18 hx3_18 hx4_18 x5_18 hx5_18 hx6_18 x7_18 hx7_18 hm_18 H locs hW  ls hl
          have j_73 : 0 ≤ x1 ∧ x1 ≤ 9 → 0 ≤ x2 ∧ x2 ≤ 9 → 1 ≤ x3 ∧ x3 ≤ 5 → 1 ≤ x4 ∧ x4 ≤ 5 → 0 ≤ x6_6 ∧ x6_6 ≤ 13 → 0 ≤ x7_18 ∧ x7_18 ≤ 13 → ∀ (y0_73 : Int), 0 ≤ y0_73 ∧ y0_73 ≤ 1 → ∀ (H : Heap) (locs : List Loc), tf_n tf_kt g M_X10_isFree T s.heap T H locs → ∀ (ls : Array Slot), lv_has ls 9 [(0, .ref a0), (1, .int (Int32.ofInt x1)), (2, .int (Int32.ofInt x2)), (3, .int (Int32.ofInt x3)), (4, .int (Int32.ofInt x4)), (6, .int (Int32.ofInt x6_6)), (7, .int (Int32.ofInt x7_18))] → W p l e R s m args below meth c H locs 0 0 Q (F0 m 73 ls [.int (Int32.ofInt y0_73)]) := by
            intro hx1_73 hx2_73 hx3_73 hx4_73 hx6_73 hx7_73 y0_73 hy0_73 H locs hW  ls hl
            refine lv_istore (lv' := [(5, .int (Int32.ofInt y0_73)), (0, .ref a0), (1, .int (Int32.ofInt x1)), (2, .int (Int32.ofInt x2)), (3, .int (Int32.ofInt x3)), (4, .int (Int32.ofInt x4)), (6, .int (Int32.ofInt x6_6)), (7, .int (Int32.ofInt x7_18))]) hx hb dX10_isFree_73 hl (by decide) rfl (fun ls hl => ?_)
            refine lv_iinc (v := Int32.ofInt ((x7_18 + 1))) (lv' := [(7, .int (Int32.ofInt ((x7_18 + 1)))), (5, .int (Int32.ofInt y0_73)), (0, .ref a0), (1, .int (Int32.ofInt x1)), (2, .int (Int32.ofInt x2)), (3, .int (Int32.ofInt x3)), (4, .int (Int32.ofInt x4)), (6, .int (Int32.ofInt x6_6))]) hx hb dX10_isFree_75 hl (k := 7) rfl (Int32.ofInt_add _ _).symm (by decide) rfl (fun ls hl => ?_)
            refine lv_goto (tgt := 18) hx hb dX10_isFree_78 (by decide) ?_
            exact ih_18 ⟨by omega, by omega⟩ ⟨by omega, by omega⟩ ⟨by omega, by omega⟩ ⟨by omega, by omega⟩ (y0_73) ⟨by omega, by omega⟩ ⟨by omega, by omega⟩ ((x7_18 + 1)) ⟨by omega, by omega⟩ (by omega) _ _ hW  _ (lv_sub hl [2, 3, 4, 5, 6, 1, 7, 0] rfl)
          have j_72 : 0 ≤ x1 ∧ x1 ≤ 9 → 0 ≤ x2 ∧ x2 ≤ 9 → 1 ≤ x3 ∧ x3 ≤ 5 → 1 ≤ x4 ∧ x4 ≤ 5 → 0 ≤ x6_6 ∧ x6_6 ≤ 13 → 0 ≤ x7_18 ∧ x7_18 ≤ 13 → ∀ (H : Heap) (locs : List Loc), tf_n tf_kt g M_X10_isFree T s.heap T H locs → ∀ (ls : Array Slot), lv_has ls 9 [(0, .ref a0), (1, .int (Int32.ofInt x1)), (2, .int (Int32.ofInt x2)), (3, .int (Int32.ofInt x3)), (4, .int (Int32.ofInt x4)), (6, .int (Int32.ofInt x6_6)), (7, .int (Int32.ofInt x7_18))] → W p l e R s m args below meth c H locs 0 0 Q (F0 m 72 ls []) := by
            intro hx1_72 hx2_72 hx3_72 hx4_72 hx6_72 hx7_72 H locs hW  ls hl
            refine tf_iconst hx hb dX10_isFree_72 ?_
            exact j_73 ⟨by omega, by omega⟩ ⟨by omega, by omega⟩ ⟨by omega, by omega⟩ ⟨by omega, by omega⟩ ⟨by omega, by omega⟩ ⟨by omega, by omega⟩ (0) ⟨by omega, by omega⟩ _ _ hW  _ (lv_sub hl [0, 1, 2, 3, 4, 5, 6] rfl)
          refine lv_iload hx hb dX10_isFree_18 (lv_at hl 7 rfl) ?_
          refine lv_iload_n hx hb dX10_isFree_20 rfl (lv_at hl 1 rfl) ?_
          refine lv_iload_n hx hb dX10_isFree_21 rfl (lv_at hl 3 rfl) ?_
          refine tf_iadd hx hb dX10_isFree_22 ?_
          refine tf_icmp_ge (tgt := 81) hx hb ⟨by omega, by omega⟩ ⟨by omega, by omega⟩ dX10_isFree_23 (by decide) (fun h1 => ?_) (fun h1 => ?_)
          · refine lv_iinc (v := Int32.ofInt ((x6_6 + 1))) (lv' := [(6, .int (Int32.ofInt ((x6_6 + 1)))), (0, .ref a0), (1, .int (Int32.ofInt x1)), (2, .int (Int32.ofInt x2)), (3, .int (Int32.ofInt x3)), (4, .int (Int32.ofInt x4)), (5, .int (Int32.ofInt x5_18)), (7, .int (Int32.ofInt x7_18))]) hx hb dX10_isFree_81 hl (k := 6) rfl (Int32.ofInt_add _ _).symm (by decide) rfl (fun ls hl => ?_)
            refine lv_goto (tgt := 6) hx hb dX10_isFree_84 (by decide) ?_
            exact ih_6 ⟨by omega, by omega⟩ ⟨by omega, by omega⟩ ⟨by omega, by omega⟩ ⟨by omega, by omega⟩ (x5_18) ⟨by omega, by omega⟩ ((x6_6 + 1)) ⟨by omega, by omega⟩ (by omega) _ _ hW  _ (lv_sub hl [1, 2, 3, 4, 5, 6, 0] rfl)
          · refine tf_bipush hx hb dX10_isFree_26 (by decide) ?_
            refine lv_iload hx hb dX10_isFree_28 (lv_at hl 6 rfl) ?_
            refine tf_imul hx hb dX10_isFree_30 ?_
            refine lv_iload hx hb dX10_isFree_31 (lv_at hl 7 rfl) ?_
            refine tf_iadd hx hb dX10_isFree_33 ?_
            refine lv_istore (lv' := [(8, .int (Int32.ofInt (((10 * x6_6) + x7_18)))), (0, .ref a0), (1, .int (Int32.ofInt x1)), (2, .int (Int32.ofInt x2)), (3, .int (Int32.ofInt x3)), (4, .int (Int32.ofInt x4)), (5, .int (Int32.ofInt x5_18)), (6, .int (Int32.ofInt x6_6)), (7, .int (Int32.ofInt x7_18))]) hx hb dX10_isFree_34 hl (by decide) rfl (fun ls hl => ?_)
            refine lv_iload hx hb dX10_isFree_36 (lv_at hl 6 rfl) ?_
            refine tf_if_eq (tgt := 72) hx hb ⟨by omega, by omega⟩ dX10_isFree_38 (by decide) (fun h2 => ?_) (fun h2 => ?_)
            · exact j_72 ⟨by omega, by omega⟩ ⟨by omega, by omega⟩ ⟨by omega, by omega⟩ ⟨by omega, by omega⟩ ⟨by omega, by omega⟩ ⟨by omega, by omega⟩ _ _ hW  _ (lv_sub hl [1, 2, 3, 4, 5, 7, 8] rfl)
            · refine lv_aload_n hx hb dX10_isFree_41 rfl (lv_at hl 1 rfl) ?_
              refine lv_iload hx hb dX10_isFree_42 (lv_at hl 0 rfl) ?_
              refine tf_calli (va_runV (As := [.int (Int32.ofInt (((10 * x6_6) + x7_18)))]) (rest := []) ⟨hx, hb, hml, hown, hts⟩ (c_X10_isGround l g T a0 ha0 (((10 * x6_6) + x7_18)) ⟨by omega, by omega⟩) (cwV 1 hts gv_X10_148 rfl rfl rfl hd_X10_isGround ⟨Nat.le_trans (by decide) hR1, Nat.le_trans (by decide) hR2⟩) (tf_preV hk hW ha0 (ci := 10) rfl rfl trivial) rfl rfl hl.1 rfl (lv_room (Nat.le_of_ble_eq_true rfl)) dX10_isFree_44 ⟨Nat.zero_le _, Nat.zero_le _⟩) hW (by decide) (fun z3 H3 locs3 hW hF3 hp3 => ?_)
              rcases hp3 with ⟨rfl, h4, h5⟩ | ⟨rfl⟩
              · refine tf_if_eq (tgt := 72) hx hb ⟨by decide, by decide⟩ dX10_isFree_47 (by decide) (fun h6 => ?_) (fun h6 => ?_)
                · exfalso; omega
                · refine lv_aload_n hx hb dX10_isFree_50 rfl (lv_at hl 1 rfl) ?_
                  refine lv_iload hx hb dX10_isFree_51 (lv_at hl 0 rfl) ?_
                  refine tf_calli (va_runV (As := [.int (Int32.ofInt (((10 * x6_6) + x7_18)))]) (rest := []) ⟨hx, hb, hml, hown, hts⟩ (c_X10_isOfWork l g T a0 ha0 (((10 * x6_6) + x7_18)) ⟨by omega, by omega⟩) (cwV 1 hts gv_X10_151 rfl rfl rfl hd_X10_isOfWork ⟨Nat.le_trans (by decide) hR1, Nat.le_trans (by decide) hR2⟩) (tf_preV hk hW ha0 (ci := 10) rfl rfl trivial) rfl rfl hl.1 rfl (lv_room (Nat.le_of_ble_eq_true rfl)) dX10_isFree_53 ⟨Nat.zero_le _, Nat.zero_le _⟩) hW (by decide) (fun z7 H7 locs7 hW hF7 hp7 => ?_)
                  have hp7 : z7 = 0 ∨ z7 = 1 := hp7
                  refine tf_if_ne (tgt := 72) hx hb ⟨by omega, by omega⟩ dX10_isFree_56 (by decide) (fun h8 => ?_) (fun h8 => ?_)
                  · exact j_72 ⟨by omega, by omega⟩ ⟨by omega, by omega⟩ ⟨by omega, by omega⟩ ⟨by omega, by omega⟩ ⟨by omega, by omega⟩ ⟨by omega, by omega⟩ _ _ hW  _ (lv_sub hl [1, 2, 3, 4, 5, 7, 8] rfl)
                  · refine lv_aload_n hx hb dX10_isFree_59 rfl (lv_at hl 1 rfl) ?_
                    refine lv_iload hx hb dX10_isFree_60 (lv_at hl 0 rfl) ?_
                    refine tf_calli (va_runV (As := [.int (Int32.ofInt (((10 * x6_6) + x7_18)))]) (rest := []) ⟨hx, hb, hml, hown, hts⟩ (c_X10_isOfPlace l g T a0 ha0 (((10 * x6_6) + x7_18)) ⟨by omega, by omega⟩) (cwV 1 hts gv_X10_154 rfl rfl rfl hd_X10_isOfPlace ⟨Nat.le_trans (by decide) hR1, Nat.le_trans (by decide) hR2⟩) (tf_preV hk hW ha0 (ci := 10) rfl rfl trivial) rfl rfl hl.1 rfl (lv_room (Nat.le_of_ble_eq_true rfl)) dX10_isFree_62 ⟨Nat.zero_le _, Nat.zero_le _⟩) hW (by decide) (fun z9 H9 locs9 hW hF9 hp9 => ?_)
                    have hp9 : z9 = 0 ∨ z9 = 1 := hp9
                    refine tf_if_ne (tgt := 72) hx hb ⟨by omega, by omega⟩ dX10_isFree_65 (by decide) (fun h10 => ?_) (fun h10 => ?_)
                    · exact j_72 ⟨by omega, by omega⟩ ⟨by omega, by omega⟩ ⟨by omega, by omega⟩ ⟨by omega, by omega⟩ ⟨by omega, by omega⟩ ⟨by omega, by omega⟩ _ _ hW  _ (lv_sub hl [1, 2, 3, 4, 5, 7, 8] rfl)
                    · refine tf_iconst hx hb dX10_isFree_68 ?_
                      refine lv_goto (tgt := 73) hx hb dX10_isFree_69 (by decide) ?_
                      exact j_73 ⟨by omega, by omega⟩ ⟨by omega, by omega⟩ ⟨by omega, by omega⟩ ⟨by omega, by omega⟩ ⟨by omega, by omega⟩ ⟨by omega, by omega⟩ (1) ⟨by omega, by omega⟩ _ _ hW  _ (lv_sub hl [1, 2, 3, 4, 5, 7, 8] rfl)
              · refine tf_if_eq (tgt := 72) hx hb ⟨by decide, by decide⟩ dX10_isFree_47 (by decide) (fun h11 => ?_) (fun h11 => ?_)
                · exact j_72 ⟨by omega, by omega⟩ ⟨by omega, by omega⟩ ⟨by omega, by omega⟩ ⟨by omega, by omega⟩ ⟨by omega, by omega⟩ ⟨by omega, by omega⟩ _ _ hW  _ (lv_sub hl [1, 2, 3, 4, 5, 7, 8] rfl)
                · exfalso; omega
      refine lv_iload hx hb dX10_isFree_6 (lv_at hl 6 rfl) ?_
      refine lv_iload_n hx hb dX10_isFree_8 rfl (lv_at hl 2 rfl) ?_
      refine lv_iload hx hb dX10_isFree_9 (lv_at hl 4 rfl) ?_
      refine tf_iadd hx hb dX10_isFree_11 ?_
      refine tf_icmp_ge (tgt := 87) hx hb ⟨by omega, by omega⟩ ⟨by omega, by omega⟩ dX10_isFree_12 (by decide) (fun h12 => ?_) (fun h12 => ?_)
      · refine lv_iload hx hb dX10_isFree_87 (lv_at hl 5 rfl) ?_
        exact tf_retz (z := x5_6) hx hb hr hlocks hQ hW (by omega) (show (x5_6) = 0 ∨ (x5_6) = 1 by omega) dX10_isFree_89
      · refine lv_iload_n hx hb dX10_isFree_15 rfl (lv_at hl 1 rfl) ?_
        refine lv_istore (lv' := [(7, .int (Int32.ofInt x1)), (0, .ref a0), (1, .int (Int32.ofInt x1)), (2, .int (Int32.ofInt x2)), (3, .int (Int32.ofInt x3)), (4, .int (Int32.ofInt x4)), (5, .int (Int32.ofInt x5_6)), (6, .int (Int32.ofInt x6_6))]) hx hb dX10_isFree_16 hl (by decide) rfl (fun ls hl => ?_)
        exact j_18 ((16 - x1 + 1 : Int)).toNat ⟨by omega, by omega⟩ ⟨by omega, by omega⟩ ⟨by omega, by omega⟩ ⟨by omega, by omega⟩ (x5_6) ⟨by omega, by omega⟩ ⟨by omega, by omega⟩ (x1) ⟨by omega, by omega⟩ (by omega) _ _ hW  _ (lv_sub hl [1, 2, 3, 4, 5, 6, 7, 0] rfl)
  refine tf_enter (As := [.ref a0, .int (Int32.ofInt x1), .int (Int32.ofInt x2), .int (Int32.ofInt x3), .int (Int32.ofInt x4)]) hargs (Nat.le_of_ble_eq_true rfl) (fun ls hl => ?_)
  have hl : lv_has ls 9 [(0, .ref a0), (1, .int (Int32.ofInt x1)), (2, .int (Int32.ofInt x2)), (3, .int (Int32.ofInt x3)), (4, .int (Int32.ofInt x4))] := hl
  refine tf_iconst hx hb dX10_isFree_0 ?_
  refine lv_istore (lv' := [(5, .int (Int32.ofInt 1)), (0, .ref a0), (1, .int (Int32.ofInt x1)), (2, .int (Int32.ofInt x2)), (3, .int (Int32.ofInt x3)), (4, .int (Int32.ofInt x4))]) hx hb dX10_isFree_1 hl (by decide) rfl (fun ls hl => ?_)
  refine lv_iload_n hx hb dX10_isFree_3 rfl (lv_at hl 3 rfl) ?_
  refine lv_istore (lv' := [(6, .int (Int32.ofInt x2)), (5, .int (Int32.ofInt 1)), (0, .ref a0), (1, .int (Int32.ofInt x1)), (2, .int (Int32.ofInt x2)), (3, .int (Int32.ofInt x3)), (4, .int (Int32.ofInt x4))]) hx hb dX10_isFree_4 hl (by decide) rfl (fun ls hl => ?_)
  exact j_6 ((16 - x2 + 1 : Int)).toNat ⟨by omega, by omega⟩ ⟨by omega, by omega⟩ ⟨by omega, by omega⟩ ⟨by omega, by omega⟩ (1) ⟨by omega, by omega⟩ (x2) ⟨by omega, by omega⟩ (by omega) _ _ hW  _ (lv_sub hl [2, 3, 4, 5, 6, 1, 0] rfl)

abbrev M_X10_high : List (Nat × Nat) := [(27, 0), (28, 0), (50, 0), (50, 1)]
set_option maxHeartbeats 4000000 in
set_option maxRecDepth 100000 in
theorem c_X10_high (l : Launch) (g : tf_G) (T : tf_T) (a0 : Nat) (ha0 : T a0 = some (50, 0)) (x1 : Int) (hp1 : (-2147483648) ≤ x1 ∧ x1 ≤ 2147483647) (x2 : Int) (hp2 : (-2147483648) ≤ x2 ∧ x2 ≤ 2147483647) : Met l yX10_high (cd_X10_high :: wsL_law) ({ frames := 3, cells := 0, slots := 0, locals := 70 }) (tf_P g T [.ref a0, .int (Int32.ofInt x1), .int (Int32.ofInt x2)] (fun H => True)) (tf_Qi g M_X10_high T (fun z _ _ => (-2147483648) ≤ z ∧ z ≤ 2147483647)) 0 0 (fun q => tf_B g ≤ q) := by
  refine Met.ofW (cc := cX10_high) (maxL := 3) (ret := (some .int)) (by decide) rfl ?_
  intro p e s m args below meth c s₁ B hml hv
  obtain ⟨hargs, hk, hW0, hB, hpre⟩ := hv
  have hx := B.exec
  have hb := B.bytes
  have hr := B.returns
  have hts : ∀ w ∈ wsL_law, w.before args s = true := fun w h => atoms_spec (ws := cd_X10_high :: wsL_law) B.pre w (List.mem_cons_of_mem _ h)
  have hown : s.vm.findClass RX10 = some m.cls := findClass_of_methodNamed B.named
  have hlocks := B.notSynchronized
  have hK := hk.1
  have hW := tf_n.start (M := M_X10_high) hW0 hB
  obtain ⟨Q, hQ⟩ : ∃ q, q = MQ below (tf_Qi g M_X10_high T (fun z _ _ => (-2147483648) ≤ z ∧ z ≤ 2147483647)) args s 0 0 (fun q => tf_B g ≤ q) := ⟨_, rfl⟩
  rw [← hQ]
  obtain ⟨R, hR⟩ : ∃ q, q = (headSpec (cd_X10_high :: wsL_law) ({ frames := 3, cells := 0, slots := 0, locals := 70 })).room := ⟨_, rfl⟩
  rw [← hR]
  have hR1 : 3 ≤ R.frames := by rw [hR]; exact Nat.le_refl _
  have hR2 : 70 ≤ R.locals := by rw [hR]; exact Nat.le_refl _
  have hR3 : 0 ≤ R.cells := by rw [hR]; exact Nat.le_refl _
  have hR4 : 0 ≤ R.slots := by rw [hR]; exact Nat.le_refl _
  have hin := (name_of_methodNamed B.named B.method).1
  clear hR B
  refine tf_enter (As := [.ref a0, .int (Int32.ofInt x1), .int (Int32.ofInt x2)]) hargs (Nat.le_of_ble_eq_true rfl) (fun ls hl => ?_)
  have hl : lv_has ls 3 [(0, .ref a0), (1, .int (Int32.ofInt x1)), (2, .int (Int32.ofInt x2))] := hl
  refine lv_aload_n hx hb dX10_high_0 rfl (lv_at hl 0 rfl) ?_
  refine tf_iconst hx hb dX10_high_1 ?_
  refine tf_put hx hb hts inlX10 tyX10 tyX10_ok nmX10 hown hK (ci := 10) rfl hW ha0 rfl rfl 0 rfl (by decide) (by decide) (hts _ fl_X10_103) rfl (tf_u0 (by omega) (by omega)) rfl rfl dX10_high_2 (fun H1 locs1 hW hs1 ht1 hq1 => ?_)
  refine lv_iload_n hx hb dX10_high_5 rfl (lv_at hl 2 rfl) ?_
  refine tf_i2l hx hb ⟨by omega, by omega⟩ dX10_high_6 ?_
  refine tf_lconst (z := 1) hx hb dX10_high_7 (by decide) ?_
  refine tf_ldc2 (z := 40) hx hb hown (hts _ kl_X10_146) (by decide) dX10_high_8 ?_
  refine tf_calli (va_runS (As := [.long (Int64.ofInt x2), .long (Int64.ofInt 1), .long (Int64.ofInt 40)]) (rest := []) ⟨hx, hb, hml, hown, hts⟩ (c_X10_in l g T (x2) ⟨by omega, by omega⟩ (1) ⟨by omega, by omega⟩ (40) ⟨by omega, by omega⟩) ⟨callB_of 3 hts (gw_ws cm_X10_in) rfl rfl rfl (hts _ (tw1 (i := 5) rfl)) (hts _ (tw11 (i := 3) rfl)) hd_X10_in.2 ⟨Nat.le_trans (by decide) hR1, Nat.le_trans (by decide) hR2⟩, hts _ (tw11 (i := 4) rfl)⟩ (tf_preS hk hW trivial) rfl rfl hl.1 rfl (lv_room (Nat.le_of_ble_eq_true rfl)) dX10_high_11 ⟨Nat.zero_le _, Nat.zero_le _⟩) hW (by decide) (fun z2 H2 locs2 hW hF2 hp2 => ?_)
  rcases hp2 with ⟨rfl, h3, h4⟩ | ⟨rfl, h5⟩
  · refine tf_if_ne (tgt := 23) hx hb ⟨by decide, by decide⟩ dX10_high_14 (by decide) (fun h6 => ?_) (fun h6 => ?_)
    · refine lv_aload_n hx hb dX10_high_23 rfl (lv_at hl 0 rfl) ?_
      refine lv_iload_n hx hb dX10_high_24 rfl (lv_at hl 1 rfl) ?_
      refine tf_calli (va_runV (As := [.int (Int32.ofInt x1)]) (rest := []) ⟨hx, hb, hml, hown, hts⟩ (c_X10_isTower l g T a0 ha0 (x1) ⟨by omega, by omega⟩) (cwV 1 hts gv_X10_165 rfl rfl rfl hd_X10_isTower ⟨Nat.le_trans (by decide) hR1, Nat.le_trans (by decide) hR2⟩) (tf_preV hk hW ha0 (ci := 10) rfl rfl trivial) rfl rfl hl.1 rfl (lv_room (Nat.le_of_ble_eq_true rfl)) dX10_high_25 ⟨Nat.zero_le _, Nat.zero_le _⟩) hW (by decide) (fun z7 H7 locs7 hW hF7 hp7 => ?_)
      rcases hp7 with ⟨rfl, h8, h9⟩ | ⟨rfl⟩
      · refine tf_if_eq (tgt := 47) hx hb ⟨by decide, by decide⟩ dX10_high_28 (by decide) (fun h10 => ?_) (fun h10 => ?_)
        · exfalso; omega
        · refine lv_aload_n hx hb dX10_high_31 rfl (lv_at hl 0 rfl) ?_
          refine tf_bipush hx hb dX10_high_32 (by decide) ?_
          refine tf_iconst hx hb dX10_high_34 ?_
          refine lv_iload_n hx hb dX10_high_35 rfl (lv_at hl 1 rfl) ?_
          refine tf_imul hx hb dX10_high_36 ?_
          refine tf_iadd hx hb dX10_high_37 ?_
          refine tf_iconst hx hb dX10_high_38 ?_
          refine tf_iadd hx hb dX10_high_39 ?_
          refine lv_iload_n hx hb dX10_high_40 rfl (lv_at hl 2 rfl) ?_
          refine tf_calli (va_runV (As := [.int (Int32.ofInt (((11 + (5 * x1)) + 4))), .int (Int32.ofInt x2)]) (rest := []) ⟨hx, hb, hml, hown, hts⟩ (c_X10_change l g T a0 ha0 (((11 + (5 * x1)) + 4)) ⟨by omega, by omega⟩ (x2) ⟨by omega, by omega⟩ (by omega)) (cwV 2 hts gv_X10_168 rfl rfl rfl hd_X10_change ⟨Nat.le_trans (by decide) hR1, Nat.le_trans (by decide) hR2⟩) (tf_preV hk hW ha0 (ci := 10) rfl rfl trivial) rfl rfl hl.1 rfl (lv_room (Nat.le_of_ble_eq_true rfl)) dX10_high_41 ⟨Nat.zero_le _, Nat.zero_le _⟩) hW (by decide) (fun z11 H11 locs11 hW hF11 hp11 => ?_)
          obtain ⟨hp11_0, hp11_1⟩ := hp11
          refine lv_goto (tgt := 53) hx hb dX10_high_44 (by decide) ?_
          exact tf_reti (z := z11) hx hb hr hlocks hQ hW (show (-2147483648) ≤ (z11) ∧ (z11) ≤ 2147483647 by omega) dX10_high_53
      · refine tf_if_eq (tgt := 47) hx hb ⟨by decide, by decide⟩ dX10_high_28 (by decide) (fun h12 => ?_) (fun h12 => ?_)
        · refine lv_aload_n hx hb dX10_high_47 rfl (lv_at hl 0 rfl) ?_
          refine tf_bipush hx hb dX10_high_48 (by decide) ?_
          refine tf_calli (va_runV (As := [.int (Int32.ofInt ((-2)))]) (rest := []) ⟨hx, hb, hml, hown, hts⟩ (c_X10_tell l g T a0 ha0 ((-2)) ⟨by omega, by omega⟩) (cwV 1 hts gv_X10_117 rfl rfl rfl hd_X10_tell ⟨Nat.le_trans (by decide) hR1, Nat.le_trans (by decide) hR2⟩) (tf_preV hk hW ha0 (ci := 10) rfl rfl trivial) rfl rfl hl.1 rfl (lv_room (Nat.le_of_ble_eq_true rfl)) dX10_high_50 ⟨Nat.zero_le _, Nat.zero_le _⟩) hW (by decide) (fun z13 H13 locs13 hW hF13 hp13 => ?_)
          obtain ⟨hp13_0, hp13_1, hp13_2⟩ := hp13
          exact tf_reti (z := z13) hx hb hr hlocks hQ hW (show (-2147483648) ≤ (z13) ∧ (z13) ≤ 2147483647 by omega) dX10_high_53
        · exfalso; omega
    · exfalso; omega
  · refine tf_if_ne (tgt := 23) hx hb ⟨by decide, by decide⟩ dX10_high_14 (by decide) (fun h14 => ?_) (fun h14 => ?_)
    · exfalso; omega
    · refine lv_aload_n hx hb dX10_high_17 rfl (lv_at hl 0 rfl) ?_
      refine tf_iconst hx hb dX10_high_18 ?_
      refine tf_calli (va_runV (As := [.int (Int32.ofInt ((-1)))]) (rest := []) ⟨hx, hb, hml, hown, hts⟩ (c_X10_tell l g T a0 ha0 ((-1)) ⟨by omega, by omega⟩) (cwV 1 hts gv_X10_117 rfl rfl rfl hd_X10_tell ⟨Nat.le_trans (by decide) hR1, Nat.le_trans (by decide) hR2⟩) (tf_preV hk hW ha0 (ci := 10) rfl rfl trivial) rfl rfl hl.1 rfl (lv_room (Nat.le_of_ble_eq_true rfl)) dX10_high_19 ⟨Nat.zero_le _, Nat.zero_le _⟩) hW (by decide) (fun z15 H15 locs15 hW hF15 hp15 => ?_)
      obtain ⟨hp15_0, hp15_1, hp15_2⟩ := hp15
      exact tf_reti (z := z15) hx hb hr hlocks hQ hW (show (-2147483648) ≤ (z15) ∧ (z15) ≤ 2147483647 by omega) dX10_high_22

abbrev M_X10_at : List (Nat × Nat) := [(50, 0)]
set_option maxHeartbeats 4000000 in
set_option maxRecDepth 100000 in
theorem c_X10_at (l : Launch) (g : tf_G) (T : tf_T) (a0 : Nat) (ha0 : T a0 = some (50, 0)) (x1 : Int) (hp1 : (-2147483648) ≤ x1 ∧ x1 ≤ 2147483647) : Met l yX10_at (cd_X10_at :: wsL_law) ({ frames := 4, cells := 0, slots := 0, locals := 96 }) (tf_P g T [.ref a0, .int (Int32.ofInt x1)] (fun H => True)) (tf_Qi g M_X10_at T (fun z _ _ => (-2147483648) ≤ z ∧ z ≤ 2147483647)) 0 0 (fun q => tf_B g ≤ q) := by
  refine Met.ofW (cc := cX10_at) (maxL := 2) (ret := (some .int)) (by decide) rfl ?_
  intro p e s m args below meth c s₁ B hml hv
  obtain ⟨hargs, hk, hW0, hB, hpre⟩ := hv
  have hx := B.exec
  have hb := B.bytes
  have hr := B.returns
  have hts : ∀ w ∈ wsL_law, w.before args s = true := fun w h => atoms_spec (ws := cd_X10_at :: wsL_law) B.pre w (List.mem_cons_of_mem _ h)
  have hown : s.vm.findClass RX10 = some m.cls := findClass_of_methodNamed B.named
  have hlocks := B.notSynchronized
  have hK := hk.1
  have hW := tf_n.start (M := M_X10_at) hW0 hB
  obtain ⟨Q, hQ⟩ : ∃ q, q = MQ below (tf_Qi g M_X10_at T (fun z _ _ => (-2147483648) ≤ z ∧ z ≤ 2147483647)) args s 0 0 (fun q => tf_B g ≤ q) := ⟨_, rfl⟩
  rw [← hQ]
  obtain ⟨R, hR⟩ : ∃ q, q = (headSpec (cd_X10_at :: wsL_law) ({ frames := 4, cells := 0, slots := 0, locals := 96 })).room := ⟨_, rfl⟩
  rw [← hR]
  have hR1 : 4 ≤ R.frames := by rw [hR]; exact Nat.le_refl _
  have hR2 : 96 ≤ R.locals := by rw [hR]; exact Nat.le_refl _
  have hR3 : 0 ≤ R.cells := by rw [hR]; exact Nat.le_refl _
  have hR4 : 0 ≤ R.slots := by rw [hR]; exact Nat.le_refl _
  have hin := (name_of_methodNamed B.named B.method).1
  clear hR B
  refine tf_enter (As := [.ref a0, .int (Int32.ofInt x1)]) hargs (Nat.le_of_ble_eq_true rfl) (fun ls hl => ?_)
  have hl : lv_has ls 2 [(0, .ref a0), (1, .int (Int32.ofInt x1))] := hl
  refine lv_aload_n hx hb dX10_at_0 rfl (lv_at hl 0 rfl) ?_
  refine tf_iconst hx hb dX10_at_1 ?_
  refine tf_put hx hb hts inlX10 tyX10 tyX10_ok nmX10 hown hK (ci := 10) rfl hW ha0 rfl rfl 0 rfl (by decide) (by decide) (hts _ fl_X10_103) rfl (tf_u0 (by omega) (by omega)) rfl rfl dX10_at_2 (fun H1 locs1 hW hs1 ht1 hq1 => ?_)
  refine lv_iload_n hx hb dX10_at_5 rfl (lv_at hl 1 rfl) ?_
  refine tf_calli (va_runS (As := [.int (Int32.ofInt x1)]) (rest := []) ⟨hx, hb, hml, hown, hts⟩ (c_X10_isCell l g T (x1) ⟨by omega, by omega⟩) ⟨callB_of 1 hts (gw_ws cm_X10_isCell) rfl rfl rfl (hts _ (tw1 (i := 5) rfl)) (hts _ (tw11 (i := 19) rfl)) hd_X10_isCell.2 ⟨Nat.le_trans (by decide) hR1, Nat.le_trans (by decide) hR2⟩, hts _ (tw11 (i := 20) rfl)⟩ (tf_preS hk hW trivial) rfl rfl hl.1 rfl (lv_room (Nat.le_of_ble_eq_true rfl)) dX10_at_6 ⟨Nat.zero_le _, Nat.zero_le _⟩) hW (by decide) (fun z2 H2 locs2 hW hF2 hp2 => ?_)
  rcases hp2 with ⟨rfl, h3, h4⟩ | ⟨rfl, h5⟩
  · refine tf_if_eq (tgt := 20) hx hb ⟨by decide, by decide⟩ dX10_at_9 (by decide) (fun h6 => ?_) (fun h6 => ?_)
    · exfalso; omega
    · refine lv_aload_n hx hb dX10_at_12 rfl (lv_at hl 0 rfl) ?_
      refine lv_iload_n hx hb dX10_at_13 rfl (lv_at hl 1 rfl) ?_
      refine tf_calli (va_runV (As := [.int (Int32.ofInt x1)]) (rest := []) ⟨hx, hb, hml, hown, hts⟩ (c_X10_towerOn l g T a0 ha0 (x1) ⟨by omega, by omega⟩) (cwV 1 hts gv_X10_136 rfl rfl rfl hd_X10_towerOn ⟨Nat.le_trans (by decide) hR1, Nat.le_trans (by decide) hR2⟩) (tf_preV hk hW ha0 (ci := 10) rfl rfl trivial) rfl rfl hl.1 rfl (lv_room (Nat.le_of_ble_eq_true rfl)) dX10_at_14 ⟨Nat.zero_le _, Nat.zero_le _⟩) hW (by decide) (fun z7 H7 locs7 hW hF7 hp7 => ?_)
      obtain ⟨hp7_0, hp7_1⟩ := hp7
      refine lv_goto (tgt := 21) hx hb dX10_at_17 (by decide) ?_
      exact tf_reti (z := z7) hx hb hr hlocks hQ hW (show (-2147483648) ≤ (z7) ∧ (z7) ≤ 2147483647 by omega) dX10_at_21
  · refine tf_if_eq (tgt := 20) hx hb ⟨by decide, by decide⟩ dX10_at_9 (by decide) (fun h8 => ?_) (fun h8 => ?_)
    · refine tf_iconst hx hb dX10_at_20 ?_
      exact tf_reti (z := (-1)) hx hb hr hlocks hQ hW (show (-2147483648) ≤ ((-1)) ∧ ((-1)) ≤ 2147483647 by omega) dX10_at_21
    · exfalso; omega

abbrev M_X10_of : List (Nat × Nat) := [(50, 0)]
set_option maxHeartbeats 4000000 in
set_option maxRecDepth 100000 in
theorem c_X10_of (l : Launch) (g : tf_G) (T : tf_T) (a0 : Nat) (ha0 : T a0 = some (50, 0)) (x1 : Int) (hp1 : (-2147483648) ≤ x1 ∧ x1 ≤ 2147483647) (x2 : Int) (hp2 : (-2147483648) ≤ x2 ∧ x2 ≤ 2147483647) : Met l yX10_of (cd_X10_of :: wsL_law) ({ frames := 5, cells := 0, slots := 0, locals := 117 }) (tf_P g T [.ref a0, .int (Int32.ofInt x1), .int (Int32.ofInt x2)] (fun H => True)) (tf_Qi g M_X10_of T (fun z _ _ => (-2147483648) ≤ z ∧ z ≤ 2147483647)) 0 0 (fun q => tf_B g ≤ q) := by
  refine Met.ofW (cc := cX10_of) (maxL := 3) (ret := (some .int)) (by decide) rfl ?_
  intro p e s m args below meth c s₁ B hml hv
  obtain ⟨hargs, hk, hW0, hB, hpre⟩ := hv
  have hx := B.exec
  have hb := B.bytes
  have hr := B.returns
  have hts : ∀ w ∈ wsL_law, w.before args s = true := fun w h => atoms_spec (ws := cd_X10_of :: wsL_law) B.pre w (List.mem_cons_of_mem _ h)
  have hown : s.vm.findClass RX10 = some m.cls := findClass_of_methodNamed B.named
  have hlocks := B.notSynchronized
  have hK := hk.1
  have hW := tf_n.start (M := M_X10_of) hW0 hB
  obtain ⟨Q, hQ⟩ : ∃ q, q = MQ below (tf_Qi g M_X10_of T (fun z _ _ => (-2147483648) ≤ z ∧ z ≤ 2147483647)) args s 0 0 (fun q => tf_B g ≤ q) := ⟨_, rfl⟩
  rw [← hQ]
  obtain ⟨R, hR⟩ : ∃ q, q = (headSpec (cd_X10_of :: wsL_law) ({ frames := 5, cells := 0, slots := 0, locals := 117 })).room := ⟨_, rfl⟩
  rw [← hR]
  have hR1 : 5 ≤ R.frames := by rw [hR]; exact Nat.le_refl _
  have hR2 : 117 ≤ R.locals := by rw [hR]; exact Nat.le_refl _
  have hR3 : 0 ≤ R.cells := by rw [hR]; exact Nat.le_refl _
  have hR4 : 0 ≤ R.slots := by rw [hR]; exact Nat.le_refl _
  have hin := (name_of_methodNamed B.named B.method).1
  clear hR B
  refine tf_enter (As := [.ref a0, .int (Int32.ofInt x1), .int (Int32.ofInt x2)]) hargs (Nat.le_of_ble_eq_true rfl) (fun ls hl => ?_)
  have hl : lv_has ls 3 [(0, .ref a0), (1, .int (Int32.ofInt x1)), (2, .int (Int32.ofInt x2))] := hl
  refine lv_aload_n hx hb dX10_of_0 rfl (lv_at hl 0 rfl) ?_
  refine tf_iconst hx hb dX10_of_1 ?_
  refine tf_put hx hb hts inlX10 tyX10 tyX10_ok nmX10 hown hK (ci := 10) rfl hW ha0 rfl rfl 0 rfl (by decide) (by decide) (hts _ fl_X10_103) rfl (tf_u0 (by omega) (by omega)) rfl rfl dX10_of_2 (fun H1 locs1 hW hs1 ht1 hq1 => ?_)
  refine lv_aload_n hx hb dX10_of_5 rfl (lv_at hl 0 rfl) ?_
  refine lv_iload_n hx hb dX10_of_6 rfl (lv_at hl 1 rfl) ?_
  refine tf_calli (va_runV (As := [.int (Int32.ofInt x1)]) (rest := []) ⟨hx, hb, hml, hown, hts⟩ (c_X10_isGround l g T a0 ha0 (x1) ⟨by omega, by omega⟩) (cwV 1 hts gv_X10_148 rfl rfl rfl hd_X10_isGround ⟨Nat.le_trans (by decide) hR1, Nat.le_trans (by decide) hR2⟩) (tf_preV hk hW ha0 (ci := 10) rfl rfl trivial) rfl rfl hl.1 rfl (lv_room (Nat.le_of_ble_eq_true rfl)) dX10_of_7 ⟨Nat.zero_le _, Nat.zero_le _⟩) hW (by decide) (fun z2 H2 locs2 hW hF2 hp2 => ?_)
  rcases hp2 with ⟨rfl, h3, h4⟩ | ⟨rfl⟩
  · refine tf_if_eq (tgt := 42) hx hb ⟨by decide, by decide⟩ dX10_of_10 (by decide) (fun h5 => ?_) (fun h5 => ?_)
    · exfalso; omega
    · refine lv_iload_n hx hb dX10_of_13 rfl (lv_at hl 2 rfl) ?_
      refine tf_i2l hx hb ⟨by omega, by omega⟩ dX10_of_14 ?_
      refine tf_lconst (z := 0) hx hb dX10_of_15 (by decide) ?_
      refine tf_ldc2 (z := 2) hx hb hown (hts _ kl_X10_171) (by decide) dX10_of_16 ?_
      refine tf_calli (va_runS (As := [.long (Int64.ofInt x2), .long (Int64.ofInt 0), .long (Int64.ofInt 2)]) (rest := []) ⟨hx, hb, hml, hown, hts⟩ (c_X10_in l g T (x2) ⟨by omega, by omega⟩ (0) ⟨by omega, by omega⟩ (2) ⟨by omega, by omega⟩) ⟨callB_of 3 hts (gw_ws cm_X10_in) rfl rfl rfl (hts _ (tw1 (i := 5) rfl)) (hts _ (tw11 (i := 3) rfl)) hd_X10_in.2 ⟨Nat.le_trans (by decide) hR1, Nat.le_trans (by decide) hR2⟩, hts _ (tw11 (i := 4) rfl)⟩ (tf_preS hk hW trivial) rfl rfl hl.1 rfl (lv_room (Nat.le_of_ble_eq_true rfl)) dX10_of_19 ⟨Nat.zero_le _, Nat.zero_le _⟩) hW (by decide) (fun z6 H6 locs6 hW hF6 hp6 => ?_)
      rcases hp6 with ⟨rfl, h7, h8⟩ | ⟨rfl, h9⟩
      · refine tf_if_eq (tgt := 42) hx hb ⟨by decide, by decide⟩ dX10_of_22 (by decide) (fun h10 => ?_) (fun h10 => ?_)
        · exfalso; omega
        · refine lv_aload_n hx hb dX10_of_25 rfl (lv_at hl 0 rfl) ?_
          refine tf_get hx hb hts inlX10 hown hK (ci := 10) rfl hW ha0 rfl 3 rfl (by decide) (hts _ fl_X10_13) dX10_of_26 (fun v11 hv11 hsv11 => ?_)
          obtain ⟨ad12, rfl, had12⟩ := tf_v1 hv11
          refine tf_bipush hx hb dX10_of_29 (by decide) ?_
          refine tf_bipush hx hb dX10_of_31 (by decide) ?_
          refine lv_iload_n hx hb dX10_of_33 rfl (lv_at hl 2 rfl) ?_
          refine tf_imul hx hb dX10_of_34 ?_
          refine tf_iadd hx hb dX10_of_35 ?_
          refine lv_iload_n hx hb dX10_of_36 rfl (lv_at hl 1 rfl) ?_
          refine tf_iadd hx hb dX10_of_37 ?_
          refine tf_iald (t0 := 0) hx hb hK hW had12 rfl rfl (by omega) (by omega) dX10_of_38 (fun v13 hv13 hsv13 => ?_)
          obtain ⟨z14, rfl, hz14⟩ := tf_v0 hv13
          refine lv_goto (tgt := 43) hx hb dX10_of_39 (by decide) ?_
          exact tf_reti (z := z14) hx hb hr hlocks hQ hW (show (-2147483648) ≤ (z14) ∧ (z14) ≤ 2147483647 by omega) dX10_of_43
      · refine tf_if_eq (tgt := 42) hx hb ⟨by decide, by decide⟩ dX10_of_22 (by decide) (fun h15 => ?_) (fun h15 => ?_)
        · refine tf_iconst hx hb dX10_of_42 ?_
          exact tf_reti (z := (-1)) hx hb hr hlocks hQ hW (show (-2147483648) ≤ ((-1)) ∧ ((-1)) ≤ 2147483647 by omega) dX10_of_43
        · exfalso; omega
  · refine tf_if_eq (tgt := 42) hx hb ⟨by decide, by decide⟩ dX10_of_10 (by decide) (fun h16 => ?_) (fun h16 => ?_)
    · refine tf_iconst hx hb dX10_of_42 ?_
      exact tf_reti (z := (-1)) hx hb hr hlocks hQ hW (show (-2147483648) ≤ ((-1)) ∧ ((-1)) ≤ 2147483647 by omega) dX10_of_43
    · exfalso; omega

abbrev M_X10_torn : List (Nat × Nat) := [(50, 0)]
set_option maxHeartbeats 4000000 in
set_option maxRecDepth 100000 in
theorem c_X10_torn (l : Launch) (g : tf_G) (T : tf_T) (a0 : Nat) (ha0 : T a0 = some (50, 0)) : Met l yX10_torn (cd_X10_torn :: wsL_law) ({ frames := 1, cells := 0, slots := 0, locals := 24 }) (tf_P g T [.ref a0] (fun H => True)) (tf_Qi g M_X10_torn T (fun z _ _ => (-2147483648) ≤ z ∧ z ≤ 2147483647)) 0 0 (fun q => tf_B g ≤ q) := by
  refine Met.ofW (cc := cX10_torn) (maxL := 1) (ret := (some .int)) (by decide) rfl ?_
  intro p e s m args below meth c s₁ B hml hv
  obtain ⟨hargs, hk, hW0, hB, hpre⟩ := hv
  have hx := B.exec
  have hb := B.bytes
  have hr := B.returns
  have hts : ∀ w ∈ wsL_law, w.before args s = true := fun w h => atoms_spec (ws := cd_X10_torn :: wsL_law) B.pre w (List.mem_cons_of_mem _ h)
  have hown : s.vm.findClass RX10 = some m.cls := findClass_of_methodNamed B.named
  have hlocks := B.notSynchronized
  have hK := hk.1
  have hW := tf_n.start (M := M_X10_torn) hW0 hB
  obtain ⟨Q, hQ⟩ : ∃ q, q = MQ below (tf_Qi g M_X10_torn T (fun z _ _ => (-2147483648) ≤ z ∧ z ≤ 2147483647)) args s 0 0 (fun q => tf_B g ≤ q) := ⟨_, rfl⟩
  rw [← hQ]
  obtain ⟨R, hR⟩ : ∃ q, q = (headSpec (cd_X10_torn :: wsL_law) ({ frames := 1, cells := 0, slots := 0, locals := 24 })).room := ⟨_, rfl⟩
  rw [← hR]
  have hR1 : 1 ≤ R.frames := by rw [hR]; exact Nat.le_refl _
  have hR2 : 24 ≤ R.locals := by rw [hR]; exact Nat.le_refl _
  have hR3 : 0 ≤ R.cells := by rw [hR]; exact Nat.le_refl _
  have hR4 : 0 ≤ R.slots := by rw [hR]; exact Nat.le_refl _
  have hin := (name_of_methodNamed B.named B.method).1
  clear hR B
  refine tf_enter (As := [.ref a0]) hargs (Nat.le_of_ble_eq_true rfl) (fun ls hl => ?_)
  have hl : lv_has ls 1 [(0, .ref a0)] := hl
  refine lv_aload_n hx hb dX10_torn_0 rfl (lv_at hl 0 rfl) ?_
  refine tf_iconst hx hb dX10_torn_1 ?_
  refine tf_put hx hb hts inlX10 tyX10 tyX10_ok nmX10 hown hK (ci := 10) rfl hW ha0 rfl rfl 0 rfl (by decide) (by decide) (hts _ fl_X10_103) rfl (tf_u0 (by omega) (by omega)) rfl rfl dX10_torn_2 (fun H1 locs1 hW hs1 ht1 hq1 => ?_)
  refine lv_aload_n hx hb dX10_torn_5 rfl (lv_at hl 0 rfl) ?_
  refine tf_get hx hb hts inlX10 hown hK (ci := 10) rfl hW ha0 rfl 6 rfl (by decide) (hts _ fl_X10_186) dX10_torn_6 (fun v2 hv2 hsv2 => ?_)
  obtain ⟨z3, rfl, hz3⟩ := tf_v0 hv2
  exact tf_reti (z := z3) hx hb hr hlocks hQ hW (show (-2147483648) ≤ (z3) ∧ (z3) ≤ 2147483647 by omega) dX10_torn_9

abbrev M_X10_fault : List (Nat × Nat) := [(50, 0)]
set_option maxHeartbeats 4000000 in
set_option maxRecDepth 100000 in
theorem c_X10_fault (l : Launch) (g : tf_G) (T : tf_T) (a0 : Nat) (ha0 : T a0 = some (50, 0)) : Met l yX10_fault (cd_X10_fault :: wsL_law) ({ frames := 1, cells := 0, slots := 0, locals := 24 }) (tf_P g T [.ref a0] (fun H => True)) (tf_Qi g M_X10_fault T (fun z _ _ => (-2147483648) ≤ z ∧ z ≤ 2147483647)) 0 0 (fun q => tf_B g ≤ q) := by
  refine Met.ofW (cc := cX10_fault) (maxL := 1) (ret := (some .int)) (by decide) rfl ?_
  intro p e s m args below meth c s₁ B hml hv
  obtain ⟨hargs, hk, hW0, hB, hpre⟩ := hv
  have hx := B.exec
  have hb := B.bytes
  have hr := B.returns
  have hts : ∀ w ∈ wsL_law, w.before args s = true := fun w h => atoms_spec (ws := cd_X10_fault :: wsL_law) B.pre w (List.mem_cons_of_mem _ h)
  have hown : s.vm.findClass RX10 = some m.cls := findClass_of_methodNamed B.named
  have hlocks := B.notSynchronized
  have hK := hk.1
  have hW := tf_n.start (M := M_X10_fault) hW0 hB
  obtain ⟨Q, hQ⟩ : ∃ q, q = MQ below (tf_Qi g M_X10_fault T (fun z _ _ => (-2147483648) ≤ z ∧ z ≤ 2147483647)) args s 0 0 (fun q => tf_B g ≤ q) := ⟨_, rfl⟩
  rw [← hQ]
  obtain ⟨R, hR⟩ : ∃ q, q = (headSpec (cd_X10_fault :: wsL_law) ({ frames := 1, cells := 0, slots := 0, locals := 24 })).room := ⟨_, rfl⟩
  rw [← hR]
  have hR1 : 1 ≤ R.frames := by rw [hR]; exact Nat.le_refl _
  have hR2 : 24 ≤ R.locals := by rw [hR]; exact Nat.le_refl _
  have hR3 : 0 ≤ R.cells := by rw [hR]; exact Nat.le_refl _
  have hR4 : 0 ≤ R.slots := by rw [hR]; exact Nat.le_refl _
  have hin := (name_of_methodNamed B.named B.method).1
  clear hR B
  refine tf_enter (As := [.ref a0]) hargs (Nat.le_of_ble_eq_true rfl) (fun ls hl => ?_)
  have hl : lv_has ls 1 [(0, .ref a0)] := hl
  refine lv_aload_n hx hb dX10_fault_0 rfl (lv_at hl 0 rfl) ?_
  refine tf_iconst hx hb dX10_fault_1 ?_
  refine tf_put hx hb hts inlX10 tyX10 tyX10_ok nmX10 hown hK (ci := 10) rfl hW ha0 rfl rfl 0 rfl (by decide) (by decide) (hts _ fl_X10_103) rfl (tf_u0 (by omega) (by omega)) rfl rfl dX10_fault_2 (fun H1 locs1 hW hs1 ht1 hq1 => ?_)
  refine lv_aload_n hx hb dX10_fault_5 rfl (lv_at hl 0 rfl) ?_
  refine tf_get hx hb hts inlX10 hown hK (ci := 10) rfl hW ha0 rfl 13 rfl (by decide) (hts _ fl_X10_26) dX10_fault_6 (fun v2 hv2 hsv2 => ?_)
  obtain ⟨z3, rfl, hz3⟩ := tf_v0 hv2
  exact tf_reti (z := z3) hx hb hr hlocks hQ hW (show (-2147483648) ≤ (z3) ∧ (z3) ≤ 2147483647 by omega) dX10_fault_9

abbrev M_X10_status : List (Nat × Nat) := [(50, 0)]
set_option maxHeartbeats 4000000 in
set_option maxRecDepth 100000 in
theorem c_X10_status (l : Launch) (g : tf_G) (T : tf_T) (a0 : Nat) (ha0 : T a0 = some (50, 0)) : Met l yX10_status (cd_X10_status :: wsL_law) ({ frames := 1, cells := 0, slots := 0, locals := 24 }) (tf_P g T [.ref a0] (fun H => True)) (tf_Qi g M_X10_status T (fun z _ _ => (-2147483648) ≤ z ∧ z ≤ 2147483647)) 0 0 (fun q => tf_B g ≤ q) := by
  refine Met.ofW (cc := cX10_status) (maxL := 1) (ret := (some .int)) (by decide) rfl ?_
  intro p e s m args below meth c s₁ B hml hv
  obtain ⟨hargs, hk, hW0, hB, hpre⟩ := hv
  have hx := B.exec
  have hb := B.bytes
  have hr := B.returns
  have hts : ∀ w ∈ wsL_law, w.before args s = true := fun w h => atoms_spec (ws := cd_X10_status :: wsL_law) B.pre w (List.mem_cons_of_mem _ h)
  have hown : s.vm.findClass RX10 = some m.cls := findClass_of_methodNamed B.named
  have hlocks := B.notSynchronized
  have hK := hk.1
  have hW := tf_n.start (M := M_X10_status) hW0 hB
  obtain ⟨Q, hQ⟩ : ∃ q, q = MQ below (tf_Qi g M_X10_status T (fun z _ _ => (-2147483648) ≤ z ∧ z ≤ 2147483647)) args s 0 0 (fun q => tf_B g ≤ q) := ⟨_, rfl⟩
  rw [← hQ]
  obtain ⟨R, hR⟩ : ∃ q, q = (headSpec (cd_X10_status :: wsL_law) ({ frames := 1, cells := 0, slots := 0, locals := 24 })).room := ⟨_, rfl⟩
  rw [← hR]
  have hR1 : 1 ≤ R.frames := by rw [hR]; exact Nat.le_refl _
  have hR2 : 24 ≤ R.locals := by rw [hR]; exact Nat.le_refl _
  have hR3 : 0 ≤ R.cells := by rw [hR]; exact Nat.le_refl _
  have hR4 : 0 ≤ R.slots := by rw [hR]; exact Nat.le_refl _
  have hin := (name_of_methodNamed B.named B.method).1
  clear hR B
  refine tf_enter (As := [.ref a0]) hargs (Nat.le_of_ble_eq_true rfl) (fun ls hl => ?_)
  have hl : lv_has ls 1 [(0, .ref a0)] := hl
  refine lv_aload_n hx hb dX10_status_0 rfl (lv_at hl 0 rfl) ?_
  refine tf_iconst hx hb dX10_status_1 ?_
  refine tf_put hx hb hts inlX10 tyX10 tyX10_ok nmX10 hown hK (ci := 10) rfl hW ha0 rfl rfl 0 rfl (by decide) (by decide) (hts _ fl_X10_103) rfl (tf_u0 (by omega) (by omega)) rfl rfl dX10_status_2 (fun H1 locs1 hW hs1 ht1 hq1 => ?_)
  refine lv_aload_n hx hb dX10_status_5 rfl (lv_at hl 0 rfl) ?_
  refine tf_get hx hb hts inlX10 hown hK (ci := 10) rfl hW ha0 rfl 1 rfl (by decide) (hts _ fl_X10_106) dX10_status_6 (fun v2 hv2 hsv2 => ?_)
  obtain ⟨z3, rfl, hz3⟩ := tf_v0 hv2
  exact tf_reti (z := z3) hx hb hr hlocks hQ hW (show (-2147483648) ≤ (z3) ∧ (z3) ≤ 2147483647 by omega) dX10_status_9

abbrev M_X10_end : List (Nat × Nat) := [(50, 0), (50, 8)]
set_option maxHeartbeats 4000000 in
set_option maxRecDepth 100000 in
theorem c_X10_end (l : Launch) (g : tf_G) (T : tf_T) (a0 : Nat) (ha0 : T a0 = some (50, 0)) (x1 : Int) (hp1 : (-2147483648) ≤ x1 ∧ x1 ≤ 2147483647) : Met l yX10_end (cd_X10_end :: wsL_law) ({ frames := 1, cells := 0, slots := 0, locals := 24 }) (tf_P g T [.ref a0, .int (Int32.ofInt x1)] (fun H => True)) (tf_Qi g M_X10_end T (fun z _ _ => (-2147483648) ≤ z ∧ z ≤ 2147483647)) 0 0 (fun q => tf_B g ≤ q) := by
  refine Met.ofW (cc := cX10_end) (maxL := 2) (ret := (some .int)) (by decide) rfl ?_
  intro p e s m args below meth c s₁ B hml hv
  obtain ⟨hargs, hk, hW0, hB, hpre⟩ := hv
  have hx := B.exec
  have hb := B.bytes
  have hr := B.returns
  have hts : ∀ w ∈ wsL_law, w.before args s = true := fun w h => atoms_spec (ws := cd_X10_end :: wsL_law) B.pre w (List.mem_cons_of_mem _ h)
  have hown : s.vm.findClass RX10 = some m.cls := findClass_of_methodNamed B.named
  have hlocks := B.notSynchronized
  have hK := hk.1
  have hW := tf_n.start (M := M_X10_end) hW0 hB
  obtain ⟨Q, hQ⟩ : ∃ q, q = MQ below (tf_Qi g M_X10_end T (fun z _ _ => (-2147483648) ≤ z ∧ z ≤ 2147483647)) args s 0 0 (fun q => tf_B g ≤ q) := ⟨_, rfl⟩
  rw [← hQ]
  obtain ⟨R, hR⟩ : ∃ q, q = (headSpec (cd_X10_end :: wsL_law) ({ frames := 1, cells := 0, slots := 0, locals := 24 })).room := ⟨_, rfl⟩
  rw [← hR]
  have hR1 : 1 ≤ R.frames := by rw [hR]; exact Nat.le_refl _
  have hR2 : 24 ≤ R.locals := by rw [hR]; exact Nat.le_refl _
  have hR3 : 0 ≤ R.cells := by rw [hR]; exact Nat.le_refl _
  have hR4 : 0 ≤ R.slots := by rw [hR]; exact Nat.le_refl _
  have hin := (name_of_methodNamed B.named B.method).1
  clear hR B
  refine tf_enter (As := [.ref a0, .int (Int32.ofInt x1)]) hargs (Nat.le_of_ble_eq_true rfl) (fun ls hl => ?_)
  have hl : lv_has ls 2 [(0, .ref a0), (1, .int (Int32.ofInt x1))] := hl
  refine lv_aload_n hx hb dX10_end_0 rfl (lv_at hl 0 rfl) ?_
  refine tf_iconst hx hb dX10_end_1 ?_
  refine tf_put hx hb hts inlX10 tyX10 tyX10_ok nmX10 hown hK (ci := 10) rfl hW ha0 rfl rfl 0 rfl (by decide) (by decide) (hts _ fl_X10_103) rfl (tf_u0 (by omega) (by omega)) rfl rfl dX10_end_2 (fun H1 locs1 hW hs1 ht1 hq1 => ?_)
  refine lv_iload_n hx hb dX10_end_5 rfl (lv_at hl 1 rfl) ?_
  refine tf_if_lt (tgt := 17) hx hb ⟨by omega, by omega⟩ dX10_end_6 (by decide) (fun h2 => ?_) (fun h2 => ?_)
  · refine tf_iconst hx hb dX10_end_17 ?_
    exact tf_reti (z := (-1)) hx hb hr hlocks hQ hW (show (-2147483648) ≤ ((-1)) ∧ ((-1)) ≤ 2147483647 by omega) dX10_end_18
  · refine lv_iload_n hx hb dX10_end_9 rfl (lv_at hl 1 rfl) ?_
    refine lv_aload_n hx hb dX10_end_10 rfl (lv_at hl 0 rfl) ?_
    refine tf_get hx hb hts inlX10 hown hK (ci := 10) rfl hW ha0 rfl 8 rfl (by decide) (hts _ fl_X10_183) dX10_end_11 (fun v3 hv3 hsv3 => ?_)
    obtain ⟨z4, rfl, hz4⟩ := tf_v0 hv3
    refine tf_icmp_le (tgt := 19) hx hb ⟨by omega, by omega⟩ ⟨by omega, by omega⟩ dX10_end_14 (by decide) (fun h5 => ?_) (fun h5 => ?_)
    · refine lv_aload_n hx hb dX10_end_19 rfl (lv_at hl 0 rfl) ?_
      refine lv_iload_n hx hb dX10_end_20 rfl (lv_at hl 1 rfl) ?_
      refine tf_put hx hb hts inlX10 tyX10 tyX10_ok nmX10 hown hK (ci := 10) rfl hW ha0 rfl rfl 8 rfl (by decide) (by decide) (hts _ fl_X10_183) rfl (tf_u0 (by omega) (by omega)) rfl rfl dX10_end_21 (fun H6 locs6 hW hs6 ht6 hq6 => ?_)
      refine lv_iload_n hx hb dX10_end_24 rfl (lv_at hl 1 rfl) ?_
      exact tf_reti (z := x1) hx hb hr hlocks hQ hW (show (-2147483648) ≤ (x1) ∧ (x1) ≤ 2147483647 by omega) dX10_end_25
    · refine tf_iconst hx hb dX10_end_17 ?_
      exact tf_reti (z := (-1)) hx hb hr hlocks hQ hW (show (-2147483648) ≤ ((-1)) ∧ ((-1)) ≤ 2147483647 by omega) dX10_end_18

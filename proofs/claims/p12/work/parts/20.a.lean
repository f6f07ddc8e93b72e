
abbrev M_X9_isWithin : List (Nat × Nat) := []
set_option maxHeartbeats 4000000 in
set_option maxRecDepth 100000 in
theorem c_X9_isWithin (l : Launch) (g : tf_G) (T : tf_T) (x0 : Int) (hp0 : (-2147483648) ≤ x0 ∧ x0 ≤ 2147483647) (x1 : Int) (hp1 : (-2147483648) ≤ x1 ∧ x1 ≤ 2147483647) (x2 : Int) (hp2 : (-2147483648) ≤ x2 ∧ x2 ≤ 2147483647) : Met l yX9_isWithin (cd_X9_isWithin :: wsL_law) ({ frames := 1, cells := 0, slots := 0, locals := 24 }) (tf_P g T [.int (Int32.ofInt x0), .int (Int32.ofInt x1), .int (Int32.ofInt x2)] (fun H => True)) (tf_Qi g M_X9_isWithin T (fun z _ _ => (z = 1 ∧ x1 ≤ x0 ∧ x0 ≤ x2) ∨ (z = 0 ∧ (x0 < x1 ∨ x2 < x0)))) 0 0 (fun q => tf_B g ≤ q) := by
  refine Met.ofW (cc := cX9_isWithin) (maxL := 3) (ret := (some .boolean)) (by decide) rfl ?_
  intro p e s m args below meth c s₁ B hml hv
  obtain ⟨hargs, hk, hW0, hB, hpre⟩ := hv
  have hx := B.exec
  have hb := B.bytes
  have hr := B.returns
  have hts : ∀ w ∈ wsL_law, w.before args s = true := fun w h => atoms_spec (ws := cd_X9_isWithin :: wsL_law) B.pre w (List.mem_cons_of_mem _ h)
  have hown : s.vm.findClass RX9 = some m.cls := findClass_of_methodNamed B.named
  have hlocks := B.notSynchronized
  have hK := hk.1
  have hW := tf_n.start (M := M_X9_isWithin) hW0 hB
  obtain ⟨Q, hQ⟩ : ∃ q, q = MQ below (tf_Qi g M_X9_isWithin T (fun z _ _ => (z = 1 ∧ x1 ≤ x0 ∧ x0 ≤ x2) ∨ (z = 0 ∧ (x0 < x1 ∨ x2 < x0)))) args s 0 0 (fun q => tf_B g ≤ q) := ⟨_, rfl⟩
  rw [← hQ]
  obtain ⟨R, hR⟩ : ∃ q, q = (headSpec (cd_X9_isWithin :: wsL_law) ({ frames := 1, cells := 0, slots := 0, locals := 24 })).room := ⟨_, rfl⟩
  rw [← hR]
  have hR1 : 1 ≤ R.frames := by rw [hR]; exact Nat.le_refl _
  have hR2 : 24 ≤ R.locals := by rw [hR]; exact Nat.le_refl _
  have hR3 : 0 ≤ R.cells := by rw [hR]; exact Nat.le_refl _
  have hR4 : 0 ≤ R.slots := by rw [hR]; exact Nat.le_refl _
  have hin := (name_of_methodNamed B.named B.method).1
  clear hR B
  refine tf_enter (As := [.int (Int32.ofInt x0), .int (Int32.ofInt x1), .int (Int32.ofInt x2)]) hargs (Nat.le_of_ble_eq_true rfl) (fun ls hl => ?_)
  have hl : lv_has ls 3 [(0, .int (Int32.ofInt x0)), (1, .int (Int32.ofInt x1)), (2, .int (Int32.ofInt x2))] := hl
  refine lv_iload_n hx hb dX9_isWithin_0 rfl (lv_at hl 0 rfl) ?_
  refine lv_iload_n hx hb dX9_isWithin_1 rfl (lv_at hl 1 rfl) ?_
  refine tf_icmp_lt (tgt := 14) hx hb ⟨by omega, by omega⟩ ⟨by omega, by omega⟩ dX9_isWithin_2 (by decide) (fun h1 => ?_) (fun h1 => ?_)
  · refine tf_iconst hx hb dX9_isWithin_14 ?_
    exact tf_retz (z := 0) hx hb hr hlocks hQ hW (by omega) (show ((0) = 1 ∧ x1 ≤ x0 ∧ x0 ≤ x2) ∨ ((0) = 0 ∧ (x0 < x1 ∨ x2 < x0)) by omega) dX9_isWithin_15
  · refine lv_iload_n hx hb dX9_isWithin_5 rfl (lv_at hl 0 rfl) ?_
    refine lv_iload_n hx hb dX9_isWithin_6 rfl (lv_at hl 2 rfl) ?_
    refine tf_icmp_gt (tgt := 14) hx hb ⟨by omega, by omega⟩ ⟨by omega, by omega⟩ dX9_isWithin_7 (by decide) (fun h2 => ?_) (fun h2 => ?_)
    · refine tf_iconst hx hb dX9_isWithin_14 ?_
      exact tf_retz (z := 0) hx hb hr hlocks hQ hW (by omega) (show ((0) = 1 ∧ x1 ≤ x0 ∧ x0 ≤ x2) ∨ ((0) = 0 ∧ (x0 < x1 ∨ x2 < x0)) by omega) dX9_isWithin_15
    · refine tf_iconst hx hb dX9_isWithin_10 ?_
      refine lv_goto (tgt := 15) hx hb dX9_isWithin_11 (by decide) ?_
      exact tf_retz (z := 1) hx hb hr hlocks hQ hW (by omega) (show ((1) = 1 ∧ x1 ≤ x0 ∧ x0 ≤ x2) ∨ ((1) = 0 ∧ (x0 < x1 ∨ x2 < x0)) by omega) dX9_isWithin_15

abbrev M_X9_isCell : List (Nat × Nat) := []
set_option maxHeartbeats 4000000 in
set_option maxRecDepth 100000 in
theorem c_X9_isCell (l : Launch) (g : tf_G) (T : tf_T) (x0 : Int) (hp0 : (-2147483648) ≤ x0 ∧ x0 ≤ 2147483647) : Met l yX9_isCell (cd_X9_isCell :: wsL_law) ({ frames := 1, cells := 0, slots := 0, locals := 24 }) (tf_P g T [.int (Int32.ofInt x0)] (fun H => True)) (tf_Qi g M_X9_isCell T (fun z _ _ => (z = 1 ∧ 0 ≤ x0 ∧ x0 ≤ 99) ∨ (z = 0 ∧ (x0 < 0 ∨ 99 < x0)))) 0 0 (fun q => tf_B g ≤ q) := by
  refine Met.ofW (cc := cX9_isCell) (maxL := 1) (ret := (some .boolean)) (by decide) rfl ?_
  intro p e s m args below meth c s₁ B hml hv
  obtain ⟨hargs, hk, hW0, hB, hpre⟩ := hv
  have hx := B.exec
  have hb := B.bytes
  have hr := B.returns
  have hts : ∀ w ∈ wsL_law, w.before args s = true := fun w h => atoms_spec (ws := cd_X9_isCell :: wsL_law) B.pre w (List.mem_cons_of_mem _ h)
  have hown : s.vm.findClass RX9 = some m.cls := findClass_of_methodNamed B.named
  have hlocks := B.notSynchronized
  have hK := hk.1
  have hW := tf_n.start (M := M_X9_isCell) hW0 hB
  obtain ⟨Q, hQ⟩ : ∃ q, q = MQ below (tf_Qi g M_X9_isCell T (fun z _ _ => (z = 1 ∧ 0 ≤ x0 ∧ x0 ≤ 99) ∨ (z = 0 ∧ (x0 < 0 ∨ 99 < x0)))) args s 0 0 (fun q => tf_B g ≤ q) := ⟨_, rfl⟩
  rw [← hQ]
  obtain ⟨R, hR⟩ : ∃ q, q = (headSpec (cd_X9_isCell :: wsL_law) ({ frames := 1, cells := 0, slots := 0, locals := 24 })).room := ⟨_, rfl⟩
  rw [← hR]
  have hR1 : 1 ≤ R.frames := by rw [hR]; exact Nat.le_refl _
  have hR2 : 24 ≤ R.locals := by rw [hR]; exact Nat.le_refl _
  have hR3 : 0 ≤ R.cells := by rw [hR]; exact Nat.le_refl _
  have hR4 : 0 ≤ R.slots := by rw [hR]; exact Nat.le_refl _
  have hin := (name_of_methodNamed B.named B.method).1
  clear hR B
  refine tf_enter (As := [.int (Int32.ofInt x0)]) hargs (Nat.le_of_ble_eq_true rfl) (fun ls hl => ?_)
  have hl : lv_has ls 1 [(0, .int (Int32.ofInt x0))] := hl
  refine lv_iload_n hx hb dX9_isCell_0 rfl (lv_at hl 0 rfl) ?_
  refine tf_if_lt (tgt := 14) hx hb ⟨by omega, by omega⟩ dX9_isCell_1 (by decide) (fun h1 => ?_) (fun h1 => ?_)
  · refine tf_iconst hx hb dX9_isCell_14 ?_
    exact tf_retz (z := 0) hx hb hr hlocks hQ hW (by omega) (show ((0) = 1 ∧ 0 ≤ x0 ∧ x0 ≤ 99) ∨ ((0) = 0 ∧ (x0 < 0 ∨ 99 < x0)) by omega) dX9_isCell_15
  · refine lv_iload_n hx hb dX9_isCell_4 rfl (lv_at hl 0 rfl) ?_
    refine tf_bipush hx hb dX9_isCell_5 (by decide) ?_
    refine tf_icmp_ge (tgt := 14) hx hb ⟨by omega, by omega⟩ ⟨by decide, by decide⟩ dX9_isCell_7 (by decide) (fun h2 => ?_) (fun h2 => ?_)
    · refine tf_iconst hx hb dX9_isCell_14 ?_
      exact tf_retz (z := 0) hx hb hr hlocks hQ hW (by omega) (show ((0) = 1 ∧ 0 ≤ x0 ∧ x0 ≤ 99) ∨ ((0) = 0 ∧ (x0 < 0 ∨ 99 < x0)) by omega) dX9_isCell_15
    · refine tf_iconst hx hb dX9_isCell_10 ?_
      refine lv_goto (tgt := 15) hx hb dX9_isCell_11 (by decide) ?_
      exact tf_retz (z := 1) hx hb hr hlocks hQ hW (by omega) (show ((1) = 1 ∧ 0 ≤ x0 ∧ x0 ≤ 99) ∨ ((1) = 0 ∧ (x0 < 0 ∨ 99 < x0)) by omega) dX9_isCell_15

abbrev M_X9_isWay : List (Nat × Nat) := []
set_option maxHeartbeats 4000000 in
set_option maxRecDepth 100000 in
theorem c_X9_isWay (l : Launch) (g : tf_G) (T : tf_T) (x0 : Int) (hp0 : (-2147483648) ≤ x0 ∧ x0 ≤ 2147483647) : Met l yX9_isWay (cd_X9_isWay :: wsL_law) ({ frames := 1, cells := 0, slots := 0, locals := 24 }) (tf_P g T [.int (Int32.ofInt x0)] (fun H => True)) (tf_Qi g M_X9_isWay T (fun z _ _ => (z = 1 ∧ 0 ≤ x0 ∧ x0 ≤ 3) ∨ (z = 0 ∧ (x0 < 0 ∨ 3 < x0)))) 0 0 (fun q => tf_B g ≤ q) := by
  refine Met.ofW (cc := cX9_isWay) (maxL := 1) (ret := (some .boolean)) (by decide) rfl ?_
  intro p e s m args below meth c s₁ B hml hv
  obtain ⟨hargs, hk, hW0, hB, hpre⟩ := hv
  have hx := B.exec
  have hb := B.bytes
  have hr := B.returns
  have hts : ∀ w ∈ wsL_law, w.before args s = true := fun w h => atoms_spec (ws := cd_X9_isWay :: wsL_law) B.pre w (List.mem_cons_of_mem _ h)
  have hown : s.vm.findClass RX9 = some m.cls := findClass_of_methodNamed B.named
  have hlocks := B.notSynchronized
  have hK := hk.1
  have hW := tf_n.start (M := M_X9_isWay) hW0 hB
  obtain ⟨Q, hQ⟩ : ∃ q, q = MQ below (tf_Qi g M_X9_isWay T (fun z _ _ => (z = 1 ∧ 0 ≤ x0 ∧ x0 ≤ 3) ∨ (z = 0 ∧ (x0 < 0 ∨ 3 < x0)))) args s 0 0 (fun q => tf_B g ≤ q) := ⟨_, rfl⟩
  rw [← hQ]
  obtain ⟨R, hR⟩ : ∃ q, q = (headSpec (cd_X9_isWay :: wsL_law) ({ frames := 1, cells := 0, slots := 0, locals := 24 })).room := ⟨_, rfl⟩
  rw [← hR]
  have hR1 : 1 ≤ R.frames := by rw [hR]; exact Nat.le_refl _
  have hR2 : 24 ≤ R.locals := by rw [hR]; exact Nat.le_refl _
  have hR3 : 0 ≤ R.cells := by rw [hR]; exact Nat.le_refl _
  have hR4 : 0 ≤ R.slots := by rw [hR]; exact Nat.le_refl _
  have hin := (name_of_methodNamed B.named B.method).1
  clear hR B
  refine tf_enter (As := [.int (Int32.ofInt x0)]) hargs (Nat.le_of_ble_eq_true rfl) (fun ls hl => ?_)
  have hl : lv_has ls 1 [(0, .int (Int32.ofInt x0))] := hl
  refine lv_iload_n hx hb dX9_isWay_0 rfl (lv_at hl 0 rfl) ?_
  refine tf_if_lt (tgt := 13) hx hb ⟨by omega, by omega⟩ dX9_isWay_1 (by decide) (fun h1 => ?_) (fun h1 => ?_)
  · refine tf_iconst hx hb dX9_isWay_13 ?_
    exact tf_retz (z := 0) hx hb hr hlocks hQ hW (by omega) (show ((0) = 1 ∧ 0 ≤ x0 ∧ x0 ≤ 3) ∨ ((0) = 0 ∧ (x0 < 0 ∨ 3 < x0)) by omega) dX9_isWay_14
  · refine lv_iload_n hx hb dX9_isWay_4 rfl (lv_at hl 0 rfl) ?_
    refine tf_iconst hx hb dX9_isWay_5 ?_
    refine tf_icmp_ge (tgt := 13) hx hb ⟨by omega, by omega⟩ ⟨by decide, by decide⟩ dX9_isWay_6 (by decide) (fun h2 => ?_) (fun h2 => ?_)
    · refine tf_iconst hx hb dX9_isWay_13 ?_
      exact tf_retz (z := 0) hx hb hr hlocks hQ hW (by omega) (show ((0) = 1 ∧ 0 ≤ x0 ∧ x0 ≤ 3) ∨ ((0) = 0 ∧ (x0 < 0 ∨ 3 < x0)) by omega) dX9_isWay_14
    · refine tf_iconst hx hb dX9_isWay_9 ?_
      refine lv_goto (tgt := 14) hx hb dX9_isWay_10 (by decide) ?_
      exact tf_retz (z := 1) hx hb hr hlocks hQ hW (by omega) (show ((1) = 1 ∧ 0 ≤ x0 ∧ x0 ≤ 3) ∨ ((1) = 0 ∧ (x0 < 0 ∨ 3 < x0)) by omega) dX9_isWay_14

abbrev M_X9_isPace : List (Nat × Nat) := []
set_option maxHeartbeats 4000000 in
set_option maxRecDepth 100000 in
theorem c_X9_isPace (l : Launch) (g : tf_G) (T : tf_T) (x0 : Int) (hp0 : (-2147483648) ≤ x0 ∧ x0 ≤ 2147483647) : Met l yX9_isPace (cd_X9_isPace :: wsL_law) ({ frames := 1, cells := 0, slots := 0, locals := 24 }) (tf_P g T [.int (Int32.ofInt x0)] (fun H => True)) (tf_Qi g M_X9_isPace T (fun z _ _ => (z = 1 ∧ 0 ≤ x0 ∧ x0 ≤ 9) ∨ (z = 0 ∧ (x0 < 0 ∨ 9 < x0)))) 0 0 (fun q => tf_B g ≤ q) := by
  refine Met.ofW (cc := cX9_isPace) (maxL := 1) (ret := (some .boolean)) (by decide) rfl ?_
  intro p e s m args below meth c s₁ B hml hv
  obtain ⟨hargs, hk, hW0, hB, hpre⟩ := hv
  have hx := B.exec
  have hb := B.bytes
  have hr := B.returns
  have hts : ∀ w ∈ wsL_law, w.before args s = true := fun w h => atoms_spec (ws := cd_X9_isPace :: wsL_law) B.pre w (List.mem_cons_of_mem _ h)
  have hown : s.vm.findClass RX9 = some m.cls := findClass_of_methodNamed B.named
  have hlocks := B.notSynchronized
  have hK := hk.1
  have hW := tf_n.start (M := M_X9_isPace) hW0 hB
  obtain ⟨Q, hQ⟩ : ∃ q, q = MQ below (tf_Qi g M_X9_isPace T (fun z _ _ => (z = 1 ∧ 0 ≤ x0 ∧ x0 ≤ 9) ∨ (z = 0 ∧ (x0 < 0 ∨ 9 < x0)))) args s 0 0 (fun q => tf_B g ≤ q) := ⟨_, rfl⟩
  rw [← hQ]
  obtain ⟨R, hR⟩ : ∃ q, q = (headSpec (cd_X9_isPace :: wsL_law) ({ frames := 1, cells := 0, slots := 0, locals := 24 })).room := ⟨_, rfl⟩
  rw [← hR]
  have hR1 : 1 ≤ R.frames := by rw [hR]; exact Nat.le_refl _
  have hR2 : 24 ≤ R.locals := by rw [hR]; exact Nat.le_refl _
  have hR3 : 0 ≤ R.cells := by rw [hR]; exact Nat.le_refl _
  have hR4 : 0 ≤ R.slots := by rw [hR]; exact Nat.le_refl _
  have hin := (name_of_methodNamed B.named B.method).1
  clear hR B
  refine tf_enter (As := [.int (Int32.ofInt x0)]) hargs (Nat.le_of_ble_eq_true rfl) (fun ls hl => ?_)
  have hl : lv_has ls 1 [(0, .int (Int32.ofInt x0))] := hl
  refine lv_iload_n hx hb dX9_isPace_0 rfl (lv_at hl 0 rfl) ?_
  refine tf_if_lt (tgt := 14) hx hb ⟨by omega, by omega⟩ dX9_isPace_1 (by decide) (fun h1 => ?_) (fun h1 => ?_)
  · refine tf_iconst hx hb dX9_isPace_14 ?_
    exact tf_retz (z := 0) hx hb hr hlocks hQ hW (by omega) (show ((0) = 1 ∧ 0 ≤ x0 ∧ x0 ≤ 9) ∨ ((0) = 0 ∧ (x0 < 0 ∨ 9 < x0)) by omega) dX9_isPace_15
  · refine lv_iload_n hx hb dX9_isPace_4 rfl (lv_at hl 0 rfl) ?_
    refine tf_bipush hx hb dX9_isPace_5 (by decide) ?_
    refine tf_icmp_ge (tgt := 14) hx hb ⟨by omega, by omega⟩ ⟨by decide, by decide⟩ dX9_isPace_7 (by decide) (fun h2 => ?_) (fun h2 => ?_)
    · refine tf_iconst hx hb dX9_isPace_14 ?_
      exact tf_retz (z := 0) hx hb hr hlocks hQ hW (by omega) (show ((0) = 1 ∧ 0 ≤ x0 ∧ x0 ≤ 9) ∨ ((0) = 0 ∧ (x0 < 0 ∨ 9 < x0)) by omega) dX9_isPace_15
    · refine tf_iconst hx hb dX9_isPace_10 ?_
      refine lv_goto (tgt := 15) hx hb dX9_isPace_11 (by decide) ?_
      exact tf_retz (z := 1) hx hb hr hlocks hQ hW (by omega) (show ((1) = 1 ∧ 0 ≤ x0 ∧ x0 ≤ 9) ∨ ((1) = 0 ∧ (x0 < 0 ∨ 9 < x0)) by omega) dX9_isPace_15

abbrev M_X9_isOnEdge : List (Nat × Nat) := []
set_option maxHeartbeats 4000000 in
set_option maxRecDepth 100000 in
theorem c_X9_isOnEdge (l : Launch) (g : tf_G) (T : tf_T) (x0 : Int) (hp0 : (-2147483648) ≤ x0 ∧ x0 ≤ 2147483647) : Met l yX9_isOnEdge (cd_X9_isOnEdge :: wsL_law) ({ frames := 1, cells := 0, slots := 0, locals := 24 }) (tf_P g T [.int (Int32.ofInt x0)] (fun H => True)) (tf_Qi g M_X9_isOnEdge T (fun z _ _ => (z = 1 ∧ 0 ≤ x0 ∧ x0 ≤ 9) ∨ (z = 0 ∧ (x0 < 0 ∨ 9 < x0)))) 0 0 (fun q => tf_B g ≤ q) := by
  refine Met.ofW (cc := cX9_isOnEdge) (maxL := 1) (ret := (some .boolean)) (by decide) rfl ?_
  intro p e s m args below meth c s₁ B hml hv
  obtain ⟨hargs, hk, hW0, hB, hpre⟩ := hv
  have hx := B.exec
  have hb := B.bytes
  have hr := B.returns
  have hts : ∀ w ∈ wsL_law, w.before args s = true := fun w h => atoms_spec (ws := cd_X9_isOnEdge :: wsL_law) B.pre w (List.mem_cons_of_mem _ h)
  have hown : s.vm.findClass RX9 = some m.cls := findClass_of_methodNamed B.named
  have hlocks := B.notSynchronized
  have hK := hk.1
  have hW := tf_n.start (M := M_X9_isOnEdge) hW0 hB
  obtain ⟨Q, hQ⟩ : ∃ q, q = MQ below (tf_Qi g M_X9_isOnEdge T (fun z _ _ => (z = 1 ∧ 0 ≤ x0 ∧ x0 ≤ 9) ∨ (z = 0 ∧ (x0 < 0 ∨ 9 < x0)))) args s 0 0 (fun q => tf_B g ≤ q) := ⟨_, rfl⟩
  rw [← hQ]
  obtain ⟨R, hR⟩ : ∃ q, q = (headSpec (cd_X9_isOnEdge :: wsL_law) ({ frames := 1, cells := 0, slots := 0, locals := 24 })).room := ⟨_, rfl⟩
  rw [← hR]
  have hR1 : 1 ≤ R.frames := by rw [hR]; exact Nat.le_refl _
  have hR2 : 24 ≤ R.locals := by rw [hR]; exact Nat.le_refl _
  have hR3 : 0 ≤ R.cells := by rw [hR]; exact Nat.le_refl _
  have hR4 : 0 ≤ R.slots := by rw [hR]; exact Nat.le_refl _
  have hin := (name_of_methodNamed B.named B.method).1
  clear hR B
  refine tf_enter (As := [.int (Int32.ofInt x0)]) hargs (Nat.le_of_ble_eq_true rfl) (fun ls hl => ?_)
  have hl : lv_has ls 1 [(0, .int (Int32.ofInt x0))] := hl
  refine lv_iload_n hx hb dX9_isOnEdge_0 rfl (lv_at hl 0 rfl) ?_
  refine tf_if_lt (tgt := 14) hx hb ⟨by omega, by omega⟩ dX9_isOnEdge_1 (by decide) (fun h1 => ?_) (fun h1 => ?_)
  · refine tf_iconst hx hb dX9_isOnEdge_14 ?_
    exact tf_retz (z := 0) hx hb hr hlocks hQ hW (by omega) (show ((0) = 1 ∧ 0 ≤ x0 ∧ x0 ≤ 9) ∨ ((0) = 0 ∧ (x0 < 0 ∨ 9 < x0)) by omega) dX9_isOnEdge_15
  · refine lv_iload_n hx hb dX9_isOnEdge_4 rfl (lv_at hl 0 rfl) ?_
    refine tf_bipush hx hb dX9_isOnEdge_5 (by decide) ?_
    refine tf_icmp_ge (tgt := 14) hx hb ⟨by omega, by omega⟩ ⟨by decide, by decide⟩ dX9_isOnEdge_7 (by decide) (fun h2 => ?_) (fun h2 => ?_)
    · refine tf_iconst hx hb dX9_isOnEdge_14 ?_
      exact tf_retz (z := 0) hx hb hr hlocks hQ hW (by omega) (show ((0) = 1 ∧ 0 ≤ x0 ∧ x0 ≤ 9) ∨ ((0) = 0 ∧ (x0 < 0 ∨ 9 < x0)) by omega) dX9_isOnEdge_15
    · refine tf_iconst hx hb dX9_isOnEdge_10 ?_
      refine lv_goto (tgt := 15) hx hb dX9_isOnEdge_11 (by decide) ?_
      exact tf_retz (z := 1) hx hb hr hlocks hQ hW (by omega) (show ((1) = 1 ∧ 0 ≤ x0 ∧ x0 ≤ 9) ∨ ((1) = 0 ∧ (x0 < 0 ∨ 9 < x0)) by omega) dX9_isOnEdge_15

abbrev M_X9_spotAt : List (Nat × Nat) := []
set_option maxHeartbeats 4000000 in
set_option maxRecDepth 100000 in
theorem c_X9_spotAt (l : Launch) (g : tf_G) (T : tf_T) (x0 : Int) (hp0 : 0 ≤ x0 ∧ x0 ≤ 9) (x1 : Int) (hp1 : 0 ≤ x1 ∧ x1 ≤ 9) : Met l yX9_spotAt (cd_X9_spotAt :: wsL_law) ({ frames := 1, cells := 0, slots := 0, locals := 24 }) (tf_P g T [.int (Int32.ofInt x0), .int (Int32.ofInt x1)] (fun H => True)) (tf_Qi g M_X9_spotAt T (fun z _ _ => 51 ≤ z ∧ z ≤ 204)) 0 0 (fun q => tf_B g ≤ q) := by
  refine Met.ofW (cc := cX9_spotAt) (maxL := 2) (ret := (some .int)) (by decide) rfl ?_
  intro p e s m args below meth c s₁ B hml hv
  obtain ⟨hargs, hk, hW0, hB, hpre⟩ := hv
  have hx := B.exec
  have hb := B.bytes
  have hr := B.returns
  have hts : ∀ w ∈ wsL_law, w.before args s = true := fun w h => atoms_spec (ws := cd_X9_spotAt :: wsL_law) B.pre w (List.mem_cons_of_mem _ h)
  have hown : s.vm.findClass RX9 = some m.cls := findClass_of_methodNamed B.named
  have hlocks := B.notSynchronized
  have hK := hk.1
  have hW := tf_n.start (M := M_X9_spotAt) hW0 hB
  obtain ⟨Q, hQ⟩ : ∃ q, q = MQ below (tf_Qi g M_X9_spotAt T (fun z _ _ => 51 ≤ z ∧ z ≤ 204)) args s 0 0 (fun q => tf_B g ≤ q) := ⟨_, rfl⟩
  rw [← hQ]
  obtain ⟨R, hR⟩ : ∃ q, q = (headSpec (cd_X9_spotAt :: wsL_law) ({ frames := 1, cells := 0, slots := 0, locals := 24 })).room := ⟨_, rfl⟩
  rw [← hR]
  have hR1 : 1 ≤ R.frames := by rw [hR]; exact Nat.le_refl _
  have hR2 : 24 ≤ R.locals := by rw [hR]; exact Nat.le_refl _
  have hR3 : 0 ≤ R.cells := by rw [hR]; exact Nat.le_refl _
  have hR4 : 0 ≤ R.slots := by rw [hR]; exact Nat.le_refl _
  have hin := (name_of_methodNamed B.named B.method).1
  clear hR B
  refine tf_enter (As := [.int (Int32.ofInt x0), .int (Int32.ofInt x1)]) hargs (Nat.le_of_ble_eq_true rfl) (fun ls hl => ?_)
  have hl : lv_has ls 2 [(0, .int (Int32.ofInt x0)), (1, .int (Int32.ofInt x1))] := hl
  refine lv_iload_n hx hb dX9_spotAt_0 rfl (lv_at hl 1 rfl) ?_
  refine tf_iconst hx hb dX9_spotAt_1 ?_
  refine tf_iadd hx hb dX9_spotAt_2 ?_
  refine tf_bipush hx hb dX9_spotAt_3 (by decide) ?_
  refine tf_imul hx hb dX9_spotAt_5 ?_
  refine lv_iload_n hx hb dX9_spotAt_6 rfl (lv_at hl 0 rfl) ?_
  refine tf_iadd hx hb dX9_spotAt_7 ?_
  refine tf_iconst hx hb dX9_spotAt_8 ?_
  refine tf_iadd hx hb dX9_spotAt_9 ?_
  exact tf_reti (z := ((((x1 + 3) * 16) + x0) + 3)) hx hb hr hlocks hQ hW (show 51 ≤ (((((x1 + 3) * 16) + x0) + 3)) ∧ (((((x1 + 3) * 16) + x0) + 3)) ≤ 204 by omega) dX9_spotAt_10

abbrev M_X9_spotOf : List (Nat × Nat) := []
set_option maxHeartbeats 4000000 in
set_option maxRecDepth 100000 in
theorem c_X9_spotOf (l : Launch) (g : tf_G) (T : tf_T) (x0 : Int) (hp0 : 0 ≤ x0 ∧ x0 ≤ 99) : Met l yX9_spotOf (cd_X9_spotOf :: wsL_law) ({ frames := 2, cells := 0, slots := 0, locals := 45 }) (tf_P g T [.int (Int32.ofInt x0)] (fun H => True)) (tf_Qi g M_X9_spotOf T (fun z _ _ => 51 ≤ z ∧ z ≤ 204)) 0 0 (fun q => tf_B g ≤ q) := by
  refine Met.ofW (cc := cX9_spotOf) (maxL := 1) (ret := (some .int)) (by decide) rfl ?_
  intro p e s m args below meth c s₁ B hml hv
  obtain ⟨hargs, hk, hW0, hB, hpre⟩ := hv
  have hx := B.exec
  have hb := B.bytes
  have hr := B.returns
  have hts : ∀ w ∈ wsL_law, w.before args s = true := fun w h => atoms_spec (ws := cd_X9_spotOf :: wsL_law) B.pre w (List.mem_cons_of_mem _ h)
  have hown : s.vm.findClass RX9 = some m.cls := findClass_of_methodNamed B.named
  have hlocks := B.notSynchronized
  have hK := hk.1
  have hW := tf_n.start (M := M_X9_spotOf) hW0 hB
  obtain ⟨Q, hQ⟩ : ∃ q, q = MQ below (tf_Qi g M_X9_spotOf T (fun z _ _ => 51 ≤ z ∧ z ≤ 204)) args s 0 0 (fun q => tf_B g ≤ q) := ⟨_, rfl⟩
  rw [← hQ]
  obtain ⟨R, hR⟩ : ∃ q, q = (headSpec (cd_X9_spotOf :: wsL_law) ({ frames := 2, cells := 0, slots := 0, locals := 45 })).room := ⟨_, rfl⟩
  rw [← hR]
  have hR1 : 2 ≤ R.frames := by rw [hR]; exact Nat.le_refl _
  have hR2 : 45 ≤ R.locals := by rw [hR]; exact Nat.le_refl _
  have hR3 : 0 ≤ R.cells := by rw [hR]; exact Nat.le_refl _
  have hR4 : 0 ≤ R.slots := by rw [hR]; exact Nat.le_refl _
  have hin := (name_of_methodNamed B.named B.method).1
  clear hR B
  refine tf_enter (As := [.int (Int32.ofInt x0)]) hargs (Nat.le_of_ble_eq_true rfl) (fun ls hl => ?_)
  have hl : lv_has ls 1 [(0, .int (Int32.ofInt x0))] := hl
  refine lv_iload_n hx hb dX9_spotOf_0 rfl (lv_at hl 0 rfl) ?_
  refine tf_bipush hx hb dX9_spotOf_1 (by decide) ?_
  refine tf_irem hx hb ⟨by omega, by omega⟩ (by omega) ⟨by decide, by decide⟩ (by decide) dX9_spotOf_3 ?_
  refine tf_name (fun z1 ez1 => ?_)
  refine lv_iload_n hx hb dX9_spotOf_4 rfl (lv_at hl 0 rfl) ?_
  refine tf_bipush hx hb dX9_spotOf_5 (by decide) ?_
  refine tf_idiv hx hb ⟨by omega, by omega⟩ (by omega) ⟨by decide, by decide⟩ (by decide) dX9_spotOf_7 ?_
  refine tf_name (fun z2 ez2 => ?_)
  refine tf_calli (va_runS (As := [.int (Int32.ofInt z1), .int (Int32.ofInt z2)]) (rest := []) ⟨hx, hb, hml, hown, hts⟩ (c_X9_spotAt l g T (z1) ⟨by omega, by omega⟩ (z2) ⟨by omega, by omega⟩) ⟨callB_of 2 hts (gw_ws cm_X9_spotAt) rfl rfl rfl (hts _ (tw1 (i := 2) rfl)) (hts _ (tw9 (i := 4) rfl)) hd_X9_spotAt.2 ⟨Nat.le_trans (by decide) hR1, Nat.le_trans (by decide) hR2⟩, hts _ (tw9 (i := 5) rfl)⟩ (tf_preS hk hW trivial) rfl rfl hl.1 rfl (lv_room (Nat.le_of_ble_eq_true rfl)) dX9_spotOf_8 ⟨Nat.zero_le _, Nat.zero_le _⟩) hW (by decide) (fun z3 H3 locs3 hW hF3 hp3 => ?_)
  obtain ⟨hp3_0, hp3_1⟩ := hp3
  exact tf_reti (z := z3) hx hb hr hlocks hQ hW (show 51 ≤ (z3) ∧ (z3) ≤ 204 by omega) dX9_spotOf_11

abbrev M_X9_stepX : List (Nat × Nat) := []
set_option maxHeartbeats 4000000 in
set_option maxRecDepth 100000 in
theorem c_X9_stepX (l : Launch) (g : tf_G) (T : tf_T) (x0 : Int) (hp0 : (-2147483648) ≤ x0 ∧ x0 ≤ 2147483647) : Met l yX9_stepX (cd_X9_stepX :: wsL_law) ({ frames := 1, cells := 0, slots := 0, locals := 24 }) (tf_P g T [.int (Int32.ofInt x0)] (fun H => True)) (tf_Qi g M_X9_stepX T (fun z _ _ => (-1) ≤ z ∧ z ≤ 1)) 0 0 (fun q => tf_B g ≤ q) := by
  refine Met.ofW (cc := cX9_stepX) (maxL := 1) (ret := (some .int)) (by decide) rfl ?_
  intro p e s m args below meth c s₁ B hml hv
  obtain ⟨hargs, hk, hW0, hB, hpre⟩ := hv
  have hx := B.exec
  have hb := B.bytes
  have hr := B.returns
  have hts : ∀ w ∈ wsL_law, w.before args s = true := fun w h => atoms_spec (ws := cd_X9_stepX :: wsL_law) B.pre w (List.mem_cons_of_mem _ h)
  have hown : s.vm.findClass RX9 = some m.cls := findClass_of_methodNamed B.named
  have hlocks := B.notSynchronized
  have hK := hk.1
  have hW := tf_n.start (M := M_X9_stepX) hW0 hB
  obtain ⟨Q, hQ⟩ : ∃ q, q = MQ below (tf_Qi g M_X9_stepX T (fun z _ _ => (-1) ≤ z ∧ z ≤ 1)) args s 0 0 (fun q => tf_B g ≤ q) := ⟨_, rfl⟩
  rw [← hQ]
  obtain ⟨R, hR⟩ : ∃ q, q = (headSpec (cd_X9_stepX :: wsL_law) ({ frames := 1, cells := 0, slots := 0, locals := 24 })).room := ⟨_, rfl⟩
  rw [← hR]
  have hR1 : 1 ≤ R.frames := by rw [hR]; exact Nat.le_refl _
  have hR2 : 24 ≤ R.locals := by rw [hR]; exact Nat.le_refl _
  have hR3 : 0 ≤ R.cells := by rw [hR]; exact Nat.le_refl _
  have hR4 : 0 ≤ R.slots := by rw [hR]; exact Nat.le_refl _
  have hin := (name_of_methodNamed B.named B.method).1
  clear hR B
  refine tf_enter (As := [.int (Int32.ofInt x0)]) hargs (Nat.le_of_ble_eq_true rfl) (fun ls hl => ?_)
  have hl : lv_has ls 1 [(0, .int (Int32.ofInt x0))] := hl
  refine lv_iload_n hx hb dX9_stepX_0 rfl (lv_at hl 0 rfl) ?_
  refine tf_iconst hx hb dX9_stepX_1 ?_
  refine tf_icmp_ne (tgt := 9) hx hb ⟨by omega, by omega⟩ ⟨by decide, by decide⟩ dX9_stepX_2 (by decide) (fun h1 => ?_) (fun h1 => ?_)
  · refine lv_iload_n hx hb dX9_stepX_9 rfl (lv_at hl 0 rfl) ?_
    refine tf_iconst hx hb dX9_stepX_10 ?_
    refine tf_icmp_ne (tgt := 18) hx hb ⟨by omega, by omega⟩ ⟨by decide, by decide⟩ dX9_stepX_11 (by decide) (fun h2 => ?_) (fun h2 => ?_)
    · refine tf_iconst hx hb dX9_stepX_18 ?_
      exact tf_reti (z := 0) hx hb hr hlocks hQ hW (show (-1) ≤ (0) ∧ (0) ≤ 1 by omega) dX9_stepX_19
    · refine tf_iconst hx hb dX9_stepX_14 ?_
      refine lv_goto (tgt := 19) hx hb dX9_stepX_15 (by decide) ?_
      exact tf_reti (z := (-1)) hx hb hr hlocks hQ hW (show (-1) ≤ ((-1)) ∧ ((-1)) ≤ 1 by omega) dX9_stepX_19
  · refine tf_iconst hx hb dX9_stepX_5 ?_
    refine lv_goto (tgt := 19) hx hb dX9_stepX_6 (by decide) ?_
    exact tf_reti (z := 1) hx hb hr hlocks hQ hW (show (-1) ≤ (1) ∧ (1) ≤ 1 by omega) dX9_stepX_19

abbrev M_X9_stepY : List (Nat × Nat) := []
set_option maxHeartbeats 4000000 in
set_option maxRecDepth 100000 in
theorem c_X9_stepY (l : Launch) (g : tf_G) (T : tf_T) (x0 : Int) (hp0 : (-2147483648) ≤ x0 ∧ x0 ≤ 2147483647) : Met l yX9_stepY (cd_X9_stepY :: wsL_law) ({ frames := 1, cells := 0, slots := 0, locals := 24 }) (tf_P g T [.int (Int32.ofInt x0)] (fun H => True)) (tf_Qi g M_X9_stepY T (fun z _ _ => (-1) ≤ z ∧ z ≤ 1)) 0 0 (fun q => tf_B g ≤ q) := by
  refine Met.ofW (cc := cX9_stepY) (maxL := 1) (ret := (some .int)) (by decide) rfl ?_
  intro p e s m args below meth c s₁ B hml hv
  obtain ⟨hargs, hk, hW0, hB, hpre⟩ := hv
  have hx := B.exec
  have hb := B.bytes
  have hr := B.returns
  have hts : ∀ w ∈ wsL_law, w.before args s = true := fun w h => atoms_spec (ws := cd_X9_stepY :: wsL_law) B.pre w (List.mem_cons_of_mem _ h)
  have hown : s.vm.findClass RX9 = some m.cls := findClass_of_methodNamed B.named
  have hlocks := B.notSynchronized
  have hK := hk.1
  have hW := tf_n.start (M := M_X9_stepY) hW0 hB
  obtain ⟨Q, hQ⟩ : ∃ q, q = MQ below (tf_Qi g M_X9_stepY T (fun z _ _ => (-1) ≤ z ∧ z ≤ 1)) args s 0 0 (fun q => tf_B g ≤ q) := ⟨_, rfl⟩
  rw [← hQ]
  obtain ⟨R, hR⟩ : ∃ q, q = (headSpec (cd_X9_stepY :: wsL_law) ({ frames := 1, cells := 0, slots := 0, locals := 24 })).room := ⟨_, rfl⟩
  rw [← hR]
  have hR1 : 1 ≤ R.frames := by rw [hR]; exact Nat.le_refl _
  have hR2 : 24 ≤ R.locals := by rw [hR]; exact Nat.le_refl _
  have hR3 : 0 ≤ R.cells := by rw [hR]; exact Nat.le_refl _
  have hR4 : 0 ≤ R.slots := by rw [hR]; exact Nat.le_refl _
  have hin := (name_of_methodNamed B.named B.method).1
  clear hR B
  refine tf_enter (As := [.int (Int32.ofInt x0)]) hargs (Nat.le_of_ble_eq_true rfl) (fun ls hl => ?_)
  have hl : lv_has ls 1 [(0, .int (Int32.ofInt x0))] := hl
  refine lv_iload_n hx hb dX9_stepY_0 rfl (lv_at hl 0 rfl) ?_
  refine tf_if_ne (tgt := 8) hx hb ⟨by omega, by omega⟩ dX9_stepY_1 (by decide) (fun h1 => ?_) (fun h1 => ?_)
  · refine lv_iload_n hx hb dX9_stepY_8 rfl (lv_at hl 0 rfl) ?_
    refine tf_iconst hx hb dX9_stepY_9 ?_
    refine tf_icmp_ne (tgt := 17) hx hb ⟨by omega, by omega⟩ ⟨by decide, by decide⟩ dX9_stepY_10 (by decide) (fun h2 => ?_) (fun h2 => ?_)
    · refine tf_iconst hx hb dX9_stepY_17 ?_
      exact tf_reti (z := 0) hx hb hr hlocks hQ hW (show (-1) ≤ (0) ∧ (0) ≤ 1 by omega) dX9_stepY_18
    · refine tf_iconst hx hb dX9_stepY_13 ?_
      refine lv_goto (tgt := 18) hx hb dX9_stepY_14 (by decide) ?_
      exact tf_reti (z := 1) hx hb hr hlocks hQ hW (show (-1) ≤ (1) ∧ (1) ≤ 1 by omega) dX9_stepY_18
  · refine tf_iconst hx hb dX9_stepY_4 ?_
    refine lv_goto (tgt := 18) hx hb dX9_stepY_5 (by decide) ?_
    exact tf_reti (z := (-1)) hx hb hr hlocks hQ hW (show (-1) ≤ ((-1)) ∧ ((-1)) ≤ 1 by omega) dX9_stepY_18

abbrev M_X9_leastPaceAbove : List (Nat × Nat) := []
set_option maxHeartbeats 4000000 in
set_option maxRecDepth 100000 in
theorem c_X9_leastPaceAbove (l : Launch) (g : tf_G) (T : tf_T) (x0 : Int) (hp0 : (-2147483648) ≤ x0 ∧ x0 ≤ 2147483647) (x1 : Int) (hp1 : 0 ≤ x1 ∧ x1 ≤ 9999) : Met l yX9_leastPaceAbove (cd_X9_leastPaceAbove :: wsL_law) ({ frames := 1, cells := 0, slots := 0, locals := 40 }) (tf_P g T [.int (Int32.ofInt x0), .int (Int32.ofInt x1)] (fun H => True)) (tf_Qi g M_X9_leastPaceAbove T (fun z _ _ => 1 ≤ z ∧ z ≤ 10)) 0 0 (fun q => tf_B g ≤ q) := by
  refine Met.ofW (cc := cX9_leastPaceAbove) (maxL := 2) (ret := (some .int)) (by decide) rfl ?_
  intro p e s m args below meth c s₁ B hml hv
  obtain ⟨hargs, hk, hW0, hB, hpre⟩ := hv
  have hx := B.exec
  have hb := B.bytes
  have hr := B.returns
  have hts : ∀ w ∈ wsL_law, w.before args s = true := fun w h => atoms_spec (ws := cd_X9_leastPaceAbove :: wsL_law) B.pre w (List.mem_cons_of_mem _ h)
  have hown : s.vm.findClass RX9 = some m.cls := findClass_of_methodNamed B.named
  have hlocks := B.notSynchronized
  have hK := hk.1
  have hW := tf_n.start (M := M_X9_leastPaceAbove) hW0 hB
  obtain ⟨Q, hQ⟩ : ∃ q, q = MQ below (tf_Qi g M_X9_leastPaceAbove T (fun z _ _ => 1 ≤ z ∧ z ≤ 10)) args s 0 0 (fun q => tf_B g ≤ q) := ⟨_, rfl⟩
  rw [← hQ]
  obtain ⟨R, hR⟩ : ∃ q, q = (headSpec (cd_X9_leastPaceAbove :: wsL_law) ({ frames := 1, cells := 0, slots := 0, locals := 40 })).room := ⟨_, rfl⟩
  rw [← hR]
  have hR1 : 1 ≤ R.frames := by rw [hR]; exact Nat.le_refl _
  have hR2 : 40 ≤ R.locals := by rw [hR]; exact Nat.le_refl _
  have hR3 : 0 ≤ R.cells := by rw [hR]; exact Nat.le_refl _
  have hR4 : 0 ≤ R.slots := by rw [hR]; exact Nat.le_refl _
  have hin := (name_of_methodNamed B.named B.method).1
  clear hR B
  refine tf_enter (As := [.int (Int32.ofInt x0), .int (Int32.ofInt x1)]) hargs (Nat.le_of_ble_eq_true rfl) (fun ls hl => ?_)
  have hl : lv_has ls 2 [(0, .int (Int32.ofInt x0)), (1, .int (Int32.ofInt x1))] := hl
  refine lv_iload_n hx hb dX9_leastPaceAbove_0 rfl (lv_at hl 0 rfl) ?_
  refine tf_if_gt (tgt := 9) hx hb ⟨by omega, by omega⟩ dX9_leastPaceAbove_1 (by decide) (fun h1 => ?_) (fun h1 => ?_)
  · refine tf_bipush hx hb dX9_leastPaceAbove_9 (by decide) ?_
    refine tf_bipush hx hb dX9_leastPaceAbove_11 (by decide) ?_
    refine lv_iload_n hx hb dX9_leastPaceAbove_13 rfl (lv_at hl 1 rfl) ?_
    refine tf_imul hx hb dX9_leastPaceAbove_14 ?_
    refine lv_iload_n hx hb dX9_leastPaceAbove_15 rfl (lv_at hl 0 rfl) ?_
    refine tf_idiv_pos hx hb ⟨by omega, by omega⟩ (by omega) ⟨by omega, by omega⟩ (by omega) dX9_leastPaceAbove_16 (fun z2 hz2 => ?_)
    refine tf_iconst hx hb dX9_leastPaceAbove_17 ?_
    refine tf_iadd hx hb dX9_leastPaceAbove_18 ?_
    refine tf_mmin hx hb hml hl hown (hts _ (tw18 (i := 16) rfl)) (hts _ (tw18 (i := 17) rfl)) (hts _ (tw10 (i := 2) rfl)) (hts _ (tw18 (i := 18) rfl)) ⟨by decide, by decide⟩ ⟨by omega, by omega⟩ (Nat.le_of_ble_eq_true rfl) (Nat.le_trans (by decide) hR1) (Nat.le_trans (by decide) hR2) (Nat.zero_le _) (Nat.zero_le _) dX9_leastPaceAbove_19 (fun z3 hz3 => ?_)
    exact tf_reti (z := z3) hx hb hr hlocks hQ hW (show 1 ≤ (z3) ∧ (z3) ≤ 10 by omega) dX9_leastPaceAbove_22
  · refine tf_bipush hx hb dX9_leastPaceAbove_4 (by decide) ?_
    refine lv_goto (tgt := 22) hx hb dX9_leastPaceAbove_6 (by decide) ?_
    exact tf_reti (z := 10) hx hb hr hlocks hQ hW (show 1 ≤ (10) ∧ (10) ≤ 10 by omega) dX9_leastPaceAbove_22

abbrev M_X9_greatestDivisor : List (Nat × Nat) := []
set_option maxHeartbeats 4000000 in
set_option maxRecDepth 100000 in
theorem c_X9_greatestDivisor (l : Launch) (g : tf_G) (T : tf_T) (x0 : Int) (hp0 : (-2147483648) ≤ x0 ∧ x0 ≤ 2147483647) (x1 : Int) (hp1 : (-2147483648) ≤ x1 ∧ x1 ≤ 2147483647) : Met l yX9_greatestDivisor (cd_X9_greatestDivisor :: wsL_law) ({ frames := 1, cells := 0, slots := 0, locals := 24 }) (tf_P g T [.int (Int32.ofInt x0), .int (Int32.ofInt x1)] (fun H => True)) (tf_Qi g M_X9_greatestDivisor T (fun z _ _ => (-2147483648) ≤ z ∧ z ≤ 2147483647)) 0 0 (fun q => tf_B g ≤ q) := by
  refine Met.ofW (cc := cX9_greatestDivisor) (maxL := 6) (ret := (some .int)) (by decide) rfl ?_
  intro p e s m args below meth c s₁ B hml hv
  obtain ⟨hargs, hk, hW0, hB, hpre⟩ := hv
  have hx := B.exec
  have hb := B.bytes
  have hr := B.returns
  have hts : ∀ w ∈ wsL_law, w.before args s = true := fun w h => atoms_spec (ws := cd_X9_greatestDivisor :: wsL_law) B.pre w (List.mem_cons_of_mem _ h)
  have hown : s.vm.findClass RX9 = some m.cls := findClass_of_methodNamed B.named
  have hlocks := B.notSynchronized
  have hK := hk.1
  have hW := tf_n.start (M := M_X9_greatestDivisor) hW0 hB
  obtain ⟨Q, hQ⟩ : ∃ q, q = MQ below (tf_Qi g M_X9_greatestDivisor T (fun z _ _ => (-2147483648) ≤ z ∧ z ≤ 2147483647)) args s 0 0 (fun q => tf_B g ≤ q) := ⟨_, rfl⟩
  rw [← hQ]
  obtain ⟨R, hR⟩ : ∃ q, q = (headSpec (cd_X9_greatestDivisor :: wsL_law) ({ frames := 1, cells := 0, slots := 0, locals := 24 })).room := ⟨_, rfl⟩
  rw [← hR]
  have hR1 : 1 ≤ R.frames := by rw [hR]; exact Nat.le_refl _
  have hR2 : 24 ≤ R.locals := by rw [hR]; exact Nat.le_refl _
  have hR3 : 0 ≤ R.cells := by rw [hR]; exact Nat.le_refl _
  have hR4 : 0 ≤ R.slots := by rw [hR]; exact Nat.le_refl _
  have hin := (name_of_methodNamed B.named B.method).1
  clear hR B
  have j_7 : ∀ (n_7 : Nat), ∀ (x2_7 : Int), (-2147483648) ≤ x2_7 ∧ x2_7 ≤ 2147483647 → ∀ (x3_7 : Int), (-2147483648) ≤ x3_7 ∧ x3_7 ≤ 2147483647 → ∀ (x4_7 : Int), 0 ≤ x4_7 ∧ x4_7 ≤ 64 → (64 - x4_7 + 1 ≤ (n_7 : Int)) → ∀ (H : Heap) (locs : List Loc), tf_n tf_kt g M_X9_greatestDivisor T s.heap T H locs → ∀ (ls : Array Slot), lv_has ls 6 [(2, .int (Int32.ofInt x2_7)), (3, .int (Int32.ofInt x3_7)), (4, .int (Int32.ofInt x4_7))] → W p l e R s m args below meth c H locs 0 0 Q (F0 m 7 ls []) := by
    intro n_7
    induction n_7 with
    | zero =>
      intro x2_7 hx2_7 x3_7 hx3_7 x4_7 hx4_7 hm_7
      exfalso; omega
    | succ n_7 ih_7 =>
      intro x2_7 hx2_7 x3_7 hx3_7 x4_7 hx4_7 hm_7 H locs hW  ls hl
      refine lv_iload hx hb dX9_greatestDivisor_7 (lv_at hl 2 rfl) ?_
      refine tf_bipush hx hb dX9_greatestDivisor_9 (by decide) ?_
      refine tf_icmp_ge (tgt := 34) hx hb ⟨by omega, by omega⟩ ⟨by decide, by decide⟩ dX9_greatestDivisor_11 (by decide) (fun h1 => ?_) (fun h1 => ?_)
      · refine lv_iload_n hx hb dX9_greatestDivisor_34 rfl (lv_at hl 0 rfl) ?_
        exact tf_reti (z := x2_7) hx hb hr hlocks hQ hW (show (-2147483648) ≤ (x2_7) ∧ (x2_7) ≤ 2147483647 by omega) dX9_greatestDivisor_35
      · refine lv_iload_n hx hb dX9_greatestDivisor_14 rfl (lv_at hl 1 rfl) ?_
        refine tf_if_eq (tgt := 34) hx hb ⟨by omega, by omega⟩ dX9_greatestDivisor_15 (by decide) (fun h2 => ?_) (fun h2 => ?_)
        · refine lv_iload_n hx hb dX9_greatestDivisor_34 rfl (lv_at hl 0 rfl) ?_
          exact tf_reti (z := x2_7) hx hb hr hlocks hQ hW (show (-2147483648) ≤ (x2_7) ∧ (x2_7) ≤ 2147483647 by omega) dX9_greatestDivisor_35
        · refine lv_iload_n hx hb dX9_greatestDivisor_18 rfl (lv_at hl 0 rfl) ?_
          refine lv_iload_n hx hb dX9_greatestDivisor_19 rfl (lv_at hl 1 rfl) ?_
          refine tf_irem_any hx hb (by omega) ⟨by omega, by omega⟩ dX9_greatestDivisor_20 (fun z3 hz3 => ?_)
          refine lv_istore (lv' := [(5, .int (Int32.ofInt z3)), (2, .int (Int32.ofInt x2_7)), (3, .int (Int32.ofInt x3_7)), (4, .int (Int32.ofInt x4_7))]) hx hb dX9_greatestDivisor_21 hl (by decide) rfl (fun ls hl => ?_)
          refine lv_iload_n hx hb dX9_greatestDivisor_23 rfl (lv_at hl 2 rfl) ?_
          refine lv_istore_n (lv' := [(2, .int (Int32.ofInt x3_7)), (5, .int (Int32.ofInt z3)), (3, .int (Int32.ofInt x3_7)), (4, .int (Int32.ofInt x4_7))]) hx hb dX9_greatestDivisor_24 rfl hl (by decide) rfl (fun ls hl => ?_)
          refine lv_iload hx hb dX9_greatestDivisor_25 (lv_at hl 1 rfl) ?_
          refine lv_istore_n (lv' := [(3, .int (Int32.ofInt z3)), (2, .int (Int32.ofInt x3_7)), (5, .int (Int32.ofInt z3)), (4, .int (Int32.ofInt x4_7))]) hx hb dX9_greatestDivisor_27 rfl hl (by decide) rfl (fun ls hl => ?_)
          refine lv_iinc (v := Int32.ofInt ((x4_7 + 1))) (lv' := [(4, .int (Int32.ofInt ((x4_7 + 1)))), (3, .int (Int32.ofInt z3)), (2, .int (Int32.ofInt x3_7)), (5, .int (Int32.ofInt z3))]) hx hb dX9_greatestDivisor_28 hl (k := 3) rfl (Int32.ofInt_add _ _).symm (by decide) rfl (fun ls hl => ?_)
          refine lv_goto (tgt := 7) hx hb dX9_greatestDivisor_31 (by decide) ?_
          exact ih_7 (x3_7) ⟨by omega, by omega⟩ (z3) ⟨by omega, by omega⟩ ((x4_7 + 1)) ⟨by omega, by omega⟩ (by omega) _ _ hW  _ (lv_sub hl [2, 1, 0] rfl)
  refine tf_enter (As := [.int (Int32.ofInt x0), .int (Int32.ofInt x1)]) hargs (Nat.le_of_ble_eq_true rfl) (fun ls hl => ?_)
  have hl : lv_has ls 6 [(0, .int (Int32.ofInt x0)), (1, .int (Int32.ofInt x1))] := hl
  refine lv_iload_n hx hb dX9_greatestDivisor_0 rfl (lv_at hl 0 rfl) ?_
  refine lv_istore_n (lv' := [(2, .int (Int32.ofInt x0)), (0, .int (Int32.ofInt x0)), (1, .int (Int32.ofInt x1))]) hx hb dX9_greatestDivisor_1 rfl hl (by decide) rfl (fun ls hl => ?_)
  refine lv_iload_n hx hb dX9_greatestDivisor_2 rfl (lv_at hl 2 rfl) ?_
  refine lv_istore_n (lv' := [(3, .int (Int32.ofInt x1)), (2, .int (Int32.ofInt x0)), (0, .int (Int32.ofInt x0)), (1, .int (Int32.ofInt x1))]) hx hb dX9_greatestDivisor_3 rfl hl (by decide) rfl (fun ls hl => ?_)
  refine tf_iconst hx hb dX9_greatestDivisor_4 ?_
  refine lv_istore (lv' := [(4, .int (Int32.ofInt 0)), (3, .int (Int32.ofInt x1)), (2, .int (Int32.ofInt x0)), (0, .int (Int32.ofInt x0)), (1, .int (Int32.ofInt x1))]) hx hb dX9_greatestDivisor_5 hl (by decide) rfl (fun ls hl => ?_)
  exact j_7 ((64 - 0 + 1 : Int)).toNat (x0) ⟨by omega, by omega⟩ (x1) ⟨by omega, by omega⟩ (0) ⟨by omega, by omega⟩ (by omega) _ _ hW  _ (lv_sub hl [2, 1, 0] rfl)

abbrev M_X5_has : List (Nat × Nat) := []
set_option maxHeartbeats 4000000 in
set_option maxRecDepth 100000 in
theorem c_X5_has (l : Launch) (g : tf_G) (T : tf_T) (a0 : Nat) (ha0 : T a0 = some (22, 0)) (x1 : Int) (hp1 : (-2147483648) ≤ x1 ∧ x1 ≤ 2147483647) : Met l yX5_has (cd_X5_has :: wsL_law) ({ frames := 1, cells := 0, slots := 0, locals := 24 }) (tf_P g T [.ref a0, .int (Int32.ofInt x1)] (fun H => True)) (tf_Qi g M_X5_has T (fun z _ _ => (z = 1 ∧ 0 ≤ x1 ∧ x1 ≤ 5) ∨ (z = 0))) 0 0 (fun q => tf_B g ≤ q) := by
  refine Met.ofW (cc := cX5_has) (maxL := 2) (ret := (some .boolean)) (by decide) rfl ?_
  intro p e s m args below meth c s₁ B hml hv
  obtain ⟨hargs, hk, hW0, hB, hpre⟩ := hv
  have hx := B.exec
  have hb := B.bytes
  have hr := B.returns
  have hts : ∀ w ∈ wsL_law, w.before args s = true := fun w h => atoms_spec (ws := cd_X5_has :: wsL_law) B.pre w (List.mem_cons_of_mem _ h)
  have hown : s.vm.findClass RX5 = some m.cls := findClass_of_methodNamed B.named
  have hlocks := B.notSynchronized
  have hK := hk.1
  have hW := tf_n.start (M := M_X5_has) hW0 hB
  obtain ⟨Q, hQ⟩ : ∃ q, q = MQ below (tf_Qi g M_X5_has T (fun z _ _ => (z = 1 ∧ 0 ≤ x1 ∧ x1 ≤ 5) ∨ (z = 0))) args s 0 0 (fun q => tf_B g ≤ q) := ⟨_, rfl⟩
  rw [← hQ]
  obtain ⟨R, hR⟩ : ∃ q, q = (headSpec (cd_X5_has :: wsL_law) ({ frames := 1, cells := 0, slots := 0, locals := 24 })).room := ⟨_, rfl⟩
  rw [← hR]
  have hR1 : 1 ≤ R.frames := by rw [hR]; exact Nat.le_refl _
  have hR2 : 24 ≤ R.locals := by rw [hR]; exact Nat.le_refl _
  have hR3 : 0 ≤ R.cells := by rw [hR]; exact Nat.le_refl _
  have hR4 : 0 ≤ R.slots := by rw [hR]; exact Nat.le_refl _
  have hin := (name_of_methodNamed B.named B.method).1
  clear hR B
  refine tf_enter (As := [.ref a0, .int (Int32.ofInt x1)]) hargs (Nat.le_of_ble_eq_true rfl) (fun ls hl => ?_)
  have hl : lv_has ls 2 [(0, .ref a0), (1, .int (Int32.ofInt x1))] := hl
  refine lv_iload_n hx hb dX5_has_0 rfl (lv_at hl 1 rfl) ?_
  refine tf_if_lt (tgt := 16) hx hb ⟨by omega, by omega⟩ dX5_has_1 (by decide) (fun h1 => ?_) (fun h1 => ?_)
  · refine tf_iconst hx hb dX5_has_16 ?_
    exact tf_retz (z := 0) hx hb hr hlocks hQ hW (by omega) (show ((0) = 1 ∧ 0 ≤ x1 ∧ x1 ≤ 5) ∨ ((0) = 0) by omega) dX5_has_17
  · refine lv_iload_n hx hb dX5_has_4 rfl (lv_at hl 1 rfl) ?_
    refine lv_aload_n hx hb dX5_has_5 rfl (lv_at hl 0 rfl) ?_
    refine tf_get hx hb hts inlX5 hown hK (ci := 5) rfl hW ha0 rfl 4 rfl (by decide) (hts _ fl_X5_24) dX5_has_6 (fun v2 hv2 hsv2 => ?_)
    obtain ⟨z3, rfl, hz3⟩ := tf_v0 hv2
    refine tf_icmp_ge (tgt := 16) hx hb ⟨by omega, by omega⟩ ⟨by omega, by omega⟩ dX5_has_9 (by decide) (fun h4 => ?_) (fun h4 => ?_)
    · refine tf_iconst hx hb dX5_has_16 ?_
      exact tf_retz (z := 0) hx hb hr hlocks hQ hW (by omega) (show ((0) = 1 ∧ 0 ≤ x1 ∧ x1 ≤ 5) ∨ ((0) = 0) by omega) dX5_has_17
    · refine tf_iconst hx hb dX5_has_12 ?_
      refine lv_goto (tgt := 17) hx hb dX5_has_13 (by decide) ?_
      exact tf_retz (z := 1) hx hb hr hlocks hQ hW (by omega) (show ((1) = 1 ∧ 0 ≤ x1 ∧ x1 ≤ 5) ∨ ((1) = 0) by omega) dX5_has_17

abbrev M_X5_in : List (Nat × Nat) := []
set_option maxHeartbeats 4000000 in
set_option maxRecDepth 100000 in
theorem c_X5_in (l : Launch) (g : tf_G) (T : tf_T) (a0 : Nat) (ha0 : T a0 = some (22, 0)) (x1 : Int) (hp1 : 0 ≤ x1 ∧ x1 ≤ 99) : Met l yX5_in (cd_X5_in :: wsL_law) ({ frames := 1, cells := 0, slots := 0, locals := 24 }) (tf_P g T [.ref a0, .int (Int32.ofInt x1)] (fun H => True)) (tf_Qi g M_X5_in T (fun z _ _ => (-2147483648) ≤ z ∧ z ≤ 2147483647)) 0 0 (fun q => tf_B g ≤ q) := by
  refine Met.ofW (cc := cX5_in) (maxL := 5) (ret := (some .int)) (by decide) rfl ?_
  intro p e s m args below meth c s₁ B hml hv
  obtain ⟨hargs, hk, hW0, hB, hpre⟩ := hv
  have hx := B.exec
  have hb := B.bytes
  have hr := B.returns
  have hts : ∀ w ∈ wsL_law, w.before args s = true := fun w h => atoms_spec (ws := cd_X5_in :: wsL_law) B.pre w (List.mem_cons_of_mem _ h)
  have hown : s.vm.findClass RX5 = some m.cls := findClass_of_methodNamed B.named
  have hlocks := B.notSynchronized
  have hK := hk.1
  have hW := tf_n.start (M := M_X5_in) hW0 hB
  obtain ⟨Q, hQ⟩ : ∃ q, q = MQ below (tf_Qi g M_X5_in T (fun z _ _ => (-2147483648) ≤ z ∧ z ≤ 2147483647)) args s 0 0 (fun q => tf_B g ≤ q) := ⟨_, rfl⟩
  rw [← hQ]
  obtain ⟨R, hR⟩ : ∃ q, q = (headSpec (cd_X5_in :: wsL_law) ({ frames := 1, cells := 0, slots := 0, locals := 24 })).room := ⟨_, rfl⟩
  rw [← hR]
  have hR1 : 1 ≤ R.frames := by rw [hR]; exact Nat.le_refl _
  have hR2 : 24 ≤ R.locals := by rw [hR]; exact Nat.le_refl _
  have hR3 : 0 ≤ R.cells := by rw [hR]; exact Nat.le_refl _
  have hR4 : 0 ≤ R.slots := by rw [hR]; exact Nat.le_refl _
  have hin := (name_of_methodNamed B.named B.method).1
  clear hR B
  have j_13 : ∀ (n_13 : Nat), ∀ (x2_13 : Int), 0 ≤ x2_13 ∧ x2_13 ≤ 9 → ∀ (x3_13 : Int), 0 ≤ x3_13 ∧ x3_13 ≤ 9 → ∀ (x4_13 : Int), 0 ≤ x4_13 ∧ x4_13 ≤ 6 → (6 - x4_13 + 1 ≤ (n_13 : Int)) → ∀ (H : Heap) (locs : List Loc), tf_n tf_kt g M_X5_in T s.heap T H locs → ∀ (ls : Array Slot), lv_has ls 5 [(0, .ref a0), (2, .int (Int32.ofInt x2_13)), (3, .int (Int32.ofInt x3_13)), (4, .int (Int32.ofInt x4_13))] → W p l e R s m args below meth c H locs 0 0 Q (F0 m 13 ls []) := by
    intro n_13
    induction n_13 with
    | zero =>
      intro x2_13 hx2_13 x3_13 hx3_13 x4_13 hx4_13 hm_13
      exfalso; omega
    | succ n_13 ih_13 =>
      intro x2_13 hx2_13 x3_13 hx3_13 x4_13 hx4_13 hm_13 H locs hW  ls hl
      have j_85 : 0 ≤ x2_13 ∧ x2_13 ≤ 9 → 0 ≤ x3_13 ∧ x3_13 ≤ 9 → 0 ≤ x4_13 ∧ x4_13 ≤ 5 → ∀ (H : Heap) (locs : List Loc), tf_n tf_kt g M_X5_in T s.heap T H locs → ∀ (ls : Array Slot), lv_has ls 5 [(0, .ref a0), (2, .int (Int32.ofInt x2_13)), (3, .int (Int32.ofInt x3_13)), (4, .int (Int32.ofInt x4_13))] → W p l e R s m args below meth c H locs 0 0 Q (F0 m 85 ls []) := by
        intro hx2_85 hx3_85 hx4_85 H locs hW  ls hl
        refine lv_iinc (v := Int32.ofInt ((x4_13 + 1))) (lv' := [(4, .int (Int32.ofInt ((x4_13 + 1)))), (0, .ref a0), (2, .int (Int32.ofInt x2_13)), (3, .int (Int32.ofInt x3_13))]) hx hb dX5_in_85 hl (k := 3) rfl (Int32.ofInt_add _ _).symm (by decide) rfl (fun ls hl => ?_)
        refine lv_goto (tgt := 13) hx hb dX5_in_88 (by decide) ?_
        exact ih_13 (x2_13) ⟨by omega, by omega⟩ (x3_13) ⟨by omega, by omega⟩ ((x4_13 + 1)) ⟨by omega, by omega⟩ (by omega) _ _ hW  _ (lv_sub hl [1, 2, 3, 0] rfl)
      refine lv_iload hx hb dX5_in_13 (lv_at hl 3 rfl) ?_
      refine lv_aload_n hx hb dX5_in_15 rfl (lv_at hl 0 rfl) ?_
      refine tf_get hx hb hts inlX5 hown hK (ci := 5) rfl hW ha0 rfl 4 rfl (by decide) (hts _ fl_X5_24) dX5_in_16 (fun v1 hv1 hsv1 => ?_)
      obtain ⟨z2, rfl, hz2⟩ := tf_v0 hv1
      refine tf_icmp_ge (tgt := 91) hx hb ⟨by omega, by omega⟩ ⟨by omega, by omega⟩ dX5_in_19 (by decide) (fun h3 => ?_) (fun h3 => ?_)
      · refine tf_iconst hx hb dX5_in_91 ?_
        exact tf_reti (z := (-1)) hx hb hr hlocks hQ hW (show (-2147483648) ≤ ((-1)) ∧ ((-1)) ≤ 2147483647 by omega) dX5_in_92
      · refine lv_iload_n hx hb dX5_in_22 rfl (lv_at hl 1 rfl) ?_
        refine lv_aload_n hx hb dX5_in_23 rfl (lv_at hl 0 rfl) ?_
        refine tf_get hx hb hts inlX5 hown hK (ci := 5) rfl hW ha0 rfl 0 rfl (by decide) (hts _ fl_X5_9) dX5_in_24 (fun v4 hv4 hsv4 => ?_)
        obtain ⟨ad5, rfl, had5⟩ := tf_v1 hv4
        refine lv_iload hx hb dX5_in_27 (lv_at hl 3 rfl) ?_
        refine tf_iald (t0 := 0) hx hb hK hW had5 rfl rfl (by omega) (by omega) dX5_in_29 (fun v6 hv6 hsv6 => ?_)
        obtain ⟨z7, rfl, hz7⟩ := tf_v0 hv6
        refine tf_icmp_lt (tgt := 85) hx hb ⟨by omega, by omega⟩ ⟨by omega, by omega⟩ dX5_in_30 (by decide) (fun h8 => ?_) (fun h8 => ?_)
        · exact j_85 ⟨by omega, by omega⟩ ⟨by omega, by omega⟩ ⟨by omega, by omega⟩ _ _ hW  _ (lv_sub hl [0, 1, 2, 3] rfl)
        · refine lv_iload_n hx hb dX5_in_33 rfl (lv_at hl 1 rfl) ?_
          refine lv_aload_n hx hb dX5_in_34 rfl (lv_at hl 0 rfl) ?_
          refine tf_get hx hb hts inlX5 hown hK (ci := 5) rfl hW ha0 rfl 0 rfl (by decide) (hts _ fl_X5_9) dX5_in_35 (fun v9 hv9 hsv9 => ?_)
          obtain rfl : v9 = .ref ad5 := Option.some.inj (hsv9.symm.trans hsv4)
          refine lv_iload hx hb dX5_in_38 (lv_at hl 3 rfl) ?_
          refine tf_iald (t0 := 0) hx hb hK hW had5 rfl rfl (by omega) (by omega) dX5_in_40 (fun v10 hv10 hsv10 => ?_)
          obtain ⟨z11, rfl, hz11⟩ := tf_v0 hv10
          refine lv_aload_n hx hb dX5_in_41 rfl (lv_at hl 0 rfl) ?_
          refine tf_get hx hb hts inlX5 hown hK (ci := 5) rfl hW ha0 rfl 2 rfl (by decide) (hts _ fl_X5_18) dX5_in_42 (fun v12 hv12 hsv12 => ?_)
          obtain ⟨ad13, rfl, had13⟩ := tf_v1 hv12
          refine lv_iload hx hb dX5_in_45 (lv_at hl 3 rfl) ?_
          refine tf_iald (t0 := 0) hx hb hK hW had13 rfl rfl (by omega) (by omega) dX5_in_47 (fun v14 hv14 hsv14 => ?_)
          obtain ⟨z15, rfl, hz15⟩ := tf_v0 hv14
          refine tf_iadd hx hb dX5_in_48 ?_
          refine tf_icmp_ge (tgt := 85) hx hb ⟨by omega, by omega⟩ ⟨by omega, by omega⟩ dX5_in_49 (by decide) (fun h16 => ?_) (fun h16 => ?_)
          · exact j_85 ⟨by omega, by omega⟩ ⟨by omega, by omega⟩ ⟨by omega, by omega⟩ _ _ hW  _ (lv_sub hl [0, 1, 2, 3] rfl)
          · refine lv_iload_n hx hb dX5_in_52 rfl (lv_at hl 2 rfl) ?_
            refine lv_aload_n hx hb dX5_in_53 rfl (lv_at hl 0 rfl) ?_
            refine tf_get hx hb hts inlX5 hown hK (ci := 5) rfl hW ha0 rfl 1 rfl (by decide) (hts _ fl_X5_15) dX5_in_54 (fun v17 hv17 hsv17 => ?_)
            obtain ⟨ad18, rfl, had18⟩ := tf_v1 hv17
            refine lv_iload hx hb dX5_in_57 (lv_at hl 3 rfl) ?_
            refine tf_iald (t0 := 0) hx hb hK hW had18 rfl rfl (by omega) (by omega) dX5_in_59 (fun v19 hv19 hsv19 => ?_)
            obtain ⟨z20, rfl, hz20⟩ := tf_v0 hv19
            refine tf_icmp_lt (tgt := 85) hx hb ⟨by omega, by omega⟩ ⟨by omega, by omega⟩ dX5_in_60 (by decide) (fun h21 => ?_) (fun h21 => ?_)
            · exact j_85 ⟨by omega, by omega⟩ ⟨by omega, by omega⟩ ⟨by omega, by omega⟩ _ _ hW  _ (lv_sub hl [0, 1, 2, 3] rfl)
            · refine lv_iload_n hx hb dX5_in_63 rfl (lv_at hl 2 rfl) ?_
              refine lv_aload_n hx hb dX5_in_64 rfl (lv_at hl 0 rfl) ?_
              refine tf_get hx hb hts inlX5 hown hK (ci := 5) rfl hW ha0 rfl 1 rfl (by decide) (hts _ fl_X5_15) dX5_in_65 (fun v22 hv22 hsv22 => ?_)
              obtain rfl : v22 = .ref ad18 := Option.some.inj (hsv22.symm.trans hsv17)
              refine lv_iload hx hb dX5_in_68 (lv_at hl 3 rfl) ?_
              refine tf_iald (t0 := 0) hx hb hK hW had18 rfl rfl (by omega) (by omega) dX5_in_70 (fun v23 hv23 hsv23 => ?_)
              obtain ⟨z24, rfl, hz24⟩ := tf_v0 hv23
              refine lv_aload_n hx hb dX5_in_71 rfl (lv_at hl 0 rfl) ?_
              refine tf_get hx hb hts inlX5 hown hK (ci := 5) rfl hW ha0 rfl 3 rfl (by decide) (hts _ fl_X5_21) dX5_in_72 (fun v25 hv25 hsv25 => ?_)
              obtain ⟨ad26, rfl, had26⟩ := tf_v1 hv25
              refine lv_iload hx hb dX5_in_75 (lv_at hl 3 rfl) ?_
              refine tf_iald (t0 := 0) hx hb hK hW had26 rfl rfl (by omega) (by omega) dX5_in_77 (fun v27 hv27 hsv27 => ?_)
              obtain ⟨z28, rfl, hz28⟩ := tf_v0 hv27
              refine tf_iadd hx hb dX5_in_78 ?_
              refine tf_icmp_ge (tgt := 85) hx hb ⟨by omega, by omega⟩ ⟨by omega, by omega⟩ dX5_in_79 (by decide) (fun h29 => ?_) (fun h29 => ?_)
              · exact j_85 ⟨by omega, by omega⟩ ⟨by omega, by omega⟩ ⟨by omega, by omega⟩ _ _ hW  _ (lv_sub hl [0, 1, 2, 3] rfl)
              · refine lv_iload hx hb dX5_in_82 (lv_at hl 3 rfl) ?_
                exact tf_reti (z := x4_13) hx hb hr hlocks hQ hW (show (-2147483648) ≤ (x4_13) ∧ (x4_13) ≤ 2147483647 by omega) dX5_in_84
  refine tf_enter (As := [.ref a0, .int (Int32.ofInt x1)]) hargs (Nat.le_of_ble_eq_true rfl) (fun ls hl => ?_)
  have hl : lv_has ls 5 [(0, .ref a0), (1, .int (Int32.ofInt x1))] := hl
  refine lv_iload_n hx hb dX5_in_0 rfl (lv_at hl 1 rfl) ?_
  refine tf_bipush hx hb dX5_in_1 (by decide) ?_
  refine tf_irem hx hb ⟨by omega, by omega⟩ (by omega) ⟨by decide, by decide⟩ (by decide) dX5_in_3 ?_
  refine tf_name (fun z30 ez30 => ?_)
  refine lv_istore_n (lv' := [(2, .int (Int32.ofInt z30)), (0, .ref a0), (1, .int (Int32.ofInt x1))]) hx hb dX5_in_4 rfl hl (by decide) rfl (fun ls hl => ?_)
  refine lv_iload_n hx hb dX5_in_5 rfl (lv_at hl 2 rfl) ?_
  refine tf_bipush hx hb dX5_in_6 (by decide) ?_
  refine tf_idiv hx hb ⟨by omega, by omega⟩ (by omega) ⟨by decide, by decide⟩ (by decide) dX5_in_8 ?_
  refine tf_name (fun z31 ez31 => ?_)
  refine lv_istore_n (lv' := [(3, .int (Int32.ofInt z31)), (2, .int (Int32.ofInt z30)), (0, .ref a0), (1, .int (Int32.ofInt x1))]) hx hb dX5_in_9 rfl hl (by decide) rfl (fun ls hl => ?_)
  refine tf_iconst hx hb dX5_in_10 ?_
  refine lv_istore (lv' := [(4, .int (Int32.ofInt 0)), (3, .int (Int32.ofInt z31)), (2, .int (Int32.ofInt z30)), (0, .ref a0), (1, .int (Int32.ofInt x1))]) hx hb dX5_in_11 hl (by decide) rfl (fun ls hl => ?_)
  exact j_13 ((6 - 0 + 1 : Int)).toNat (z30) ⟨by omega, by omega⟩ (z31) ⟨by omega, by omega⟩ (0) ⟨by omega, by omega⟩ (by omega) _ _ hW  _ (lv_sub hl [3, 2, 1, 0] rfl)

abbrev M_X5_add : List (Nat × Nat) := [(2, 0), (22, 4)]
set_option maxHeartbeats 4000000 in
set_option maxRecDepth 100000 in
theorem c_X5_add (l : Launch) (g : tf_G) (T : tf_T) (a0 : Nat) (ha0 : T a0 = some (22, 0)) (x1 : Int) (hp1 : 0 ≤ x1 ∧ x1 ≤ 9) (x2 : Int) (hp2 : 0 ≤ x2 ∧ x2 ≤ 9) (x3 : Int) (hp3 : 0 ≤ x3 ∧ x3 ≤ 9) (x4 : Int) (hp4 : 0 ≤ x4 ∧ x4 ≤ 9) : Met l yX5_add (cd_X5_add :: wsL_law) ({ frames := 1, cells := 0, slots := 0, locals := 24 }) (tf_P g T [.ref a0, .int (Int32.ofInt x1), .int (Int32.ofInt x2), .int (Int32.ofInt x3), .int (Int32.ofInt x4)] (fun H => True)) (tf_Qi g M_X5_add T (fun z _ _ => (-2147483648) ≤ z ∧ z ≤ 2147483647)) 0 0 (fun q => tf_B g ≤ q) := by
  refine Met.ofW (cc := cX5_add) (maxL := 5) (ret := (some .int)) (by decide) rfl ?_
  intro p e s m args below meth c s₁ B hml hv
  obtain ⟨hargs, hk, hW0, hB, hpre⟩ := hv
  have hx := B.exec
  have hb := B.bytes
  have hr := B.returns
  have hts : ∀ w ∈ wsL_law, w.before args s = true := fun w h => atoms_spec (ws := cd_X5_add :: wsL_law) B.pre w (List.mem_cons_of_mem _ h)
  have hown : s.vm.findClass RX5 = some m.cls := findClass_of_methodNamed B.named
  have hlocks := B.notSynchronized
  have hK := hk.1
  have hW := tf_n.start (M := M_X5_add) hW0 hB
  obtain ⟨Q, hQ⟩ : ∃ q, q = MQ below (tf_Qi g M_X5_add T (fun z _ _ => (-2147483648) ≤ z ∧ z ≤ 2147483647)) args s 0 0 (fun q => tf_B g ≤ q) := ⟨_, rfl⟩
  rw [← hQ]
  obtain ⟨R, hR⟩ : ∃ q, q = (headSpec (cd_X5_add :: wsL_law) ({ frames := 1, cells := 0, slots := 0, locals := 24 })).room := ⟨_, rfl⟩
  rw [← hR]
  have hR1 : 1 ≤ R.frames := by rw [hR]; exact Nat.le_refl _
  have hR2 : 24 ≤ R.locals := by rw [hR]; exact Nat.le_refl _
  have hR3 : 0 ≤ R.cells := by rw [hR]; exact Nat.le_refl _
  have hR4 : 0 ≤ R.slots := by rw [hR]; exact Nat.le_refl _
  have hin := (name_of_methodNamed B.named B.method).1
  clear hR B
  refine tf_enter (As := [.ref a0, .int (Int32.ofInt x1), .int (Int32.ofInt x2), .int (Int32.ofInt x3), .int (Int32.ofInt x4)]) hargs (Nat.le_of_ble_eq_true rfl) (fun ls hl => ?_)
  have hl : lv_has ls 5 [(0, .ref a0), (1, .int (Int32.ofInt x1)), (2, .int (Int32.ofInt x2)), (3, .int (Int32.ofInt x3)), (4, .int (Int32.ofInt x4))] := hl
  refine lv_aload_n hx hb dX5_add_0 rfl (lv_at hl 0 rfl) ?_
  refine tf_get hx hb hts inlX5 hown hK (ci := 5) rfl hW ha0 rfl 4 rfl (by decide) (hts _ fl_X5_24) dX5_add_1 (fun v1 hv1 hsv1 => ?_)
  obtain ⟨z2, rfl, hz2⟩ := tf_v0 hv1
  refine tf_bipush hx hb dX5_add_4 (by decide) ?_
  refine tf_icmp_lt (tgt := 11) hx hb ⟨by omega, by omega⟩ ⟨by decide, by decide⟩ dX5_add_6 (by decide) (fun h3 => ?_) (fun h3 => ?_)
  · refine lv_aload_n hx hb dX5_add_11 rfl (lv_at hl 0 rfl) ?_
    refine tf_get hx hb hts inlX5 hown hK (ci := 5) rfl hW ha0 rfl 0 rfl (by decide) (hts _ fl_X5_9) dX5_add_12 (fun v4 hv4 hsv4 => ?_)
    obtain ⟨ad5, rfl, had5⟩ := tf_v1 hv4
    refine lv_aload_n hx hb dX5_add_15 rfl (lv_at hl 0 rfl) ?_
    refine tf_get hx hb hts inlX5 hown hK (ci := 5) rfl hW ha0 rfl 4 rfl (by decide) (hts _ fl_X5_24) dX5_add_16 (fun v6 hv6 hsv6 => ?_)
    obtain rfl : v6 = .int (Int32.ofInt z2) := Option.some.inj (hsv6.symm.trans hsv1)
    refine lv_iload_n hx hb dX5_add_19 rfl (lv_at hl 1 rfl) ?_
    refine tf_iast (t0 := 0) hx hb hK hW had5 rfl rfl (by omega) (by omega) (by decide) (tf_u0 (by omega) (by omega)) dX5_add_20 (fun H7 locs7 hW hs7 ht7 hq7 => ?_)
    have hs8 := tf_keepQ hsv1 (hq7 _ (tf_ne ha0 had5 (by decide)))
    refine lv_aload_n hx hb dX5_add_21 rfl (lv_at hl 0 rfl) ?_
    refine tf_get hx hb hts inlX5 hown hK (ci := 5) rfl hW ha0 rfl 1 rfl (by decide) (hts _ fl_X5_15) dX5_add_22 (fun v9 hv9 hsv9 => ?_)
    obtain ⟨ad10, rfl, had10⟩ := tf_v1 hv9
    refine lv_aload_n hx hb dX5_add_25 rfl (lv_at hl 0 rfl) ?_
    refine tf_get hx hb hts inlX5 hown hK (ci := 5) rfl hW ha0 rfl 4 rfl (by decide) (hts _ fl_X5_24) dX5_add_26 (fun v11 hv11 hsv11 => ?_)
    obtain rfl : v11 = .int (Int32.ofInt z2) := Option.some.inj (hsv11.symm.trans hs8)
    refine lv_iload_n hx hb dX5_add_29 rfl (lv_at hl 2 rfl) ?_
    refine tf_iast (t0 := 0) hx hb hK hW had10 rfl rfl (by omega) (by omega) (by decide) (tf_u0 (by omega) (by omega)) dX5_add_30 (fun H12 locs12 hW hs12 ht12 hq12 => ?_)
    have hs13 := tf_keepQ hs8 (hq12 _ (tf_ne ha0 had10 (by decide)))
    refine lv_aload_n hx hb dX5_add_31 rfl (lv_at hl 0 rfl) ?_
    refine tf_get hx hb hts inlX5 hown hK (ci := 5) rfl hW ha0 rfl 2 rfl (by decide) (hts _ fl_X5_18) dX5_add_32 (fun v14 hv14 hsv14 => ?_)
    obtain ⟨ad15, rfl, had15⟩ := tf_v1 hv14
    refine lv_aload_n hx hb dX5_add_35 rfl (lv_at hl 0 rfl) ?_
    refine tf_get hx hb hts inlX5 hown hK (ci := 5) rfl hW ha0 rfl 4 rfl (by decide) (hts _ fl_X5_24) dX5_add_36 (fun v16 hv16 hsv16 => ?_)
    obtain rfl : v16 = .int (Int32.ofInt z2) := Option.some.inj (hsv16.symm.trans hs13)
    refine lv_iload_n hx hb dX5_add_39 rfl (lv_at hl 3 rfl) ?_
    refine tf_iast (t0 := 0) hx hb hK hW had15 rfl rfl (by omega) (by omega) (by decide) (tf_u0 (by omega) (by omega)) dX5_add_40 (fun H17 locs17 hW hs17 ht17 hq17 => ?_)
    have hs18 := tf_keepQ hs13 (hq17 _ (tf_ne ha0 had15 (by decide)))
    refine lv_aload_n hx hb dX5_add_41 rfl (lv_at hl 0 rfl) ?_
    refine tf_get hx hb hts inlX5 hown hK (ci := 5) rfl hW ha0 rfl 3 rfl (by decide) (hts _ fl_X5_21) dX5_add_42 (fun v19 hv19 hsv19 => ?_)
    obtain ⟨ad20, rfl, had20⟩ := tf_v1 hv19
    refine lv_aload_n hx hb dX5_add_45 rfl (lv_at hl 0 rfl) ?_
    refine tf_get hx hb hts inlX5 hown hK (ci := 5) rfl hW ha0 rfl 4 rfl (by decide) (hts _ fl_X5_24) dX5_add_46 (fun v21 hv21 hsv21 => ?_)
    obtain rfl : v21 = .int (Int32.ofInt z2) := Option.some.inj (hsv21.symm.trans hs18)
    refine lv_iload hx hb dX5_add_49 (lv_at hl 4 rfl) ?_
    refine tf_iast (t0 := 0) hx hb hK hW had20 rfl rfl (by omega) (by omega) (by decide) (tf_u0 (by omega) (by omega)) dX5_add_51 (fun H22 locs22 hW hs22 ht22 hq22 => ?_)
    have hs23 := tf_keepQ hs18 (hq22 _ (tf_ne ha0 had20 (by decide)))
    refine lv_aload_n hx hb dX5_add_52 rfl (lv_at hl 0 rfl) ?_
    refine lv_dup hx hb dX5_add_53 rfl ?_
    refine tf_get hx hb hts inlX5 hown hK (ci := 5) rfl hW ha0 rfl 4 rfl (by decide) (hts _ fl_X5_24) dX5_add_54 (fun v24 hv24 hsv24 => ?_)
    obtain rfl : v24 = .int (Int32.ofInt z2) := Option.some.inj (hsv24.symm.trans hs23)
    refine tf_iconst hx hb dX5_add_57 ?_
    refine tf_iadd hx hb dX5_add_58 ?_
    refine tf_put hx hb hts inlX5 tyX5 tyX5_ok nmX5 hown hK (ci := 5) rfl hW ha0 rfl rfl 4 rfl (by decide) (by decide) (hts _ fl_X5_24) rfl (tf_u0 (by omega) (by omega)) rfl rfl dX5_add_59 (fun H25 locs25 hW hs25 ht25 hq25 => ?_)
    refine lv_aload_n hx hb dX5_add_62 rfl (lv_at hl 0 rfl) ?_
    refine tf_get hx hb hts inlX5 hown hK (ci := 5) rfl hW ha0 rfl 4 rfl (by decide) (hts _ fl_X5_24) dX5_add_63 (fun v26 hv26 hsv26 => ?_)
    obtain rfl : v26 = .int (Int32.ofInt ((z2 + 1))) := Option.some.inj (hsv26.symm.trans hs25)
    refine tf_iconst hx hb dX5_add_66 ?_
    refine tf_isub hx hb dX5_add_67 ?_
    exact tf_reti (z := ((z2 + 1) - 1)) hx hb hr hlocks hQ hW (show (-2147483648) ≤ (((z2 + 1) - 1)) ∧ (((z2 + 1) - 1)) ≤ 2147483647 by omega) dX5_add_68
  · refine tf_iconst hx hb dX5_add_9 ?_
    exact tf_reti (z := (-1)) hx hb hr hlocks hQ hW (show (-2147483648) ≤ ((-1)) ∧ ((-1)) ≤ 2147483647 by omega) dX5_add_10

abbrev M_X0_stand : List (Nat × Nat) := [(1, 0)]
set_option maxHeartbeats 4000000 in
set_option maxRecDepth 100000 in
theorem c_X0_stand (l : Launch) (g : tf_G) (T : tf_T) (a0 : Nat) (ha0 : T a0 = some (17, 0)) (x1 : Int) (hp1 : (-10) ≤ x1 ∧ x1 ≤ 99) (x2 : Int) (hp2 : (-10) ≤ x2 ∧ x2 ≤ 99) (x3 : Int) (hp3 : 0 ≤ x3 ∧ x3 ≤ 9) (x4 : Int) (hp4 : 0 ≤ x4 ∧ x4 ≤ 9) (x5 : Int) (hp5 : (-2147483648) ≤ x5 ∧ x5 ≤ 2147483647) : Met l yX0_stand (cd_X0_stand :: wsL_law) ({ frames := 2, cells := 0, slots := 0, locals := 45 }) (tf_P g T [.ref a0, .int (Int32.ofInt x1), .int (Int32.ofInt x2), .int (Int32.ofInt x3), .int (Int32.ofInt x4), .int (Int32.ofInt x5)] (fun H => True)) (tf_Qv g M_X0_stand T (fun _ H => True)) 0 0 (fun q => tf_B g ≤ q) := by
  refine Met.ofW (cc := cX0_stand) (maxL := 9) (ret := none) (by decide) rfl ?_
  intro p e s m args below meth c s₁ B hml hv
  obtain ⟨hargs, hk, hW0, hB, hpre⟩ := hv
  have hx := B.exec
  have hb := B.bytes
  have hr := B.returns
  have hts : ∀ w ∈ wsL_law, w.before args s = true := fun w h => atoms_spec (ws := cd_X0_stand :: wsL_law) B.pre w (List.mem_cons_of_mem _ h)
  have hown : s.vm.findClass RX0 = some m.cls := findClass_of_methodNamed B.named
  have hlocks := B.notSynchronized
  have hK := hk.1
  have hW := tf_n.start (M := M_X0_stand) hW0 hB
  obtain ⟨Q, hQ⟩ : ∃ q, q = MQ below (tf_Qv g M_X0_stand T (fun _ H => True)) args s 0 0 (fun q => tf_B g ≤ q) := ⟨_, rfl⟩
  rw [← hQ]
  obtain ⟨R, hR⟩ : ∃ q, q = (headSpec (cd_X0_stand :: wsL_law) ({ frames := 2, cells := 0, slots := 0, locals := 45 })).room := ⟨_, rfl⟩
  rw [← hR]
  have hR1 : 2 ≤ R.frames := by rw [hR]; exact Nat.le_refl _
  have hR2 : 45 ≤ R.locals := by rw [hR]; exact Nat.le_refl _
  have hR3 : 0 ≤ R.cells := by rw [hR]; exact Nat.le_refl _
  have hR4 : 0 ≤ R.slots := by rw [hR]; exact Nat.le_refl _
  have hin := (name_of_methodNamed B.named B.method).1
  clear hR B
  have j_7 : ∀ (n_7 : Nat), (-10) ≤ x1 ∧ x1 ≤ 99 → (-10) ≤ x2 ∧ x2 ≤ 99 → 0 ≤ x3 ∧ x3 ≤ 9 → 0 ≤ x4 ∧ x4 ≤ 9 → (-2147483648) ≤ x5 ∧ x5 ≤ 2147483647 → ∀ (x6_7 : Int), 0 ≤ x6_7 ∧ x6_7 ≤ 99 → (99 - x6_7 + 1 ≤ (n_7 : Int)) → ∀ (H : Heap) (locs : List Loc), tf_n tf_kt g M_X0_stand T s.heap T H locs → ∀ (ls : Array Slot), lv_has ls 9 [(0, .ref a0), (1, .int (Int32.ofInt x1)), (2, .int (Int32.ofInt x2)), (3, .int (Int32.ofInt x3)), (4, .int (Int32.ofInt x4)), (5, .int (Int32.ofInt x5)), (6, .int (Int32.ofInt x6_7))] → W p l e R s m args below meth c H locs 0 0 Q (F0 m 7 ls []) := by
    intro n_7
    induction n_7 with
    | zero =>
      intro hx1_7 hx2_7 hx3_7 hx4_7 hx5_7 x6_7 hx6_7 hm_7
      exfalso; omega
    | succ n_7 ih_7 =>
      intro hx1_7 hx2_7 hx3_7 hx4_7 hx5_7 x6_7 hx6_7 hm_7 H locs hW  ls hl
      have j_93 : (-10) ≤ x1 ∧ x1 ≤ 99 → (-10) ≤ x2 ∧ x2 ≤ 99 → 0 ≤ x3 ∧ x3 ≤ 9 → 0 ≤ x4 ∧ x4 ≤ 9 → (-2147483648) ≤ x5 ∧ x5 ≤ 2147483647 → 0 ≤ x6_7 ∧ x6_7 ≤ 9 → ∀ (H : Heap) (locs : List Loc), tf_n tf_kt g M_X0_stand T s.heap T H locs → ∀ (ls : Array Slot), lv_has ls 9 [(0, .ref a0), (1, .int (Int32.ofInt x1)), (2, .int (Int32.ofInt x2)), (3, .int (Int32.ofInt x3)), (4, .int (Int32.ofInt x4)), (5, .int (Int32.ofInt x5)), (6, .int (Int32.ofInt x6_7))] → W p l e R s m args below meth c H locs 0 0 Q (F0 m 93 ls []) := by
        intro hx1_93 hx2_93 hx3_93 hx4_93 hx5_93 hx6_93 H locs hW  ls hl
        refine lv_iinc (v := Int32.ofInt ((x6_7 + 1))) (lv' := [(6, .int (Int32.ofInt ((x6_7 + 1)))), (0, .ref a0), (1, .int (Int32.ofInt x1)), (2, .int (Int32.ofInt x2)), (3, .int (Int32.ofInt x3)), (4, .int (Int32.ofInt x4)), (5, .int (Int32.ofInt x5))]) hx hb dX0_stand_93 hl (k := 6) rfl (Int32.ofInt_add _ _).symm (by decide) rfl (fun ls hl => ?_)
        refine lv_goto (tgt := 7) hx hb dX0_stand_96 (by decide) ?_
        exact ih_7 ⟨by omega, by omega⟩ ⟨by omega, by omega⟩ ⟨by omega, by omega⟩ ⟨by omega, by omega⟩ ⟨by omega, by omega⟩ ((x6_7 + 1)) ⟨by omega, by omega⟩ (by omega) _ _ hW  _ (lv_sub hl [1, 2, 3, 4, 5, 6, 0] rfl)
      have j_30 : ∀ (n_30 : Nat), (-10) ≤ x1 ∧ x1 ≤ 99 → (-10) ≤ x2 ∧ x2 ≤ 99 → 0 ≤ x3 ∧ x3 ≤ 9 → 0 ≤ x4 ∧ x4 ≤ 9 → (-2147483648) ≤ x5 ∧ x5 ≤ 2147483647 → 0 ≤ x6_7 ∧ x6_7 ≤ 9 → ∀ (x7_30 : Int), 0 ≤ x7_30 ∧ x7_30 ≤ 99 → (99 - x7_30 + 1 ≤ (n_30 : Int)) → ∀ (H : Heap) (locs : List Loc), tf_n tf_kt g M_X0_stand T s.heap T H locs → ∀ (ls : Array Slot), lv_has ls 9 [(0, .ref a0), (1, .int (Int32.ofInt x1)), (2, .int (Int32.ofInt x2)), (3, .int (Int32.ofInt x3)), (4, .int (Int32.ofInt x4)), (5, .int (Int32.ofInt x5)), (6, .int (Int32.ofInt x6_7)), (7, .int (Int32.ofInt x7_30))] → W p l e R s m args below meth c H locs 0 0 Q (F0 m 30 ls []) := by
        intro n_30
        induction n_30 with
        | zero =>
          intro hx1_30 hx2_30 hx3_30 hx4_30 hx5_30 hx6_30 x7_30 hx7_30 hm_30
          exfalso; omega
        | succ n_30 ih_30 =>
          intro hx1_30 hx2_30 hx3_30 hx4_30 hx5_30 hx6_30 x7_30 hx7_30 hm_30 H locs hW  ls hl
          refine lv_iload hx hb dX0_stand_30 (lv_at hl 7 rfl) ?_
          refine lv_iload_n hx hb dX0_stand_32 rfl (lv_at hl 1 rfl) ?_
          refine lv_iload_n hx hb dX0_stand_33 rfl (lv_at hl 3 rfl) ?_
          refine tf_iadd hx hb dX0_stand_34 ?_
          refine tf_icmp_ge (tgt := 93) hx hb ⟨by omega, by omega⟩ ⟨by omega, by omega⟩ dX0_stand_35 (by decide) (fun h1 => ?_) (fun h1 => ?_)
          · exact j_93 ⟨by omega, by omega⟩ ⟨by omega, by omega⟩ ⟨by omega, by omega⟩ ⟨by omega, by omega⟩ ⟨by omega, by omega⟩ ⟨by omega, by omega⟩ _ _ hW  _ (lv_sub hl [0, 1, 2, 3, 4, 5, 6] rfl)
          · refine lv_iload hx hb dX0_stand_38 (lv_at hl 7 rfl) ?_
            refine tf_bipush hx hb dX0_stand_40 (by decide) ?_
            refine tf_icmp_ge (tgt := 93) hx hb ⟨by omega, by omega⟩ ⟨by decide, by decide⟩ dX0_stand_42 (by decide) (fun h2 => ?_) (fun h2 => ?_)
            · exact j_93 ⟨by omega, by omega⟩ ⟨by omega, by omega⟩ ⟨by omega, by omega⟩ ⟨by omega, by omega⟩ ⟨by omega, by omega⟩ ⟨by omega, by omega⟩ _ _ hW  _ (lv_sub hl [0, 1, 2, 3, 4, 5, 6] rfl)
            · refine lv_iload hx hb dX0_stand_45 (lv_at hl 7 rfl) ?_
              refine lv_iload hx hb dX0_stand_47 (lv_at hl 6 rfl) ?_
              refine tf_calli (va_runSN (As := [.int (Int32.ofInt x7_30), .int (Int32.ofInt x6_7)]) (rest := []) ⟨hx, hb, hml, hown, hts⟩ (c_X9_spotAt l g T (x7_30) ⟨by omega, by omega⟩ (x6_7) ⟨by omega, by omega⟩) ⟨va_cnB 2 hts (gw_ws cm_X9_spotAt) rfl rfl rfl (hk.2.1 _ nw_13) (hts _ (tw1 (i := 2) rfl)) hd_X9_spotAt.2 ⟨Nat.le_trans (by decide) hR1, Nat.le_trans (by decide) hR2⟩, hts _ (tw9 (i := 5) rfl), trivial⟩ (tf_preS hk hW trivial) rfl rfl hl.1 rfl (lv_room (Nat.le_of_ble_eq_true rfl)) dX0_stand_49 ⟨Nat.zero_le _, Nat.zero_le _⟩) hW (by decide) (fun z3 H3 locs3 hW hF3 hp3 => ?_)
              obtain ⟨hp3_0, hp3_1⟩ := hp3
              refine lv_istore (lv' := [(8, .int (Int32.ofInt z3)), (0, .ref a0), (1, .int (Int32.ofInt x1)), (2, .int (Int32.ofInt x2)), (3, .int (Int32.ofInt x3)), (4, .int (Int32.ofInt x4)), (5, .int (Int32.ofInt x5)), (6, .int (Int32.ofInt x6_7)), (7, .int (Int32.ofInt x7_30))]) hx hb dX0_stand_52 hl (by decide) rfl (fun ls hl => ?_)
              refine lv_aload_n hx hb dX0_stand_54 rfl (lv_at hl 1 rfl) ?_
              refine tf_get hx hb hts inlX0 hown hK (ci := 0) rfl hW ha0 rfl 0 rfl (by decide) (hts _ fl_X0_9) dX0_stand_55 (fun v4 hv4 hsv4 => ?_)
              obtain ⟨ad5, rfl, had5⟩ := tf_v1 hv4
              refine lv_iload hx hb dX0_stand_58 (lv_at hl 0 rfl) ?_
              refine lv_iload hx hb dX0_stand_60 (lv_at hl 6 rfl) ?_
              refine tf_iast (t0 := 0) hx hb hK hW had5 rfl rfl (by omega) (by omega) (by decide) (tf_u0 (by omega) (by omega)) dX0_stand_62 (fun H6 locs6 hW hs6 ht6 hq6 => ?_)
              refine lv_aload_n hx hb dX0_stand_63 rfl (lv_at hl 1 rfl) ?_
              refine tf_get hx hb hts inlX0 hown hK (ci := 0) rfl hW ha0 rfl 1 rfl (by decide) (hts _ fl_X0_15) dX0_stand_64 (fun v7 hv7 hsv7 => ?_)
              obtain ⟨ad8, rfl, had8⟩ := tf_v1 hv7
              refine lv_iload hx hb dX0_stand_67 (lv_at hl 0 rfl) ?_
              refine tf_iconst hx hb dX0_stand_69 ?_
              refine tf_iast (t0 := 0) hx hb hK hW had8 rfl rfl (by omega) (by omega) (by decide) (tf_u0 (by omega) (by omega)) dX0_stand_70 (fun H9 locs9 hW hs9 ht9 hq9 => ?_)
              refine lv_aload_n hx hb dX0_stand_71 rfl (lv_at hl 1 rfl) ?_
              refine tf_get hx hb hts inlX0 hown hK (ci := 0) rfl hW ha0 rfl 2 rfl (by decide) (hts _ fl_X0_18) dX0_stand_72 (fun v10 hv10 hsv10 => ?_)
              obtain ⟨ad11, rfl, had11⟩ := tf_v1 hv10
              refine lv_iload hx hb dX0_stand_75 (lv_at hl 0 rfl) ?_
              refine tf_iconst hx hb dX0_stand_77 ?_
              refine tf_iast (t0 := 0) hx hb hK hW had11 rfl rfl (by omega) (by omega) (by decide) (tf_u0 (by omega) (by omega)) dX0_stand_78 (fun H12 locs12 hW hs12 ht12 hq12 => ?_)
              refine lv_aload_n hx hb dX0_stand_79 rfl (lv_at hl 1 rfl) ?_
              refine tf_get hx hb hts inlX0 hown hK (ci := 0) rfl hW ha0 rfl 3 rfl (by decide) (hts _ fl_X0_21) dX0_stand_80 (fun v13 hv13 hsv13 => ?_)
              obtain ⟨ad14, rfl, had14⟩ := tf_v1 hv13
              refine lv_iload hx hb dX0_stand_83 (lv_at hl 0 rfl) ?_
              refine tf_iconst hx hb dX0_stand_85 ?_
              refine tf_iast (t0 := 0) hx hb hK hW had14 rfl rfl (by omega) (by omega) (by decide) (tf_u0 (by omega) (by omega)) dX0_stand_86 (fun H15 locs15 hW hs15 ht15 hq15 => ?_)
              refine lv_iinc (v := Int32.ofInt ((x7_30 + 1))) (lv' := [(7, .int (Int32.ofInt ((x7_30 + 1)))), (8, .int (Int32.ofInt z3)), (0, .ref a0), (1, .int (Int32.ofInt x1)), (2, .int (Int32.ofInt x2)), (3, .int (Int32.ofInt x3)), (4, .int (Int32.ofInt x4)), (5, .int (Int32.ofInt x5)), (6, .int (Int32.ofInt x6_7))]) hx hb dX0_stand_87 hl (k := 8) rfl (Int32.ofInt_add _ _).symm (by decide) rfl (fun ls hl => ?_)
              refine lv_goto (tgt := 30) hx hb dX0_stand_90 (by decide) ?_
              exact ih_30 ⟨by omega, by omega⟩ ⟨by omega, by omega⟩ ⟨by omega, by omega⟩ ⟨by omega, by omega⟩ ⟨by omega, by omega⟩ ⟨by omega, by omega⟩ ((x7_30 + 1)) ⟨by omega, by omega⟩ (by omega) _ _ hW  _ (lv_sub hl [2, 3, 4, 5, 6, 7, 8, 0] rfl)
      refine lv_iload hx hb dX0_stand_7 (lv_at hl 6 rfl) ?_
      refine lv_iload_n hx hb dX0_stand_9 rfl (lv_at hl 2 rfl) ?_
      refine lv_iload hx hb dX0_stand_10 (lv_at hl 4 rfl) ?_
      refine tf_iadd hx hb dX0_stand_12 ?_
      refine tf_icmp_ge (tgt := 99) hx hb ⟨by omega, by omega⟩ ⟨by omega, by omega⟩ dX0_stand_13 (by decide) (fun h16 => ?_) (fun h16 => ?_)
      · exact tf_retv hx hb hr hlocks hQ hW trivial dX0_stand_99
      · refine lv_iload hx hb dX0_stand_16 (lv_at hl 6 rfl) ?_
        refine tf_bipush hx hb dX0_stand_18 (by decide) ?_
        refine tf_icmp_ge (tgt := 99) hx hb ⟨by omega, by omega⟩ ⟨by decide, by decide⟩ dX0_stand_20 (by decide) (fun h17 => ?_) (fun h17 => ?_)
        · exact tf_retv hx hb hr hlocks hQ hW trivial dX0_stand_99
        · refine lv_iload_n hx hb dX0_stand_23 rfl (lv_at hl 1 rfl) ?_
          refine tf_iconst hx hb dX0_stand_24 ?_
          refine tf_mmax hx hb hml hl hown (hts _ (tw10 (i := 0) rfl)) (hts _ (tw10 (i := 1) rfl)) (hts _ (tw10 (i := 2) rfl)) (hts _ (tw10 (i := 3) rfl)) ⟨by omega, by omega⟩ ⟨by decide, by decide⟩ (Nat.le_of_ble_eq_true rfl) (Nat.le_trans (by decide) hR1) (Nat.le_trans (by decide) hR2) (Nat.zero_le _) (Nat.zero_le _) dX0_stand_25 (fun z18 hz18 => ?_)
          refine lv_istore (lv' := [(7, .int (Int32.ofInt z18)), (0, .ref a0), (1, .int (Int32.ofInt x1)), (2, .int (Int32.ofInt x2)), (3, .int (Int32.ofInt x3)), (4, .int (Int32.ofInt x4)), (5, .int (Int32.ofInt x5)), (6, .int (Int32.ofInt x6_7))]) hx hb dX0_stand_28 hl (by decide) rfl (fun ls hl => ?_)
          exact j_30 ((99 - z18 + 1 : Int)).toNat ⟨by omega, by omega⟩ ⟨by omega, by omega⟩ ⟨by omega, by omega⟩ ⟨by omega, by omega⟩ ⟨by omega, by omega⟩ ⟨by omega, by omega⟩ (z18) ⟨by omega, by omega⟩ (by omega) _ _ hW  _ (lv_sub hl [1, 2, 3, 4, 5, 6, 7, 0] rfl)
  refine tf_enter (As := [.ref a0, .int (Int32.ofInt x1), .int (Int32.ofInt x2), .int (Int32.ofInt x3), .int (Int32.ofInt x4), .int (Int32.ofInt x5)]) hargs (Nat.le_of_ble_eq_true rfl) (fun ls hl => ?_)
  have hl : lv_has ls 9 [(0, .ref a0), (1, .int (Int32.ofInt x1)), (2, .int (Int32.ofInt x2)), (3, .int (Int32.ofInt x3)), (4, .int (Int32.ofInt x4)), (5, .int (Int32.ofInt x5))] := hl
  refine lv_iload_n hx hb dX0_stand_0 rfl (lv_at hl 2 rfl) ?_
  refine tf_iconst hx hb dX0_stand_1 ?_
  refine tf_mmax hx hb hml hl hown (hts _ (tw10 (i := 0) rfl)) (hts _ (tw10 (i := 1) rfl)) (hts _ (tw10 (i := 2) rfl)) (hts _ (tw10 (i := 3) rfl)) ⟨by omega, by omega⟩ ⟨by decide, by decide⟩ (Nat.le_of_ble_eq_true rfl) (Nat.le_trans (by decide) hR1) (Nat.le_trans (by decide) hR2) (Nat.zero_le _) (Nat.zero_le _) dX0_stand_2 (fun z19 hz19 => ?_)
  refine lv_istore (lv' := [(6, .int (Int32.ofInt z19)), (0, .ref a0), (1, .int (Int32.ofInt x1)), (2, .int (Int32.ofInt x2)), (3, .int (Int32.ofInt x3)), (4, .int (Int32.ofInt x4)), (5, .int (Int32.ofInt x5))]) hx hb dX0_stand_5 hl (by decide) rfl (fun ls hl => ?_)
  exact j_7 ((99 - z19 + 1 : Int)).toNat ⟨by omega, by omega⟩ ⟨by omega, by omega⟩ ⟨by omega, by omega⟩ ⟨by omega, by omega⟩ ⟨by omega, by omega⟩ (z19) ⟨by omega, by omega⟩ (by omega) _ _ hW  _ (lv_sub hl [1, 2, 3, 4, 5, 6, 0] rfl)

abbrev M_X0_rowOf : List (Nat × Nat) := []
set_option maxHeartbeats 4000000 in
set_option maxRecDepth 100000 in
theorem c_X0_rowOf (l : Launch) (g : tf_G) (T : tf_T) (a0 : Nat) (ha0 : T a0 = some (17, 0)) (x1 : Int) (hp1 : (-2147483648) ≤ x1 ∧ x1 ≤ 2147483647) : Met l yX0_rowOf (cd_X0_rowOf :: wsL_law) ({ frames := 1, cells := 0, slots := 0, locals := 24 }) (tf_P g T [.ref a0, .int (Int32.ofInt x1)] (fun H => True)) (tf_Qa g M_X0_rowOf T (fun z _ _ => tf_v T 0 (1, 1, 256, 0, 0) z)) 0 0 (fun q => tf_B g ≤ q) := by
  refine Met.ofW (cc := cX0_rowOf) (maxL := 2) (ret := (some (.array .int))) (by decide) rfl ?_
  intro p e s m args below meth c s₁ B hml hv
  obtain ⟨hargs, hk, hW0, hB, hpre⟩ := hv
  have hx := B.exec
  have hb := B.bytes
  have hr := B.returns
  have hts : ∀ w ∈ wsL_law, w.before args s = true := fun w h => atoms_spec (ws := cd_X0_rowOf :: wsL_law) B.pre w (List.mem_cons_of_mem _ h)
  have hown : s.vm.findClass RX0 = some m.cls := findClass_of_methodNamed B.named
  have hlocks := B.notSynchronized
  have hK := hk.1
  have hW := tf_n.start (M := M_X0_rowOf) hW0 hB
  obtain ⟨Q, hQ⟩ : ∃ q, q = MQ below (tf_Qa g M_X0_rowOf T (fun z _ _ => tf_v T 0 (1, 1, 256, 0, 0) z)) args s 0 0 (fun q => tf_B g ≤ q) := ⟨_, rfl⟩
  rw [← hQ]
  obtain ⟨R, hR⟩ : ∃ q, q = (headSpec (cd_X0_rowOf :: wsL_law) ({ frames := 1, cells := 0, slots := 0, locals := 24 })).room := ⟨_, rfl⟩
  rw [← hR]
  have hR1 : 1 ≤ R.frames := by rw [hR]; exact Nat.le_refl _
  have hR2 : 24 ≤ R.locals := by rw [hR]; exact Nat.le_refl _
  have hR3 : 0 ≤ R.cells := by rw [hR]; exact Nat.le_refl _
  have hR4 : 0 ≤ R.slots := by rw [hR]; exact Nat.le_refl _
  have hin := (name_of_methodNamed B.named B.method).1
  clear hR B
  refine tf_enter (As := [.ref a0, .int (Int32.ofInt x1)]) hargs (Nat.le_of_ble_eq_true rfl) (fun ls hl => ?_)
  have hl : lv_has ls 2 [(0, .ref a0), (1, .int (Int32.ofInt x1))] := hl
  refine lv_iload_n hx hb dX0_rowOf_0 rfl (lv_at hl 1 rfl) ?_
  refine tf_if_ne (tgt := 11) hx hb ⟨by omega, by omega⟩ dX0_rowOf_1 (by decide) (fun h1 => ?_) (fun h1 => ?_)
  · refine lv_iload_n hx hb dX0_rowOf_11 rfl (lv_at hl 1 rfl) ?_
    refine tf_iconst hx hb dX0_rowOf_12 ?_
    refine tf_icmp_ne (tgt := 23) hx hb ⟨by omega, by omega⟩ ⟨by decide, by decide⟩ dX0_rowOf_13 (by decide) (fun h2 => ?_) (fun h2 => ?_)
    · refine lv_aload_n hx hb dX0_rowOf_23 rfl (lv_at hl 0 rfl) ?_
      refine tf_get hx hb hts inlX0 hown hK (ci := 0) rfl hW ha0 rfl 3 rfl (by decide) (hts _ fl_X0_21) dX0_rowOf_24 (fun v3 hv3 hsv3 => ?_)
      obtain ⟨ad4, rfl, had4⟩ := tf_v1 hv3
      exact tf_reta hx hb hr (by first | exact Or.inl ⟨_, rfl⟩ | exact Or.inr ⟨_, rfl⟩) (Or.inr ⟨_, rfl⟩) hlocks hQ hW (tf_u1 had4) dX0_rowOf_27
    · refine lv_aload_n hx hb dX0_rowOf_16 rfl (lv_at hl 0 rfl) ?_
      refine tf_get hx hb hts inlX0 hown hK (ci := 0) rfl hW ha0 rfl 2 rfl (by decide) (hts _ fl_X0_18) dX0_rowOf_17 (fun v5 hv5 hsv5 => ?_)
      obtain ⟨ad6, rfl, had6⟩ := tf_v1 hv5
      refine lv_goto (tgt := 27) hx hb dX0_rowOf_20 (by decide) ?_
      exact tf_reta hx hb hr (by first | exact Or.inl ⟨_, rfl⟩ | exact Or.inr ⟨_, rfl⟩) (Or.inr ⟨_, rfl⟩) hlocks hQ hW (tf_u1 had6) dX0_rowOf_27
  · refine lv_aload_n hx hb dX0_rowOf_4 rfl (lv_at hl 0 rfl) ?_
    refine tf_get hx hb hts inlX0 hown hK (ci := 0) rfl hW ha0 rfl 1 rfl (by decide) (hts _ fl_X0_15) dX0_rowOf_5 (fun v7 hv7 hsv7 => ?_)
    obtain ⟨ad8, rfl, had8⟩ := tf_v1 hv7
    refine lv_goto (tgt := 27) hx hb dX0_rowOf_8 (by decide) ?_
    exact tf_reta hx hb hr (by first | exact Or.inl ⟨_, rfl⟩ | exact Or.inr ⟨_, rfl⟩) (Or.inr ⟨_, rfl⟩) hlocks hQ hW (tf_u1 had8) dX0_rowOf_27

abbrev M_X3_isGround : List (Nat × Nat) := []
set_option maxHeartbeats 4000000 in
set_option maxRecDepth 100000 in
theorem c_X3_isGround (l : Launch) (g : tf_G) (T : tf_T) (a0 : Nat) (ha0 : T a0 = some (20, 0)) (x1 : Int) (hp1 : (-2147483648) ≤ x1 ∧ x1 ≤ 2147483647) : Met l yX3_isGround (cd_X3_isGround :: wsL_law) ({ frames := 3, cells := 0, slots := 0, locals := 65 }) (tf_P g T [.ref a0, .int (Int32.ofInt x1)] (fun H => True)) (tf_Qi g M_X3_isGround T (fun z _ _ => (z = 1 ∧ 0 ≤ x1 ∧ x1 ≤ 99) ∨ (z = 0))) 0 0 (fun q => tf_B g ≤ q) := by
  refine Met.ofW (cc := cX3_isGround) (maxL := 2) (ret := (some .boolean)) (by decide) rfl ?_
  intro p e s m args below meth c s₁ B hml hv
  obtain ⟨hargs, hk, hW0, hB, hpre⟩ := hv
  have hx := B.exec
  have hb := B.bytes
  have hr := B.returns
  have hts : ∀ w ∈ wsL_law, w.before args s = true := fun w h => atoms_spec (ws := cd_X3_isGround :: wsL_law) B.pre w (List.mem_cons_of_mem _ h)
  have hown : s.vm.findClass RX3 = some m.cls := findClass_of_methodNamed B.named
  have hlocks := B.notSynchronized
  have hK := hk.1
  have hW := tf_n.start (M := M_X3_isGround) hW0 hB
  obtain ⟨Q, hQ⟩ : ∃ q, q = MQ below (tf_Qi g M_X3_isGround T (fun z _ _ => (z = 1 ∧ 0 ≤ x1 ∧ x1 ≤ 99) ∨ (z = 0))) args s 0 0 (fun q => tf_B g ≤ q) := ⟨_, rfl⟩
  rw [← hQ]
  obtain ⟨R, hR⟩ : ∃ q, q = (headSpec (cd_X3_isGround :: wsL_law) ({ frames := 3, cells := 0, slots := 0, locals := 65 })).room := ⟨_, rfl⟩
  rw [← hR]
  have hR1 : 3 ≤ R.frames := by rw [hR]; exact Nat.le_refl _
  have hR2 : 65 ≤ R.locals := by rw [hR]; exact Nat.le_refl _
  have hR3 : 0 ≤ R.cells := by rw [hR]; exact Nat.le_refl _
  have hR4 : 0 ≤ R.slots := by rw [hR]; exact Nat.le_refl _
  have hin := (name_of_methodNamed B.named B.method).1
  clear hR B
  refine tf_enter (As := [.ref a0, .int (Int32.ofInt x1)]) hargs (Nat.le_of_ble_eq_true rfl) (fun ls hl => ?_)
  have hl : lv_has ls 2 [(0, .ref a0), (1, .int (Int32.ofInt x1))] := hl
  refine lv_iload_n hx hb dX3_isGround_0 rfl (lv_at hl 1 rfl) ?_
  refine tf_calli (va_runSN (As := [.int (Int32.ofInt x1)]) (rest := []) ⟨hx, hb, hml, hown, hts⟩ (c_X9_isCell l g T (x1) ⟨by omega, by omega⟩) ⟨va_cnB 1 hts (gw_ws cm_X9_isCell) rfl rfl rfl (hk.2.1 _ nw_11) (hts _ (tw1 (i := 2) rfl)) hd_X9_isCell.2 ⟨Nat.le_trans (by decide) hR1, Nat.le_trans (by decide) hR2⟩, hts _ (tw9 (i := 0) rfl), trivial⟩ (tf_preS hk hW trivial) rfl rfl hl.1 rfl (lv_room (Nat.le_of_ble_eq_true rfl)) dX3_isGround_1 ⟨Nat.zero_le _, Nat.zero_le _⟩) hW (by decide) (fun z1 H1 locs1 hW hF1 hp1 => ?_)
  rcases hp1 with ⟨rfl, h2, h3⟩ | ⟨rfl, h4⟩
  · refine tf_if_eq (tgt := 26) hx hb ⟨by decide, by decide⟩ dX3_isGround_4 (by decide) (fun h5 => ?_) (fun h5 => ?_)
    · exfalso; omega
    · refine lv_aload_n hx hb dX3_isGround_7 rfl (lv_at hl 0 rfl) ?_
      refine tf_get hx hb hts inlX3 hown hK (ci := 3) rfl hW ha0 rfl 0 rfl (by decide) (hts _ fl_X3_12) dX3_isGround_8 (fun v6 hv6 hsv6 => ?_)
      obtain ⟨ad7, rfl, had7⟩ := tf_v1 hv6
      refine tf_get hx hb hts inlX0 hown hK (ci := 0) rfl hW had7 rfl 0 rfl (by decide) (hts _ fl_X3_84) dX3_isGround_11 (fun v8 hv8 hsv8 => ?_)
      obtain ⟨ad9, rfl, had9⟩ := tf_v1 hv8
      refine lv_iload_n hx hb dX3_isGround_14 rfl (lv_at hl 1 rfl) ?_
      refine tf_calli (va_runSN (As := [.int (Int32.ofInt x1)]) (rest := [.ref ad9]) ⟨hx, hb, hml, hown, hts⟩ (c_X9_spotOf l g T (x1) ⟨by omega, by omega⟩) ⟨va_cnB 1 hts (gw_ws cm_X9_spotOf) rfl rfl rfl (hk.2.1 _ nw_12) (hts _ (tw1 (i := 2) rfl)) hd_X9_spotOf.2 ⟨Nat.le_trans (by decide) hR1, Nat.le_trans (by decide) hR2⟩, hts _ (tw9 (i := 2) rfl), trivial⟩ (tf_preS hk hW trivial) rfl rfl hl.1 rfl (lv_room (Nat.le_of_ble_eq_true rfl)) dX3_isGround_15 ⟨Nat.zero_le _, Nat.zero_le _⟩) hW (by decide) (fun z10 H10 locs10 hW hF10 hp10 => ?_)
      obtain ⟨hp10_0, hp10_1⟩ := hp10
      refine tf_iald (t0 := 0) hx hb hK hW had9 rfl rfl (by omega) (by omega) dX3_isGround_18 (fun v11 hv11 hsv11 => ?_)
      obtain ⟨z12, rfl, hz12⟩ := tf_v0 hv11
      refine tf_if_ne (tgt := 26) hx hb ⟨by omega, by omega⟩ dX3_isGround_19 (by decide) (fun h13 => ?_) (fun h13 => ?_)
      · refine tf_iconst hx hb dX3_isGround_26 ?_
        exact tf_retz (z := 0) hx hb hr hlocks hQ hW (by omega) (show ((0) = 1 ∧ 0 ≤ x1 ∧ x1 ≤ 99) ∨ ((0) = 0) by omega) dX3_isGround_27
      · refine tf_iconst hx hb dX3_isGround_22 ?_
        refine lv_goto (tgt := 27) hx hb dX3_isGround_23 (by decide) ?_
        exact tf_retz (z := 1) hx hb hr hlocks hQ hW (by omega) (show ((1) = 1 ∧ 0 ≤ x1 ∧ x1 ≤ 99) ∨ ((1) = 0) by omega) dX3_isGround_27
  · refine tf_if_eq (tgt := 26) hx hb ⟨by decide, by decide⟩ dX3_isGround_4 (by decide) (fun h14 => ?_) (fun h14 => ?_)
    · refine tf_iconst hx hb dX3_isGround_26 ?_
      exact tf_retz (z := 0) hx hb hr hlocks hQ hW (by omega) (show ((0) = 1 ∧ 0 ≤ x1 ∧ x1 ≤ 99) ∨ ((0) = 0) by omega) dX3_isGround_27
    · exfalso; omega

abbrev M_X8_takeOut : List (Nat × Nat) := [(9, 0), (25, 4)]
set_option maxHeartbeats 4000000 in
set_option maxRecDepth 100000 in
theorem c_X8_takeOut (l : Launch) (g : tf_G) (T : tf_T) (a0 : Nat) (ha0 : T a0 = some (25, 0)) (x1 : Int) (hp1 : (-2147483648) ≤ x1 ∧ x1 ≤ 2147483647) : Met l yX8_takeOut (cd_X8_takeOut :: wsL_law) ({ frames := 1, cells := 0, slots := 0, locals := 24 }) (tf_P g T [.ref a0, .int (Int32.ofInt x1)] (fun H => True)) (tf_Qv g M_X8_takeOut T (fun _ H => True)) 0 0 (fun q => tf_B g ≤ q) := by
  refine Met.ofW (cc := cX8_takeOut) (maxL := 3) (ret := none) (by decide) rfl ?_
  intro p e s m args below meth c s₁ B hml hv
  obtain ⟨hargs, hk, hW0, hB, hpre⟩ := hv
  have hx := B.exec
  have hb := B.bytes
  have hr := B.returns
  have hts : ∀ w ∈ wsL_law, w.before args s = true := fun w h => atoms_spec (ws := cd_X8_takeOut :: wsL_law) B.pre w (List.mem_cons_of_mem _ h)
  have hown : s.vm.findClass RX8 = some m.cls := findClass_of_methodNamed B.named
  have hlocks := B.notSynchronized
  have hK := hk.1
  have hW := tf_n.start (M := M_X8_takeOut) hW0 hB
  obtain ⟨Q, hQ⟩ : ∃ q, q = MQ below (tf_Qv g M_X8_takeOut T (fun _ H => True)) args s 0 0 (fun q => tf_B g ≤ q) := ⟨_, rfl⟩
  rw [← hQ]
  obtain ⟨R, hR⟩ : ∃ q, q = (headSpec (cd_X8_takeOut :: wsL_law) ({ frames := 1, cells := 0, slots := 0, locals := 24 })).room := ⟨_, rfl⟩
  rw [← hR]
  have hR1 : 1 ≤ R.frames := by rw [hR]; exact Nat.le_refl _
  have hR2 : 24 ≤ R.locals := by rw [hR]; exact Nat.le_refl _
  have hR3 : 0 ≤ R.cells := by rw [hR]; exact Nat.le_refl _
  have hR4 : 0 ≤ R.slots := by rw [hR]; exact Nat.le_refl _
  have hin := (name_of_methodNamed B.named B.method).1
  clear hR B
  have j_15 : ∀ (n_15 : Nat), ∀ (x2_15 : Int), 0 ≤ x2_15 ∧ x2_15 ≤ 7 → ∀ (f4_15 : Int), 1 ≤ f4_15 ∧ f4_15 ≤ 8 → (7 - x2_15 + 1 ≤ (n_15 : Int)) → ∀ (H : Heap) (locs : List Loc), tf_n tf_kt g M_X8_takeOut T s.heap T H locs → tf_s H a0 (g.1.2 8 4) = some (.int (Int32.ofInt f4_15)) → ∀ (ls : Array Slot), lv_has ls 3 [(0, .ref a0), (2, .int (Int32.ofInt x2_15))] → W p l e R s m args below meth c H locs 0 0 Q (F0 m 15 ls []) := by
    intro n_15
    induction n_15 with
    | zero =>
      intro x2_15 hx2_15 f4_15 hf4_15 hm_15
      exfalso; omega
    | succ n_15 ih_15 =>
      intro x2_15 hx2_15 f4_15 hf4_15 hm_15 H locs hW hs4_15 ls hl
      refine lv_iload_n hx hb dX8_takeOut_15 rfl (lv_at hl 1 rfl) ?_
      refine tf_iconst hx hb dX8_takeOut_16 ?_
      refine tf_iadd hx hb dX8_takeOut_17 ?_
      refine lv_aload_n hx hb dX8_takeOut_18 rfl (lv_at hl 0 rfl) ?_
      refine tf_get hx hb hts inlX8 hown hK (ci := 8) rfl hW ha0 rfl 4 rfl (by decide) (hts _ fl_X8_24) dX8_takeOut_19 (fun v1 hv1 hsv1 => ?_)
      obtain rfl : v1 = .int (Int32.ofInt f4_15) := Option.some.inj (hsv1.symm.trans hs4_15)
      refine tf_icmp_ge (tgt := 87) hx hb ⟨by omega, by omega⟩ ⟨by omega, by omega⟩ dX8_takeOut_22 (by decide) (fun h2 => ?_) (fun h2 => ?_)
      · refine lv_aload_n hx hb dX8_takeOut_87 rfl (lv_at hl 0 rfl) ?_
        refine lv_dup hx hb dX8_takeOut_88 rfl ?_
        refine tf_get hx hb hts inlX8 hown hK (ci := 8) rfl hW ha0 rfl 4 rfl (by decide) (hts _ fl_X8_24) dX8_takeOut_89 (fun v3 hv3 hsv3 => ?_)
        obtain rfl : v3 = .int (Int32.ofInt f4_15) := Option.some.inj (hsv3.symm.trans hs4_15)
        refine tf_iconst hx hb dX8_takeOut_92 ?_
        refine tf_isub hx hb dX8_takeOut_93 ?_
        refine tf_put hx hb hts inlX8 tyX8 tyX8_ok nmX8 hown hK (ci := 8) rfl hW ha0 rfl rfl 4 rfl (by decide) (by decide) (hts _ fl_X8_24) rfl (tf_u0 (by omega) (by omega)) rfl rfl dX8_takeOut_94 (fun H4 locs4 hW hs4 ht4 hq4 => ?_)
        exact tf_retv hx hb hr hlocks hQ hW trivial dX8_takeOut_97
      · refine lv_aload_n hx hb dX8_takeOut_25 rfl (lv_at hl 0 rfl) ?_
        refine tf_get hx hb hts inlX8 hown hK (ci := 8) rfl hW ha0 rfl 0 rfl (by decide) (hts _ fl_X8_9) dX8_takeOut_26 (fun v5 hv5 hsv5 => ?_)
        obtain ⟨ad6, rfl, had6⟩ := tf_v1 hv5
        refine lv_iload_n hx hb dX8_takeOut_29 rfl (lv_at hl 1 rfl) ?_
        refine lv_aload_n hx hb dX8_takeOut_30 rfl (lv_at hl 0 rfl) ?_
        refine tf_get hx hb hts inlX8 hown hK (ci := 8) rfl hW ha0 rfl 0 rfl (by decide) (hts _ fl_X8_9) dX8_takeOut_31 (fun v7 hv7 hsv7 => ?_)
        obtain rfl : v7 = .ref ad6 := Option.some.inj (hsv7.symm.trans hsv5)
        refine lv_iload_n hx hb dX8_takeOut_34 rfl (lv_at hl 1 rfl) ?_
        refine tf_iconst hx hb dX8_takeOut_35 ?_
        refine tf_iadd hx hb dX8_takeOut_36 ?_
        refine tf_iald (t0 := 0) hx hb hK hW had6 rfl rfl (by omega) (by omega) dX8_takeOut_37 (fun v8 hv8 hsv8 => ?_)
        obtain ⟨z9, rfl, hz9⟩ := tf_v0 hv8
        refine tf_iast (t0 := 0) hx hb hK hW had6 rfl rfl (by omega) (by omega) (by decide) (tf_u0 (by omega) (by omega)) dX8_takeOut_38 (fun H10 locs10 hW hs10 ht10 hq10 => ?_)
        have hs11 := tf_keepQ hs4_15 (hq10 _ (tf_ne ha0 had6 (by decide)))
        have hs12 := tf_keepQ hsv5 (hq10 _ (tf_ne ha0 had6 (by decide)))
        refine lv_aload_n hx hb dX8_takeOut_39 rfl (lv_at hl 0 rfl) ?_
        refine tf_get hx hb hts inlX8 hown hK (ci := 8) rfl hW ha0 rfl 1 rfl (by decide) (hts _ fl_X8_15) dX8_takeOut_40 (fun v13 hv13 hsv13 => ?_)
        obtain ⟨ad14, rfl, had14⟩ := tf_v1 hv13
        refine lv_iload_n hx hb dX8_takeOut_43 rfl (lv_at hl 1 rfl) ?_
        refine lv_aload_n hx hb dX8_takeOut_44 rfl (lv_at hl 0 rfl) ?_
        refine tf_get hx hb hts inlX8 hown hK (ci := 8) rfl hW ha0 rfl 1 rfl (by decide) (hts _ fl_X8_15) dX8_takeOut_45 (fun v15 hv15 hsv15 => ?_)
        obtain rfl : v15 = .ref ad14 := Option.some.inj (hsv15.symm.trans hsv13)
        refine lv_iload_n hx hb dX8_takeOut_48 rfl (lv_at hl 1 rfl) ?_
        refine tf_iconst hx hb dX8_takeOut_49 ?_
        refine tf_iadd hx hb dX8_takeOut_50 ?_
        refine tf_iald (t0 := 0) hx hb hK hW had14 rfl rfl (by omega) (by omega) dX8_takeOut_51 (fun v16 hv16 hsv16 => ?_)
        obtain ⟨z17, rfl, hz17⟩ := tf_v0 hv16
        refine tf_iast (t0 := 0) hx hb hK hW had14 rfl rfl (by omega) (by omega) (by decide) (tf_u0 (by omega) (by omega)) dX8_takeOut_52 (fun H18 locs18 hW hs18 ht18 hq18 => ?_)
        have hs19 := tf_keepQ hs11 (hq18 _ (tf_ne ha0 had14 (by decide)))
        have hs20 := tf_keepQ hs12 (hq18 _ (tf_ne ha0 had14 (by decide)))
        have hs21 := tf_keepQ hsv13 (hq18 _ (tf_ne ha0 had14 (by decide)))
        refine lv_aload_n hx hb dX8_takeOut_53 rfl (lv_at hl 0 rfl) ?_
        refine tf_get hx hb hts inlX8 hown hK (ci := 8) rfl hW ha0 rfl 2 rfl (by decide) (hts _ fl_X8_18) dX8_takeOut_54 (fun v22 hv22 hsv22 => ?_)
        obtain ⟨ad23, rfl, had23⟩ := tf_v1 hv22
        refine lv_iload_n hx hb dX8_takeOut_57 rfl (lv_at hl 1 rfl) ?_
        refine lv_aload_n hx hb dX8_takeOut_58 rfl (lv_at hl 0 rfl) ?_
        refine tf_get hx hb hts inlX8 hown hK (ci := 8) rfl hW ha0 rfl 2 rfl (by decide) (hts _ fl_X8_18) dX8_takeOut_59 (fun v24 hv24 hsv24 => ?_)
        obtain rfl : v24 = .ref ad23 := Option.some.inj (hsv24.symm.trans hsv22)
        refine lv_iload_n hx hb dX8_takeOut_62 rfl (lv_at hl 1 rfl) ?_
        refine tf_iconst hx hb dX8_takeOut_63 ?_
        refine tf_iadd hx hb dX8_takeOut_64 ?_
        refine tf_iald (t0 := 0) hx hb hK hW had23 rfl rfl (by omega) (by omega) dX8_takeOut_65 (fun v25 hv25 hsv25 => ?_)
        obtain ⟨z26, rfl, hz26⟩ := tf_v0 hv25
        refine tf_iast (t0 := 0) hx hb hK hW had23 rfl rfl (by omega) (by omega) (by decide) (tf_u0 (by omega) (by omega)) dX8_takeOut_66 (fun H27 locs27 hW hs27 ht27 hq27 => ?_)
        have hs28 := tf_keepQ hs19 (hq27 _ (tf_ne ha0 had23 (by decide)))
        have hs29 := tf_keepQ hs20 (hq27 _ (tf_ne ha0 had23 (by decide)))
        have hs30 := tf_keepQ hs21 (hq27 _ (tf_ne ha0 had23 (by decide)))
        have hs31 := tf_keepQ hsv22 (hq27 _ (tf_ne ha0 had23 (by decide)))
        refine lv_aload_n hx hb dX8_takeOut_67 rfl (lv_at hl 0 rfl) ?_
        refine tf_get hx hb hts inlX8 hown hK (ci := 8) rfl hW ha0 rfl 3 rfl (by decide) (hts _ fl_X8_21) dX8_takeOut_68 (fun v32 hv32 hsv32 => ?_)
        obtain ⟨ad33, rfl, had33⟩ := tf_v1 hv32
        refine lv_iload_n hx hb dX8_takeOut_71 rfl (lv_at hl 1 rfl) ?_
        refine lv_aload_n hx hb dX8_takeOut_72 rfl (lv_at hl 0 rfl) ?_
        refine tf_get hx hb hts inlX8 hown hK (ci := 8) rfl hW ha0 rfl 3 rfl (by decide) (hts _ fl_X8_21) dX8_takeOut_73 (fun v34 hv34 hsv34 => ?_)
        obtain rfl : v34 = .ref ad33 := Option.some.inj (hsv34.symm.trans hsv32)
        refine lv_iload_n hx hb dX8_takeOut_76 rfl (lv_at hl 1 rfl) ?_
        refine tf_iconst hx hb dX8_takeOut_77 ?_
        refine tf_iadd hx hb dX8_takeOut_78 ?_
        refine tf_iald (t0 := 0) hx hb hK hW had33 rfl rfl (by omega) (by omega) dX8_takeOut_79 (fun v35 hv35 hsv35 => ?_)
        obtain ⟨z36, rfl, hz36⟩ := tf_v0 hv35
        refine tf_iast (t0 := 0) hx hb hK hW had33 rfl rfl (by omega) (by omega) (by decide) (tf_u0 (by omega) (by omega)) dX8_takeOut_80 (fun H37 locs37 hW hs37 ht37 hq37 => ?_)
        have hs38 := tf_keepQ hs28 (hq37 _ (tf_ne ha0 had33 (by decide)))
        have hs39 := tf_keepQ hs29 (hq37 _ (tf_ne ha0 had33 (by decide)))
        have hs40 := tf_keepQ hs30 (hq37 _ (tf_ne ha0 had33 (by decide)))
        have hs41 := tf_keepQ hs31 (hq37 _ (tf_ne ha0 had33 (by decide)))
        have hs42 := tf_keepQ hsv32 (hq37 _ (tf_ne ha0 had33 (by decide)))
        refine lv_iinc (v := Int32.ofInt ((x2_15 + 1))) (lv' := [(2, .int (Int32.ofInt ((x2_15 + 1)))), (0, .ref a0)]) hx hb dX8_takeOut_81 hl (k := 1) rfl (Int32.ofInt_add _ _).symm (by decide) rfl (fun ls hl => ?_)
        refine lv_goto (tgt := 15) hx hb dX8_takeOut_84 (by decide) ?_
        exact ih_15 ((x2_15 + 1)) ⟨by omega, by omega⟩ (f4_15) ⟨by omega, by omega⟩ (by omega) _ _ hW hs38 _ (lv_sub hl [1, 0] rfl)
  refine tf_enter (As := [.ref a0, .int (Int32.ofInt x1)]) hargs (Nat.le_of_ble_eq_true rfl) (fun ls hl => ?_)
  have hl : lv_has ls 3 [(0, .ref a0), (1, .int (Int32.ofInt x1))] := hl
  refine lv_iload_n hx hb dX8_takeOut_0 rfl (lv_at hl 1 rfl) ?_
  refine tf_if_lt (tgt := 12) hx hb ⟨by omega, by omega⟩ dX8_takeOut_1 (by decide) (fun h43 => ?_) (fun h43 => ?_)
  · exact tf_retv hx hb hr hlocks hQ hW trivial dX8_takeOut_12
  · refine lv_iload_n hx hb dX8_takeOut_4 rfl (lv_at hl 1 rfl) ?_
    refine lv_aload_n hx hb dX8_takeOut_5 rfl (lv_at hl 0 rfl) ?_
    refine tf_get hx hb hts inlX8 hown hK (ci := 8) rfl hW ha0 rfl 4 rfl (by decide) (hts _ fl_X8_24) dX8_takeOut_6 (fun v44 hv44 hsv44 => ?_)
    obtain ⟨z45, rfl, hz45⟩ := tf_v0 hv44
    refine tf_icmp_lt (tgt := 13) hx hb ⟨by omega, by omega⟩ ⟨by omega, by omega⟩ dX8_takeOut_9 (by decide) (fun h46 => ?_) (fun h46 => ?_)
    · refine lv_iload_n hx hb dX8_takeOut_13 rfl (lv_at hl 1 rfl) ?_
      refine lv_istore_n (lv' := [(2, .int (Int32.ofInt x1)), (0, .ref a0), (1, .int (Int32.ofInt x1))]) hx hb dX8_takeOut_14 rfl hl (by decide) rfl (fun ls hl => ?_)
      exact j_15 ((7 - x1 + 1 : Int)).toNat (x1) ⟨by omega, by omega⟩ (z45) ⟨by omega, by omega⟩ (by omega) _ _ hW hsv44 _ (lv_sub hl [1, 0] rfl)
    · exact tf_retv hx hb hr hlocks hQ hW trivial dX8_takeOut_12

abbrev M_X8_add : List (Nat × Nat) := [(9, 0), (25, 4)]
set_option maxHeartbeats 4000000 in
set_option maxRecDepth 100000 in
theorem c_X8_add (l : Launch) (g : tf_G) (T : tf_T) (a0 : Nat) (ha0 : T a0 = some (25, 0)) (x1 : Int) (hp1 : (-2147483648) ≤ x1 ∧ x1 ≤ 2147483647) (x2 : Int) (hp2 : (-2147483648) ≤ x2 ∧ x2 ≤ 2147483647) (x3 : Int) (hp3 : (-2147483648) ≤ x3 ∧ x3 ≤ 2147483647) (x4 : Int) (hp4 : (-2147483648) ≤ x4 ∧ x4 ≤ 2147483647) : Met l yX8_add (cd_X8_add :: wsL_law) ({ frames := 1, cells := 0, slots := 0, locals := 24 }) (tf_P g T [.ref a0, .int (Int32.ofInt x1), .int (Int32.ofInt x2), .int (Int32.ofInt x3), .int (Int32.ofInt x4)] (fun H => True)) (tf_Qi g M_X8_add T (fun z _ _ => (-2147483648) ≤ z ∧ z ≤ 2147483647)) 0 0 (fun q => tf_B g ≤ q) := by
  refine Met.ofW (cc := cX8_add) (maxL := 5) (ret := (some .int)) (by decide) rfl ?_
  intro p e s m args below meth c s₁ B hml hv
  obtain ⟨hargs, hk, hW0, hB, hpre⟩ := hv
  have hx := B.exec
  have hb := B.bytes
  have hr := B.returns
  have hts : ∀ w ∈ wsL_law, w.before args s = true := fun w h => atoms_spec (ws := cd_X8_add :: wsL_law) B.pre w (List.mem_cons_of_mem _ h)
  have hown : s.vm.findClass RX8 = some m.cls := findClass_of_methodNamed B.named
  have hlocks := B.notSynchronized
  have hK := hk.1
  have hW := tf_n.start (M := M_X8_add) hW0 hB
  obtain ⟨Q, hQ⟩ : ∃ q, q = MQ below (tf_Qi g M_X8_add T (fun z _ _ => (-2147483648) ≤ z ∧ z ≤ 2147483647)) args s 0 0 (fun q => tf_B g ≤ q) := ⟨_, rfl⟩
  rw [← hQ]
  obtain ⟨R, hR⟩ : ∃ q, q = (headSpec (cd_X8_add :: wsL_law) ({ frames := 1, cells := 0, slots := 0, locals := 24 })).room := ⟨_, rfl⟩
  rw [← hR]
  have hR1 : 1 ≤ R.frames := by rw [hR]; exact Nat.le_refl _
  have hR2 : 24 ≤ R.locals := by rw [hR]; exact Nat.le_refl _
  have hR3 : 0 ≤ R.cells := by rw [hR]; exact Nat.le_refl _
  have hR4 : 0 ≤ R.slots := by rw [hR]; exact Nat.le_refl _
  have hin := (name_of_methodNamed B.named B.method).1
  clear hR B
  refine tf_enter (As := [.ref a0, .int (Int32.ofInt x1), .int (Int32.ofInt x2), .int (Int32.ofInt x3), .int (Int32.ofInt x4)]) hargs (Nat.le_of_ble_eq_true rfl) (fun ls hl => ?_)
  have hl : lv_has ls 5 [(0, .ref a0), (1, .int (Int32.ofInt x1)), (2, .int (Int32.ofInt x2)), (3, .int (Int32.ofInt x3)), (4, .int (Int32.ofInt x4))] := hl
  refine lv_aload_n hx hb dX8_add_0 rfl (lv_at hl 0 rfl) ?_
  refine tf_get hx hb hts inlX8 hown hK (ci := 8) rfl hW ha0 rfl 4 rfl (by decide) (hts _ fl_X8_24) dX8_add_1 (fun v1 hv1 hsv1 => ?_)
  obtain ⟨z2, rfl, hz2⟩ := tf_v0 hv1
  refine tf_bipush hx hb dX8_add_4 (by decide) ?_
  refine tf_icmp_lt (tgt := 11) hx hb ⟨by omega, by omega⟩ ⟨by decide, by decide⟩ dX8_add_6 (by decide) (fun h3 => ?_) (fun h3 => ?_)
  · refine lv_aload_n hx hb dX8_add_11 rfl (lv_at hl 0 rfl) ?_
    refine tf_get hx hb hts inlX8 hown hK (ci := 8) rfl hW ha0 rfl 0 rfl (by decide) (hts _ fl_X8_9) dX8_add_12 (fun v4 hv4 hsv4 => ?_)
    obtain ⟨ad5, rfl, had5⟩ := tf_v1 hv4
    refine lv_aload_n hx hb dX8_add_15 rfl (lv_at hl 0 rfl) ?_
    refine tf_get hx hb hts inlX8 hown hK (ci := 8) rfl hW ha0 rfl 4 rfl (by decide) (hts _ fl_X8_24) dX8_add_16 (fun v6 hv6 hsv6 => ?_)
    obtain rfl : v6 = .int (Int32.ofInt z2) := Option.some.inj (hsv6.symm.trans hsv1)
    refine lv_iload_n hx hb dX8_add_19 rfl (lv_at hl 1 rfl) ?_
    refine tf_iast (t0 := 0) hx hb hK hW had5 rfl rfl (by omega) (by omega) (by decide) (tf_u0 (by omega) (by omega)) dX8_add_20 (fun H7 locs7 hW hs7 ht7 hq7 => ?_)
    have hs8 := tf_keepQ hsv1 (hq7 _ (tf_ne ha0 had5 (by decide)))
    refine lv_aload_n hx hb dX8_add_21 rfl (lv_at hl 0 rfl) ?_
    refine tf_get hx hb hts inlX8 hown hK (ci := 8) rfl hW ha0 rfl 1 rfl (by decide) (hts _ fl_X8_15) dX8_add_22 (fun v9 hv9 hsv9 => ?_)
    obtain ⟨ad10, rfl, had10⟩ := tf_v1 hv9
    refine lv_aload_n hx hb dX8_add_25 rfl (lv_at hl 0 rfl) ?_
    refine tf_get hx hb hts inlX8 hown hK (ci := 8) rfl hW ha0 rfl 4 rfl (by decide) (hts _ fl_X8_24) dX8_add_26 (fun v11 hv11 hsv11 => ?_)
    obtain rfl : v11 = .int (Int32.ofInt z2) := Option.some.inj (hsv11.symm.trans hs8)
    refine lv_iload_n hx hb dX8_add_29 rfl (lv_at hl 2 rfl) ?_
    refine tf_iast (t0 := 0) hx hb hK hW had10 rfl rfl (by omega) (by omega) (by decide) (tf_u0 (by omega) (by omega)) dX8_add_30 (fun H12 locs12 hW hs12 ht12 hq12 => ?_)
    have hs13 := tf_keepQ hs8 (hq12 _ (tf_ne ha0 had10 (by decide)))
    refine lv_aload_n hx hb dX8_add_31 rfl (lv_at hl 0 rfl) ?_
    refine tf_get hx hb hts inlX8 hown hK (ci := 8) rfl hW ha0 rfl 2 rfl (by decide) (hts _ fl_X8_18) dX8_add_32 (fun v14 hv14 hsv14 => ?_)
    obtain ⟨ad15, rfl, had15⟩ := tf_v1 hv14
    refine lv_aload_n hx hb dX8_add_35 rfl (lv_at hl 0 rfl) ?_
    refine tf_get hx hb hts inlX8 hown hK (ci := 8) rfl hW ha0 rfl 4 rfl (by decide) (hts _ fl_X8_24) dX8_add_36 (fun v16 hv16 hsv16 => ?_)
    obtain rfl : v16 = .int (Int32.ofInt z2) := Option.some.inj (hsv16.symm.trans hs13)
    refine lv_iload_n hx hb dX8_add_39 rfl (lv_at hl 3 rfl) ?_
    refine tf_iast (t0 := 0) hx hb hK hW had15 rfl rfl (by omega) (by omega) (by decide) (tf_u0 (by omega) (by omega)) dX8_add_40 (fun H17 locs17 hW hs17 ht17 hq17 => ?_)
    have hs18 := tf_keepQ hs13 (hq17 _ (tf_ne ha0 had15 (by decide)))
    refine lv_aload_n hx hb dX8_add_41 rfl (lv_at hl 0 rfl) ?_
    refine tf_get hx hb hts inlX8 hown hK (ci := 8) rfl hW ha0 rfl 3 rfl (by decide) (hts _ fl_X8_21) dX8_add_42 (fun v19 hv19 hsv19 => ?_)
    obtain ⟨ad20, rfl, had20⟩ := tf_v1 hv19
    refine lv_aload_n hx hb dX8_add_45 rfl (lv_at hl 0 rfl) ?_
    refine tf_get hx hb hts inlX8 hown hK (ci := 8) rfl hW ha0 rfl 4 rfl (by decide) (hts _ fl_X8_24) dX8_add_46 (fun v21 hv21 hsv21 => ?_)
    obtain rfl : v21 = .int (Int32.ofInt z2) := Option.some.inj (hsv21.symm.trans hs18)
    refine lv_iload hx hb dX8_add_49 (lv_at hl 4 rfl) ?_
    refine tf_iast (t0 := 0) hx hb hK hW had20 rfl rfl (by omega) (by omega) (by decide) (tf_u0 (by omega) (by omega)) dX8_add_51 (fun H22 locs22 hW hs22 ht22 hq22 => ?_)
    have hs23 := tf_keepQ hs18 (hq22 _ (tf_ne ha0 had20 (by decide)))
    refine lv_aload_n hx hb dX8_add_52 rfl (lv_at hl 0 rfl) ?_
    refine lv_dup hx hb dX8_add_53 rfl ?_
    refine tf_get hx hb hts inlX8 hown hK (ci := 8) rfl hW ha0 rfl 4 rfl (by decide) (hts _ fl_X8_24) dX8_add_54 (fun v24 hv24 hsv24 => ?_)
    obtain rfl : v24 = .int (Int32.ofInt z2) := Option.some.inj (hsv24.symm.trans hs23)
    refine tf_iconst hx hb dX8_add_57 ?_
    refine tf_iadd hx hb dX8_add_58 ?_
    refine tf_put hx hb hts inlX8 tyX8 tyX8_ok nmX8 hown hK (ci := 8) rfl hW ha0 rfl rfl 4 rfl (by decide) (by decide) (hts _ fl_X8_24) rfl (tf_u0 (by omega) (by omega)) rfl rfl dX8_add_59 (fun H25 locs25 hW hs25 ht25 hq25 => ?_)
    refine lv_aload_n hx hb dX8_add_62 rfl (lv_at hl 0 rfl) ?_
    refine tf_get hx hb hts inlX8 hown hK (ci := 8) rfl hW ha0 rfl 4 rfl (by decide) (hts _ fl_X8_24) dX8_add_63 (fun v26 hv26 hsv26 => ?_)
    obtain rfl : v26 = .int (Int32.ofInt ((z2 + 1))) := Option.some.inj (hsv26.symm.trans hs25)
    refine tf_iconst hx hb dX8_add_66 ?_
    refine tf_isub hx hb dX8_add_67 ?_
    exact tf_reti (z := ((z2 + 1) - 1)) hx hb hr hlocks hQ hW (show (-2147483648) ≤ (((z2 + 1) - 1)) ∧ (((z2 + 1) - 1)) ≤ 2147483647 by omega) dX8_add_68
  · refine tf_iconst hx hb dX8_add_9 ?_
    exact tf_reti (z := (-1)) hx hb hr hlocks hQ hW (show (-2147483648) ≤ ((-1)) ∧ ((-1)) ≤ 2147483647 by omega) dX8_add_10

abbrev M_X8_haveAll : List (Nat × Nat) := []
set_option maxHeartbeats 4000000 in
set_option maxRecDepth 100000 in
theorem c_X8_haveAll (l : Launch) (g : tf_G) (T : tf_T) (a0 : Nat) (ha0 : T a0 = some (25, 0)) (x1 : Int) (hp1 : (-2147483648) ≤ x1 ∧ x1 ≤ 2147483647) : Met l yX8_haveAll (cd_X8_haveAll :: wsL_law) ({ frames := 1, cells := 0, slots := 0, locals := 24 }) (tf_P g T [.ref a0, .int (Int32.ofInt x1)] (fun H => True)) (tf_Qi g M_X8_haveAll T (fun z _ _ => z = 0 ∨ z = 1)) 0 0 (fun q => tf_B g ≤ q) := by
  refine Met.ofW (cc := cX8_haveAll) (maxL := 2) (ret := (some .boolean)) (by decide) rfl ?_
  intro p e s m args below meth c s₁ B hml hv
  obtain ⟨hargs, hk, hW0, hB, hpre⟩ := hv
  have hx := B.exec
  have hb := B.bytes
  have hr := B.returns
  have hts : ∀ w ∈ wsL_law, w.before args s = true := fun w h => atoms_spec (ws := cd_X8_haveAll :: wsL_law) B.pre w (List.mem_cons_of_mem _ h)
  have hown : s.vm.findClass RX8 = some m.cls := findClass_of_methodNamed B.named
  have hlocks := B.notSynchronized
  have hK := hk.1
  have hW := tf_n.start (M := M_X8_haveAll) hW0 hB
  obtain ⟨Q, hQ⟩ : ∃ q, q = MQ below (tf_Qi g M_X8_haveAll T (fun z _ _ => z = 0 ∨ z = 1)) args s 0 0 (fun q => tf_B g ≤ q) := ⟨_, rfl⟩
  rw [← hQ]
  obtain ⟨R, hR⟩ : ∃ q, q = (headSpec (cd_X8_haveAll :: wsL_law) ({ frames := 1, cells := 0, slots := 0, locals := 24 })).room := ⟨_, rfl⟩
  rw [← hR]
  have hR1 : 1 ≤ R.frames := by rw [hR]; exact Nat.le_refl _
  have hR2 : 24 ≤ R.locals := by rw [hR]; exact Nat.le_refl _
  have hR3 : 0 ≤ R.cells := by rw [hR]; exact Nat.le_refl _
  have hR4 : 0 ≤ R.slots := by rw [hR]; exact Nat.le_refl _
  have hin := (name_of_methodNamed B.named B.method).1
  clear hR B
  refine tf_enter (As := [.ref a0, .int (Int32.ofInt x1)]) hargs (Nat.le_of_ble_eq_true rfl) (fun ls hl => ?_)
  have hl : lv_has ls 2 [(0, .ref a0), (1, .int (Int32.ofInt x1))] := hl
  refine lv_iload_n hx hb dX8_haveAll_0 rfl (lv_at hl 1 rfl) ?_
  refine tf_if_lt (tgt := 18) hx hb ⟨by omega, by omega⟩ dX8_haveAll_1 (by decide) (fun h1 => ?_) (fun h1 => ?_)
  · refine tf_iconst hx hb dX8_haveAll_18 ?_
    exact tf_retz (z := 0) hx hb hr hlocks hQ hW (by omega) (show (0) = 0 ∨ (0) = 1 by omega) dX8_haveAll_19
  · refine lv_iload_n hx hb dX8_haveAll_4 rfl (lv_at hl 1 rfl) ?_
    refine tf_iconst hx hb dX8_haveAll_5 ?_
    refine lv_aload_n hx hb dX8_haveAll_6 rfl (lv_at hl 0 rfl) ?_
    refine tf_get hx hb hts inlX8 hown hK (ci := 8) rfl hW ha0 rfl 4 rfl (by decide) (hts _ fl_X8_24) dX8_haveAll_7 (fun v2 hv2 hsv2 => ?_)
    obtain ⟨z3, rfl, hz3⟩ := tf_v0 hv2
    refine tf_ishl_any hx hb dX8_haveAll_10 (fun z4 hz4 => ?_)
    refine tf_icmp_ge (tgt := 18) hx hb ⟨by omega, by omega⟩ ⟨by omega, by omega⟩ dX8_haveAll_11 (by decide) (fun h5 => ?_) (fun h5 => ?_)
    · refine tf_iconst hx hb dX8_haveAll_18 ?_
      exact tf_retz (z := 0) hx hb hr hlocks hQ hW (by omega) (show (0) = 0 ∨ (0) = 1 by omega) dX8_haveAll_19
    · refine tf_iconst hx hb dX8_haveAll_14 ?_
      refine lv_goto (tgt := 19) hx hb dX8_haveAll_15 (by decide) ?_
      exact tf_retz (z := 1) hx hb hr hlocks hQ hW (by omega) (show (1) = 0 ∨ (1) = 1 by omega) dX8_haveAll_19

abbrev M_X8_needCell : List (Nat × Nat) := []
set_option maxHeartbeats 4000000 in
set_option maxRecDepth 100000 in
theorem c_X8_needCell (l : Launch) (g : tf_G) (T : tf_T) (a0 : Nat) (ha0 : T a0 = some (25, 0)) (x1 : Int) (hp1 : (-2147483648) ≤ x1 ∧ x1 ≤ 2147483647) : Met l yX8_needCell (cd_X8_needCell :: wsL_law) ({ frames := 1, cells := 0, slots := 0, locals := 24 }) (tf_P g T [.ref a0, .int (Int32.ofInt x1)] (fun H => True)) (tf_Qi g M_X8_needCell T (fun z _ _ => z = 0 ∨ z = 1)) 0 0 (fun q => tf_B g ≤ q) := by
  refine Met.ofW (cc := cX8_needCell) (maxL := 3) (ret := (some .boolean)) (by decide) rfl ?_
  intro p e s m args below meth c s₁ B hml hv
  obtain ⟨hargs, hk, hW0, hB, hpre⟩ := hv
  have hx := B.exec
  have hb := B.bytes
  have hr := B.returns
  have hts : ∀ w ∈ wsL_law, w.before args s = true := fun w h => atoms_spec (ws := cd_X8_needCell :: wsL_law) B.pre w (List.mem_cons_of_mem _ h)
  have hown : s.vm.findClass RX8 = some m.cls := findClass_of_methodNamed B.named
  have hlocks := B.notSynchronized
  have hK := hk.1
  have hW := tf_n.start (M := M_X8_needCell) hW0 hB
  obtain ⟨Q, hQ⟩ : ∃ q, q = MQ below (tf_Qi g M_X8_needCell T (fun z _ _ => z = 0 ∨ z = 1)) args s 0 0 (fun q => tf_B g ≤ q) := ⟨_, rfl⟩
  rw [← hQ]
  obtain ⟨R, hR⟩ : ∃ q, q = (headSpec (cd_X8_needCell :: wsL_law) ({ frames := 1, cells := 0, slots := 0, locals := 24 })).room := ⟨_, rfl⟩
  rw [← hR]
  have hR1 : 1 ≤ R.frames := by rw [hR]; exact Nat.le_refl _
  have hR2 : 24 ≤ R.locals := by rw [hR]; exact Nat.le_refl _
  have hR3 : 0 ≤ R.cells := by rw [hR]; exact Nat.le_refl _
  have hR4 : 0 ≤ R.slots := by rw [hR]; exact Nat.le_refl _
  have hin := (name_of_methodNamed B.named B.method).1
  clear hR B
  have j_2 : ∀ (n_2 : Nat), (-2147483648) ≤ x1 ∧ x1 ≤ 2147483647 → ∀ (x2_2 : Int), 0 ≤ x2_2 ∧ x2_2 ≤ 8 → (8 - x2_2 + 1 ≤ (n_2 : Int)) → ∀ (H : Heap) (locs : List Loc), tf_n tf_kt g M_X8_needCell T s.heap T H locs → ∀ (ls : Array Slot), lv_has ls 3 [(0, .ref a0), (1, .int (Int32.ofInt x1)), (2, .int (Int32.ofInt x2_2))] → W p l e R s m args below meth c H locs 0 0 Q (F0 m 2 ls []) := by
    intro n_2
    induction n_2 with
    | zero =>
      intro hx1_2 x2_2 hx2_2 hm_2
      exfalso; omega
    | succ n_2 ih_2 =>
      intro hx1_2 x2_2 hx2_2 hm_2 H locs hW  ls hl
      have j_54 : (-2147483648) ≤ x1 ∧ x1 ≤ 2147483647 → 0 ≤ x2_2 ∧ x2_2 ≤ 7 → ∀ (H : Heap) (locs : List Loc), tf_n tf_kt g M_X8_needCell T s.heap T H locs → ∀ (ls : Array Slot), lv_has ls 3 [(0, .ref a0), (1, .int (Int32.ofInt x1)), (2, .int (Int32.ofInt x2_2))] → W p l e R s m args below meth c H locs 0 0 Q (F0 m 54 ls []) := by
        intro hx1_54 hx2_54 H locs hW  ls hl
        refine lv_iinc (v := Int32.ofInt ((x2_2 + 1))) (lv' := [(2, .int (Int32.ofInt ((x2_2 + 1)))), (0, .ref a0), (1, .int (Int32.ofInt x1))]) hx hb dX8_needCell_54 hl (k := 2) rfl (Int32.ofInt_add _ _).symm (by decide) rfl (fun ls hl => ?_)
        refine lv_goto (tgt := 2) hx hb dX8_needCell_57 (by decide) ?_
        exact ih_2 ⟨by omega, by omega⟩ ((x2_2 + 1)) ⟨by omega, by omega⟩ (by omega) _ _ hW  _ (lv_sub hl [1, 2, 0] rfl)
      have j_32 : (-2147483648) ≤ x1 ∧ x1 ≤ 2147483647 → 0 ≤ x2_2 ∧ x2_2 ≤ 7 → ∀ (H : Heap) (locs : List Loc), tf_n tf_kt g M_X8_needCell T s.heap T H locs → ∀ (ls : Array Slot), lv_has ls 3 [(0, .ref a0), (1, .int (Int32.ofInt x1)), (2, .int (Int32.ofInt x2_2))] → W p l e R s m args below meth c H locs 0 0 Q (F0 m 32 ls []) := by
        intro hx1_32 hx2_32 H locs hW  ls hl
        refine lv_aload_n hx hb dX8_needCell_32 rfl (lv_at hl 0 rfl) ?_
        refine tf_get hx hb hts inlX8 hown hK (ci := 8) rfl hW ha0 rfl 0 rfl (by decide) (hts _ fl_X8_9) dX8_needCell_33 (fun v1 hv1 hsv1 => ?_)
        obtain ⟨ad2, rfl, had2⟩ := tf_v1 hv1
        refine lv_iload_n hx hb dX8_needCell_36 rfl (lv_at hl 2 rfl) ?_
        refine tf_iald (t0 := 0) hx hb hK hW had2 rfl rfl (by omega) (by omega) dX8_needCell_37 (fun v3 hv3 hsv3 => ?_)
        obtain ⟨z4, rfl, hz4⟩ := tf_v0 hv3
        refine tf_iconst hx hb dX8_needCell_38 ?_
        refine tf_icmp_ne (tgt := 54) hx hb ⟨by omega, by omega⟩ ⟨by decide, by decide⟩ dX8_needCell_39 (by decide) (fun h5 => ?_) (fun h5 => ?_)
        · exact j_54 ⟨by omega, by omega⟩ ⟨by omega, by omega⟩ _ _ hW  _ (lv_sub hl [0, 1, 2] rfl)
        · refine lv_aload_n hx hb dX8_needCell_42 rfl (lv_at hl 0 rfl) ?_
          refine tf_get hx hb hts inlX8 hown hK (ci := 8) rfl hW ha0 rfl 2 rfl (by decide) (hts _ fl_X8_18) dX8_needCell_43 (fun v6 hv6 hsv6 => ?_)
          obtain ⟨ad7, rfl, had7⟩ := tf_v1 hv6
          refine lv_iload_n hx hb dX8_needCell_46 rfl (lv_at hl 2 rfl) ?_
          refine tf_iald (t0 := 0) hx hb hK hW had7 rfl rfl (by omega) (by omega) dX8_needCell_47 (fun v8 hv8 hsv8 => ?_)
          obtain ⟨z9, rfl, hz9⟩ := tf_v0 hv8
          refine lv_iload_n hx hb dX8_needCell_48 rfl (lv_at hl 1 rfl) ?_
          refine tf_icmp_ne (tgt := 54) hx hb ⟨by omega, by omega⟩ ⟨by omega, by omega⟩ dX8_needCell_49 (by decide) (fun h10 => ?_) (fun h10 => ?_)
          · exact j_54 ⟨by omega, by omega⟩ ⟨by omega, by omega⟩ _ _ hW  _ (lv_sub hl [0, 1, 2] rfl)
          · refine tf_iconst hx hb dX8_needCell_52 ?_
            exact tf_retz (z := 1) hx hb hr hlocks hQ hW (by omega) (show (1) = 0 ∨ (1) = 1 by omega) dX8_needCell_53
      refine lv_iload_n hx hb dX8_needCell_2 rfl (lv_at hl 2 rfl) ?_
      refine lv_aload_n hx hb dX8_needCell_3 rfl (lv_at hl 0 rfl) ?_
      refine tf_get hx hb hts inlX8 hown hK (ci := 8) rfl hW ha0 rfl 4 rfl (by decide) (hts _ fl_X8_24) dX8_needCell_4 (fun v11 hv11 hsv11 => ?_)
      obtain ⟨z12, rfl, hz12⟩ := tf_v0 hv11
      refine tf_icmp_ge (tgt := 60) hx hb ⟨by omega, by omega⟩ ⟨by omega, by omega⟩ dX8_needCell_7 (by decide) (fun h13 => ?_) (fun h13 => ?_)
      · refine tf_iconst hx hb dX8_needCell_60 ?_
        exact tf_retz (z := 0) hx hb hr hlocks hQ hW (by omega) (show (0) = 0 ∨ (0) = 1 by omega) dX8_needCell_61
      · refine lv_aload_n hx hb dX8_needCell_10 rfl (lv_at hl 0 rfl) ?_
        refine tf_get hx hb hts inlX8 hown hK (ci := 8) rfl hW ha0 rfl 0 rfl (by decide) (hts _ fl_X8_9) dX8_needCell_11 (fun v14 hv14 hsv14 => ?_)
        obtain ⟨ad15, rfl, had15⟩ := tf_v1 hv14
        refine lv_iload_n hx hb dX8_needCell_14 rfl (lv_at hl 2 rfl) ?_
        refine tf_iald (t0 := 0) hx hb hK hW had15 rfl rfl (by omega) (by omega) dX8_needCell_15 (fun v16 hv16 hsv16 => ?_)
        obtain ⟨z17, rfl, hz17⟩ := tf_v0 hv16
        refine tf_iconst hx hb dX8_needCell_16 ?_
        refine tf_icmp_eq (tgt := 32) hx hb ⟨by omega, by omega⟩ ⟨by decide, by decide⟩ dX8_needCell_17 (by decide) (fun h18 => ?_) (fun h18 => ?_)
        · exact j_32 ⟨by omega, by omega⟩ ⟨by omega, by omega⟩ _ _ hW  _ (lv_sub hl [0, 1, 2] rfl)
        · refine lv_aload_n hx hb dX8_needCell_20 rfl (lv_at hl 0 rfl) ?_
          refine tf_get hx hb hts inlX8 hown hK (ci := 8) rfl hW ha0 rfl 1 rfl (by decide) (hts _ fl_X8_15) dX8_needCell_21 (fun v19 hv19 hsv19 => ?_)
          obtain ⟨ad20, rfl, had20⟩ := tf_v1 hv19
          refine lv_iload_n hx hb dX8_needCell_24 rfl (lv_at hl 2 rfl) ?_
          refine tf_iald (t0 := 0) hx hb hK hW had20 rfl rfl (by omega) (by omega) dX8_needCell_25 (fun v21 hv21 hsv21 => ?_)
          obtain ⟨z22, rfl, hz22⟩ := tf_v0 hv21
          refine lv_iload_n hx hb dX8_needCell_26 rfl (lv_at hl 1 rfl) ?_
          refine tf_icmp_ne (tgt := 32) hx hb ⟨by omega, by omega⟩ ⟨by omega, by omega⟩ dX8_needCell_27 (by decide) (fun h23 => ?_) (fun h23 => ?_)
          · exact j_32 ⟨by omega, by omega⟩ ⟨by omega, by omega⟩ _ _ hW  _ (lv_sub hl [0, 1, 2] rfl)
          · refine tf_iconst hx hb dX8_needCell_30 ?_
            exact tf_retz (z := 1) hx hb hr hlocks hQ hW (by omega) (show (1) = 0 ∨ (1) = 1 by omega) dX8_needCell_31
  refine tf_enter (As := [.ref a0, .int (Int32.ofInt x1)]) hargs (Nat.le_of_ble_eq_true rfl) (fun ls hl => ?_)
  have hl : lv_has ls 3 [(0, .ref a0), (1, .int (Int32.ofInt x1))] := hl
  refine tf_iconst hx hb dX8_needCell_0 ?_
  refine lv_istore_n (lv' := [(2, .int (Int32.ofInt 0)), (0, .ref a0), (1, .int (Int32.ofInt x1))]) hx hb dX8_needCell_1 rfl hl (by decide) rfl (fun ls hl => ?_)
  exact j_2 ((8 - 0 + 1 : Int)).toNat ⟨by omega, by omega⟩ (0) ⟨by omega, by omega⟩ (by omega) _ _ hW  _ (lv_sub hl [1, 2, 0] rfl)

abbrev M_X8_coinOf : List (Nat × Nat) := []
set_option maxHeartbeats 4000000 in
set_option maxRecDepth 100000 in
theorem c_X8_coinOf (l : Launch) (g : tf_G) (T : tf_T) (a0 : Nat) (ha0 : T a0 = some (25, 0)) (x1 : Int) (hp1 : (-2147483648) ≤ x1 ∧ x1 ≤ 2147483647) : Met l yX8_coinOf (cd_X8_coinOf :: wsL_law) ({ frames := 1, cells := 0, slots := 0, locals := 24 }) (tf_P g T [.ref a0, .int (Int32.ofInt x1)] (fun H => True)) (tf_Qi g M_X8_coinOf T (fun z _ _ => (-2147483648) ≤ z ∧ z ≤ 2147483647)) 0 0 (fun q => tf_B g ≤ q) := by
  refine Met.ofW (cc := cX8_coinOf) (maxL := 4) (ret := (some .int)) (by decide) rfl ?_
  intro p e s m args below meth c s₁ B hml hv
  obtain ⟨hargs, hk, hW0, hB, hpre⟩ := hv
  have hx := B.exec
  have hb := B.bytes
  have hr := B.returns
  have hts : ∀ w ∈ wsL_law, w.before args s = true := fun w h => atoms_spec (ws := cd_X8_coinOf :: wsL_law) B.pre w (List.mem_cons_of_mem _ h)
  have hown : s.vm.findClass RX8 = some m.cls := findClass_of_methodNamed B.named
  have hlocks := B.notSynchronized
  have hK := hk.1
  have hW := tf_n.start (M := M_X8_coinOf) hW0 hB
  obtain ⟨Q, hQ⟩ : ∃ q, q = MQ below (tf_Qi g M_X8_coinOf T (fun z _ _ => (-2147483648) ≤ z ∧ z ≤ 2147483647)) args s 0 0 (fun q => tf_B g ≤ q) := ⟨_, rfl⟩
  rw [← hQ]
  obtain ⟨R, hR⟩ : ∃ q, q = (headSpec (cd_X8_coinOf :: wsL_law) ({ frames := 1, cells := 0, slots := 0, locals := 24 })).room := ⟨_, rfl⟩
  rw [← hR]
  have hR1 : 1 ≤ R.frames := by rw [hR]; exact Nat.le_refl _
  have hR2 : 24 ≤ R.locals := by rw [hR]; exact Nat.le_refl _
  have hR3 : 0 ≤ R.cells := by rw [hR]; exact Nat.le_refl _
  have hR4 : 0 ≤ R.slots := by rw [hR]; exact Nat.le_refl _
  have hin := (name_of_methodNamed B.named B.method).1
  clear hR B
  have j_4 : ∀ (n_4 : Nat), (-2147483648) ≤ x1 ∧ x1 ≤ 2147483647 → ∀ (x2_4 : Int), (-2147483648) ≤ x2_4 ∧ x2_4 ≤ 2147483647 → ∀ (x3_4 : Int), 0 ≤ x3_4 ∧ x3_4 ≤ 8 → (8 - x3_4 + 1 ≤ (n_4 : Int)) → ∀ (H : Heap) (locs : List Loc), tf_n tf_kt g M_X8_coinOf T s.heap T H locs → ∀ (ls : Array Slot), lv_has ls 4 [(0, .ref a0), (1, .int (Int32.ofInt x1)), (2, .int (Int32.ofInt x2_4)), (3, .int (Int32.ofInt x3_4))] → W p l e R s m args below meth c H locs 0 0 Q (F0 m 4 ls []) := by
    intro n_4
    induction n_4 with
    | zero =>
      intro hx1_4 x2_4 hx2_4 x3_4 hx3_4 hm_4
      exfalso; omega
    | succ n_4 ih_4 =>
      intro hx1_4 x2_4 hx2_4 x3_4 hx3_4 hm_4 H locs hW  ls hl
      refine lv_iload_n hx hb dX8_coinOf_4 rfl (lv_at hl 3 rfl) ?_
      refine lv_aload_n hx hb dX8_coinOf_5 rfl (lv_at hl 0 rfl) ?_
      refine tf_get hx hb hts inlX8 hown hK (ci := 8) rfl hW ha0 rfl 4 rfl (by decide) (hts _ fl_X8_24) dX8_coinOf_6 (fun v1 hv1 hsv1 => ?_)
      obtain ⟨z2, rfl, hz2⟩ := tf_v0 hv1
      refine tf_icmp_ge (tgt := 33) hx hb ⟨by omega, by omega⟩ ⟨by omega, by omega⟩ dX8_coinOf_9 (by decide) (fun h3 => ?_) (fun h3 => ?_)
      · refine lv_iload_n hx hb dX8_coinOf_33 rfl (lv_at hl 2 rfl) ?_
        exact tf_reti (z := x2_4) hx hb hr hlocks hQ hW (show (-2147483648) ≤ (x2_4) ∧ (x2_4) ≤ 2147483647 by omega) dX8_coinOf_34
      · refine lv_iload_n hx hb dX8_coinOf_12 rfl (lv_at hl 2 rfl) ?_
        refine lv_iload_n hx hb dX8_coinOf_13 rfl (lv_at hl 1 rfl) ?_
        refine lv_iload_n hx hb dX8_coinOf_14 rfl (lv_at hl 3 rfl) ?_
        refine tf_ishr_any hx hb dX8_coinOf_15 (fun z4 hz4 => ?_)
        refine tf_iconst hx hb dX8_coinOf_16 ?_
        refine tf_iand_mask hx hb 1 (by decide) (by decide +kernel) dX8_coinOf_17 (fun z5 hz5 kz5 => ?_)
        refine lv_aload_n hx hb dX8_coinOf_18 rfl (lv_at hl 0 rfl) ?_
        refine tf_get hx hb hts inlX8 hown hK (ci := 8) rfl hW ha0 rfl 3 rfl (by decide) (hts _ fl_X8_21) dX8_coinOf_19 (fun v6 hv6 hsv6 => ?_)
        obtain ⟨ad7, rfl, had7⟩ := tf_v1 hv6
        refine lv_iload_n hx hb dX8_coinOf_22 rfl (lv_at hl 3 rfl) ?_
        refine tf_iald (t0 := 0) hx hb hK hW had7 rfl rfl (by omega) (by omega) dX8_coinOf_23 (fun v8 hv8 hsv8 => ?_)
        obtain ⟨z9, rfl, hz9⟩ := tf_v0 hv8
        refine tf_imul_any hx hb dX8_coinOf_24 (fun z10 hz10 => ?_)
        refine tf_iadd_any hx hb dX8_coinOf_25 (fun z11 hz11 => ?_)
        refine lv_istore_n (lv' := [(2, .int (Int32.ofInt z11)), (0, .ref a0), (1, .int (Int32.ofInt x1)), (3, .int (Int32.ofInt x3_4))]) hx hb dX8_coinOf_26 rfl hl (by decide) rfl (fun ls hl => ?_)
        refine lv_iinc (v := Int32.ofInt ((x3_4 + 1))) (lv' := [(3, .int (Int32.ofInt ((x3_4 + 1)))), (2, .int (Int32.ofInt z11)), (0, .ref a0), (1, .int (Int32.ofInt x1))]) hx hb dX8_coinOf_27 hl (k := 3) rfl (Int32.ofInt_add _ _).symm (by decide) rfl (fun ls hl => ?_)
        refine lv_goto (tgt := 4) hx hb dX8_coinOf_30 (by decide) ?_
        exact ih_4 ⟨by omega, by omega⟩ (z11) ⟨by omega, by omega⟩ ((x3_4 + 1)) ⟨by omega, by omega⟩ (by omega) _ _ hW  _ (lv_sub hl [2, 3, 1, 0] rfl)
  refine tf_enter (As := [.ref a0, .int (Int32.ofInt x1)]) hargs (Nat.le_of_ble_eq_true rfl) (fun ls hl => ?_)
  have hl : lv_has ls 4 [(0, .ref a0), (1, .int (Int32.ofInt x1))] := hl
  refine tf_iconst hx hb dX8_coinOf_0 ?_
  refine lv_istore_n (lv' := [(2, .int (Int32.ofInt 0)), (0, .ref a0), (1, .int (Int32.ofInt x1))]) hx hb dX8_coinOf_1 rfl hl (by decide) rfl (fun ls hl => ?_)
  refine tf_iconst hx hb dX8_coinOf_2 ?_
  refine lv_istore_n (lv' := [(3, .int (Int32.ofInt 0)), (2, .int (Int32.ofInt 0)), (0, .ref a0), (1, .int (Int32.ofInt x1))]) hx hb dX8_coinOf_3 rfl hl (by decide) rfl (fun ls hl => ?_)
  exact j_4 ((8 - 0 + 1 : Int)).toNat ⟨by omega, by omega⟩ (0) ⟨by omega, by omega⟩ (0) ⟨by omega, by omega⟩ (by omega) _ _ hW  _ (lv_sub hl [2, 3, 1, 0] rfl)


abbrev M_J0_coder_7d493 : List (Nat × Nat) := []
set_option maxHeartbeats 4000000 in
set_option maxRecDepth 100000 in
theorem c_J0_coder_7d493 (l : Launch) (g : tf_G) (T : tf_T) (i0 w0 : Nat) (hi0 : i0 < 14) (hw0 : tf_sl.getD i0 0 = w0) (hv0 : 1 ≤ w0 ∧ w0 ≤ 6) : Met l yJ0_coder_7d493 (cd_J0_coder_7d493 :: wsL_law) ({ frames := 1, cells := 0, slots := 0, locals := 24 }) (tf_P g T [.ref (g.2.2.2 (10 + i0))] (fun H => True)) (tf_Qi g M_J0_coder_7d493 T (fun z _ _ => (z = 0))) 0 0 (fun q => tf_B g ≤ q) := by
  refine Met.ofW (cc := cJ0_coder_7d493) (maxL := 1) (ret := (some .byte)) (by decide) rfl ?_
  intro p e s m args below meth c s₁ B hml hv
  obtain ⟨hargs, hk, hW0, hB, hpre⟩ := hv
  have hx := B.exec
  have hb := B.bytes
  have hr := B.returns
  have hts : ∀ w ∈ wsL_law, w.before args s = true := fun w h => atoms_spec (ws := cd_J0_coder_7d493 :: wsL_law) B.pre w (List.mem_cons_of_mem _ h)
  have hown : s.vm.findClass RJ0 = some m.cls := findClass_of_methodNamed B.named
  have hlocks := B.notSynchronized
  have hK := hk.1
  have hW := tf_n.start (M := M_J0_coder_7d493) hW0 hB
  obtain ⟨Q, hQ⟩ : ∃ q, q = MQ below (tf_Qi g M_J0_coder_7d493 T (fun z _ _ => (z = 0))) args s 0 0 (fun q => tf_B g ≤ q) := ⟨_, rfl⟩
  rw [← hQ]
  obtain ⟨R, hR⟩ : ∃ q, q = (headSpec (cd_J0_coder_7d493 :: wsL_law) ({ frames := 1, cells := 0, slots := 0, locals := 24 })).room := ⟨_, rfl⟩
  rw [← hR]
  have hR1 : 1 ≤ R.frames := by rw [hR]; exact Nat.le_refl _
  have hR2 : 24 ≤ R.locals := by rw [hR]; exact Nat.le_refl _
  have hR3 : 0 ≤ R.cells := by rw [hR]; exact Nat.le_refl _
  have hR4 : 0 ≤ R.slots := by rw [hR]; exact Nat.le_refl _
  have hin := (name_of_methodNamed B.named B.method).1
  clear hR B
  refine tf_enter (As := [.ref (g.2.2.2 (10 + i0))]) hargs (Nat.le_of_ble_eq_true rfl) (fun ls hl => ?_)
  have hl : lv_has ls 1 [(0, .ref (g.2.2.2 (10 + i0)))] := hl
  refine tf_gcs hx hb hk hW hown (hts _ (tw21 (i := 20) rfl)) dJ0_coder_7d493_0 ?_
  refine tf_if_eq (tgt := 13) hx hb ⟨by decide, by decide⟩ dJ0_coder_7d493_3 (by decide) (fun h1 => ?_) (fun h1 => ?_)
  · exfalso; omega
  · refine lv_aload_n hx hb dJ0_coder_7d493_6 rfl (lv_at hl 0 rfl) ?_
    refine tf_scod (i := i0) hx hb hk hW hi0 hown (hts _ (tw21 (i := 21) rfl)) dJ0_coder_7d493_7 ?_
    refine lv_goto (tgt := 14) hx hb dJ0_coder_7d493_10 (by decide) ?_
    exact tf_retb (z := 0) hx hb hr hlocks hQ hW (by omega) (show ((0) = 0) by omega) dJ0_coder_7d493_14

abbrev M_J0_isLatin1_aae02 : List (Nat × Nat) := []
set_option maxHeartbeats 4000000 in
set_option maxRecDepth 100000 in
theorem c_J0_isLatin1_aae02 (l : Launch) (g : tf_G) (T : tf_T) (i0 w0 : Nat) (hi0 : i0 < 14) (hw0 : tf_sl.getD i0 0 = w0) (hv0 : 1 ≤ w0 ∧ w0 ≤ 6) : Met l yJ0_isLatin1_aae02 (cd_J0_isLatin1_aae02 :: wsL_law) ({ frames := 1, cells := 0, slots := 0, locals := 24 }) (tf_P g T [.ref (g.2.2.2 (10 + i0))] (fun H => True)) (tf_Qi g M_J0_isLatin1_aae02 T (fun z _ _ => (z = 1))) 0 0 (fun q => tf_B g ≤ q) := by
  refine Met.ofW (cc := cJ0_isLatin1_aae02) (maxL := 1) (ret := (some .boolean)) (by decide) rfl ?_
  intro p e s m args below meth c s₁ B hml hv
  obtain ⟨hargs, hk, hW0, hB, hpre⟩ := hv
  have hx := B.exec
  have hb := B.bytes
  have hr := B.returns
  have hts : ∀ w ∈ wsL_law, w.before args s = true := fun w h => atoms_spec (ws := cd_J0_isLatin1_aae02 :: wsL_law) B.pre w (List.mem_cons_of_mem _ h)
  have hown : s.vm.findClass RJ0 = some m.cls := findClass_of_methodNamed B.named
  have hlocks := B.notSynchronized
  have hK := hk.1
  have hW := tf_n.start (M := M_J0_isLatin1_aae02) hW0 hB
  obtain ⟨Q, hQ⟩ : ∃ q, q = MQ below (tf_Qi g M_J0_isLatin1_aae02 T (fun z _ _ => (z = 1))) args s 0 0 (fun q => tf_B g ≤ q) := ⟨_, rfl⟩
  rw [← hQ]
  obtain ⟨R, hR⟩ : ∃ q, q = (headSpec (cd_J0_isLatin1_aae02 :: wsL_law) ({ frames := 1, cells := 0, slots := 0, locals := 24 })).room := ⟨_, rfl⟩
  rw [← hR]
  have hR1 : 1 ≤ R.frames := by rw [hR]; exact Nat.le_refl _
  have hR2 : 24 ≤ R.locals := by rw [hR]; exact Nat.le_refl _
  have hR3 : 0 ≤ R.cells := by rw [hR]; exact Nat.le_refl _
  have hR4 : 0 ≤ R.slots := by rw [hR]; exact Nat.le_refl _
  have hin := (name_of_methodNamed B.named B.method).1
  clear hR B
  refine tf_enter (As := [.ref (g.2.2.2 (10 + i0))]) hargs (Nat.le_of_ble_eq_true rfl) (fun ls hl => ?_)
  have hl : lv_has ls 1 [(0, .ref (g.2.2.2 (10 + i0)))] := hl
  refine tf_gcs hx hb hk hW hown (hts _ (tw21 (i := 20) rfl)) dJ0_isLatin1_aae02_0 ?_
  refine tf_if_eq (tgt := 17) hx hb ⟨by decide, by decide⟩ dJ0_isLatin1_aae02_3 (by decide) (fun h1 => ?_) (fun h1 => ?_)
  · exfalso; omega
  · refine lv_aload_n hx hb dJ0_isLatin1_aae02_6 rfl (lv_at hl 0 rfl) ?_
    refine tf_scod (i := i0) hx hb hk hW hi0 hown (hts _ (tw21 (i := 21) rfl)) dJ0_isLatin1_aae02_7 ?_
    refine tf_if_ne (tgt := 17) hx hb ⟨by decide, by decide⟩ dJ0_isLatin1_aae02_10 (by decide) (fun h2 => ?_) (fun h2 => ?_)
    · exfalso; omega
    · refine tf_iconst hx hb dJ0_isLatin1_aae02_13 ?_
      refine lv_goto (tgt := 18) hx hb dJ0_isLatin1_aae02_14 (by decide) ?_
      exact tf_retz (z := 1) hx hb hr hlocks hQ hW (by omega) (show ((1) = 1) by omega) dJ0_isLatin1_aae02_18

abbrev M_J0_length_8abf5 : List (Nat × Nat) := []
set_option maxHeartbeats 4000000 in
set_option maxRecDepth 100000 in
theorem c_J0_length_8abf5 (l : Launch) (g : tf_G) (T : tf_T) (i0 w0 : Nat) (hi0 : i0 < 14) (hw0 : tf_sl.getD i0 0 = w0) (hv0 : 1 ≤ w0 ∧ w0 ≤ 6) : Met l yJ0_length_8abf5 (cd_J0_length_8abf5 :: wsL_law) ({ frames := 2, cells := 0, slots := 0, locals := 44 }) (tf_P g T [.ref (g.2.2.2 (10 + i0))] (fun H => True)) (tf_Qi g M_J0_length_8abf5 T (fun z _ _ => 1 ≤ z ∧ z ≤ 6 ∧ z = (w0 : Int))) 0 0 (fun q => tf_B g ≤ q) := by
  refine Met.ofW (cc := cJ0_length_8abf5) (maxL := 1) (ret := (some .int)) (by decide) rfl ?_
  intro p e s m args below meth c s₁ B hml hv
  obtain ⟨hargs, hk, hW0, hB, hpre⟩ := hv
  have hx := B.exec
  have hb := B.bytes
  have hr := B.returns
  have hts : ∀ w ∈ wsL_law, w.before args s = true := fun w h => atoms_spec (ws := cd_J0_length_8abf5 :: wsL_law) B.pre w (List.mem_cons_of_mem _ h)
  have hown : s.vm.findClass RJ0 = some m.cls := findClass_of_methodNamed B.named
  have hlocks := B.notSynchronized
  have hK := hk.1
  have hW := tf_n.start (M := M_J0_length_8abf5) hW0 hB
  obtain ⟨Q, hQ⟩ : ∃ q, q = MQ below (tf_Qi g M_J0_length_8abf5 T (fun z _ _ => 1 ≤ z ∧ z ≤ 6 ∧ z = (w0 : Int))) args s 0 0 (fun q => tf_B g ≤ q) := ⟨_, rfl⟩
  rw [← hQ]
  obtain ⟨R, hR⟩ : ∃ q, q = (headSpec (cd_J0_length_8abf5 :: wsL_law) ({ frames := 2, cells := 0, slots := 0, locals := 44 })).room := ⟨_, rfl⟩
  rw [← hR]
  have hR1 : 2 ≤ R.frames := by rw [hR]; exact Nat.le_refl _
  have hR2 : 44 ≤ R.locals := by rw [hR]; exact Nat.le_refl _
  have hR3 : 0 ≤ R.cells := by rw [hR]; exact Nat.le_refl _
  have hR4 : 0 ≤ R.slots := by rw [hR]; exact Nat.le_refl _
  have hin := (name_of_methodNamed B.named B.method).1
  clear hR B
  refine tf_enter (As := [.ref (g.2.2.2 (10 + i0))]) hargs (Nat.le_of_ble_eq_true rfl) (fun ls hl => ?_)
  have hl : lv_has ls 1 [(0, .ref (g.2.2.2 (10 + i0)))] := hl
  refine lv_aload_n hx hb dJ0_length_8abf5_0 rfl (lv_at hl 0 rfl) ?_
  refine tf_sval (i := i0) hx hb hk hW hi0 hown (hts _ (tw21 (i := 15) rfl)) dJ0_length_8abf5_1 ?_
  refine tf_slen (i := i0) (w := w0) hx hb hk hW hi0 hw0 dJ0_length_8abf5_4 ?_
  refine lv_aload_n hx hb dJ0_length_8abf5_5 rfl (lv_at hl 0 rfl) ?_
  refine tf_calli (va_runV (As := []) (rest := [.int (Int32.ofInt ((w0 : Int)))]) ⟨hx, hb, hml, hown, hts⟩ (c_J0_coder_7d493 l g T i0 w0 hi0 hw0 hv0) (cwV 0 hts gv_J0_335 rfl rfl rfl hd_J0_coder_7d493 ⟨Nat.le_trans (by decide) hR1, Nat.le_trans (by decide) hR2⟩) (tf_preR hk hW hi0 trivial) rfl rfl hl.1 rfl (lv_room (Nat.le_of_ble_eq_true rfl)) dJ0_length_8abf5_6 ⟨Nat.zero_le _, Nat.zero_le _⟩) hW (by decide) (fun z1 H1 locs1 hW hF1 hp1 => ?_)
  rcases hp1 with ⟨rfl⟩
  · refine tf_ishr_0 hx hb ⟨by omega, by omega⟩ dJ0_length_8abf5_9 ?_
    exact tf_reti (z := (w0 : Int)) hx hb hr hlocks hQ hW (show 1 ≤ ((w0 : Int)) ∧ ((w0 : Int)) ≤ 6 ∧ ((w0 : Int)) = (w0 : Int) by omega) dJ0_length_8abf5_10

abbrev M_J3_checkIndex_8e157 : List (Nat × Nat) := []
set_option maxHeartbeats 4000000 in
set_option maxRecDepth 100000 in
theorem c_J3_checkIndex_8e157 (l : Launch) (g : tf_G) (T : tf_T) (x0 : Int) (hp0 : 0 ≤ x0 ∧ x0 ≤ 5) (x1 : Int) (hp1 : 1 ≤ x1 ∧ x1 ≤ 6) (v2 : Value) (hv2 : v2 = .null ∨ ∃ a : Nat, v2 = .ref a) (hq0 : x0 < x1) : Met l yJ3_checkIndex_8e157 (cd_J3_checkIndex_8e157 :: wsL_law) ({ frames := 1, cells := 0, slots := 0, locals := 24 }) (tf_P g T [.int (Int32.ofInt x0), .int (Int32.ofInt x1), v2] (fun H => True)) (tf_Qi g M_J3_checkIndex_8e157 T (fun z _ _ => (-2147483648) ≤ z ∧ z ≤ 2147483647)) 0 0 (fun q => tf_B g ≤ q) := by
  rcases hv2 with rfl | ⟨a2, rfl⟩
  · refine Met.ofW (cc := cJ3_checkIndex_8e157) (maxL := 3) (ret := (some .int)) (by decide) rfl ?_
    intro p e s m args below meth c s₁ B hml hv
    obtain ⟨hargs, hk, hW0, hB, hpre⟩ := hv
    have hx := B.exec
    have hb := B.bytes
    have hr := B.returns
    have hts : ∀ w ∈ wsL_law, w.before args s = true := fun w h => atoms_spec (ws := cd_J3_checkIndex_8e157 :: wsL_law) B.pre w (List.mem_cons_of_mem _ h)
    have hown : s.vm.findClass RJ3 = some m.cls := findClass_of_methodNamed B.named
    have hlocks := B.notSynchronized
    have hK := hk.1
    have hW := tf_n.start (M := M_J3_checkIndex_8e157) hW0 hB
    obtain ⟨Q, hQ⟩ : ∃ q, q = MQ below (tf_Qi g M_J3_checkIndex_8e157 T (fun z _ _ => (-2147483648) ≤ z ∧ z ≤ 2147483647)) args s 0 0 (fun q => tf_B g ≤ q) := ⟨_, rfl⟩
    rw [← hQ]
    obtain ⟨R, hR⟩ : ∃ q, q = (headSpec (cd_J3_checkIndex_8e157 :: wsL_law) ({ frames := 1, cells := 0, slots := 0, locals := 24 })).room := ⟨_, rfl⟩
    rw [← hR]
    have hR1 : 1 ≤ R.frames := by rw [hR]; exact Nat.le_refl _
    have hR2 : 24 ≤ R.locals := by rw [hR]; exact Nat.le_refl _
    have hR3 : 0 ≤ R.cells := by rw [hR]; exact Nat.le_refl _
    have hR4 : 0 ≤ R.slots := by rw [hR]; exact Nat.le_refl _
    have hin := (name_of_methodNamed B.named B.method).1
    clear hR B
    refine tf_enter (As := [.int (Int32.ofInt x0), .int (Int32.ofInt x1), .null]) hargs (Nat.le_of_ble_eq_true rfl) (fun ls hl => ?_)
    have hl : lv_has ls 3 [(0, .int (Int32.ofInt x0)), (1, .int (Int32.ofInt x1)), (2, .null)] := hl
    refine lv_iload_n hx hb dJ3_checkIndex_8e157_0 rfl (lv_at hl 0 rfl) ?_
    refine tf_if_lt (tgt := 9) hx hb ⟨by omega, by omega⟩ dJ3_checkIndex_8e157_1 (by decide) (fun h1 => ?_) (fun h1 => ?_)
    · exfalso; omega
    · refine lv_iload_n hx hb dJ3_checkIndex_8e157_4 rfl (lv_at hl 0 rfl) ?_
      refine lv_iload_n hx hb dJ3_checkIndex_8e157_5 rfl (lv_at hl 1 rfl) ?_
      refine tf_icmp_lt (tgt := 16) hx hb ⟨by omega, by omega⟩ ⟨by omega, by omega⟩ dJ3_checkIndex_8e157_6 (by decide) (fun h2 => ?_) (fun h2 => ?_)
      · refine lv_iload_n hx hb dJ3_checkIndex_8e157_16 rfl (lv_at hl 0 rfl) ?_
        exact tf_reti (z := x0) hx hb hr hlocks hQ hW (show (-2147483648) ≤ (x0) ∧ (x0) ≤ 2147483647 by omega) dJ3_checkIndex_8e157_17
      · exfalso; omega
  · refine Met.ofW (cc := cJ3_checkIndex_8e157) (maxL := 3) (ret := (some .int)) (by decide) rfl ?_
    intro p e s m args below meth c s₁ B hml hv
    obtain ⟨hargs, hk, hW0, hB, hpre⟩ := hv
    have hx := B.exec
    have hb := B.bytes
    have hr := B.returns
    have hts : ∀ w ∈ wsL_law, w.before args s = true := fun w h => atoms_spec (ws := cd_J3_checkIndex_8e157 :: wsL_law) B.pre w (List.mem_cons_of_mem _ h)
    have hown : s.vm.findClass RJ3 = some m.cls := findClass_of_methodNamed B.named
    have hlocks := B.notSynchronized
    have hK := hk.1
    have hW := tf_n.start (M := M_J3_checkIndex_8e157) hW0 hB
    obtain ⟨Q, hQ⟩ : ∃ q, q = MQ below (tf_Qi g M_J3_checkIndex_8e157 T (fun z _ _ => (-2147483648) ≤ z ∧ z ≤ 2147483647)) args s 0 0 (fun q => tf_B g ≤ q) := ⟨_, rfl⟩
    rw [← hQ]
    obtain ⟨R, hR⟩ : ∃ q, q = (headSpec (cd_J3_checkIndex_8e157 :: wsL_law) ({ frames := 1, cells := 0, slots := 0, locals := 24 })).room := ⟨_, rfl⟩
    rw [← hR]
    have hR1 : 1 ≤ R.frames := by rw [hR]; exact Nat.le_refl _
    have hR2 : 24 ≤ R.locals := by rw [hR]; exact Nat.le_refl _
    have hR3 : 0 ≤ R.cells := by rw [hR]; exact Nat.le_refl _
    have hR4 : 0 ≤ R.slots := by rw [hR]; exact Nat.le_refl _
    have hin := (name_of_methodNamed B.named B.method).1
    clear hR B
    refine tf_enter (As := [.int (Int32.ofInt x0), .int (Int32.ofInt x1), .ref a2]) hargs (Nat.le_of_ble_eq_true rfl) (fun ls hl => ?_)
    have hl : lv_has ls 3 [(0, .int (Int32.ofInt x0)), (1, .int (Int32.ofInt x1)), (2, .ref a2)] := hl
    refine lv_iload_n hx hb dJ3_checkIndex_8e157_0 rfl (lv_at hl 0 rfl) ?_
    refine tf_if_lt (tgt := 9) hx hb ⟨by omega, by omega⟩ dJ3_checkIndex_8e157_1 (by decide) (fun h1 => ?_) (fun h1 => ?_)
    · exfalso; omega
    · refine lv_iload_n hx hb dJ3_checkIndex_8e157_4 rfl (lv_at hl 0 rfl) ?_
      refine lv_iload_n hx hb dJ3_checkIndex_8e157_5 rfl (lv_at hl 1 rfl) ?_
      refine tf_icmp_lt (tgt := 16) hx hb ⟨by omega, by omega⟩ ⟨by omega, by omega⟩ dJ3_checkIndex_8e157_6 (by decide) (fun h2 => ?_) (fun h2 => ?_)
      · refine lv_iload_n hx hb dJ3_checkIndex_8e157_16 rfl (lv_at hl 0 rfl) ?_
        exact tf_reti (z := x0) hx hb hr hlocks hQ hW (show (-2147483648) ≤ (x0) ∧ (x0) ≤ 2147483647 by omega) dJ3_checkIndex_8e157_17
      · exfalso; omega

abbrev M_J0_checkIndex_df160 : List (Nat × Nat) := []
set_option maxHeartbeats 4000000 in
set_option maxRecDepth 100000 in
theorem c_J0_checkIndex_df160 (l : Launch) (g : tf_G) (T : tf_T) (x0 : Int) (hp0 : 0 ≤ x0 ∧ x0 ≤ 5) (x1 : Int) (hp1 : 1 ≤ x1 ∧ x1 ≤ 6) (hq0 : x0 < x1) : Met l yJ0_checkIndex_df160 (cd_J0_checkIndex_df160 :: wsL_law) ({ frames := 2, cells := 0, slots := 0, locals := 46 }) (tf_P g T [.int (Int32.ofInt x0), .int (Int32.ofInt x1)] (fun H => True)) (tf_Qv g M_J0_checkIndex_df160 T (fun _ H => True)) 0 0 (fun q => tf_B g ≤ q) := by
  refine Met.ofW (cc := cJ0_checkIndex_df160) (maxL := 2) (ret := none) (by decide) rfl ?_
  intro p e s m args below meth c s₁ B hml hv
  obtain ⟨hargs, hk, hW0, hB, hpre⟩ := hv
  have hx := B.exec
  have hb := B.bytes
  have hr := B.returns
  have hts : ∀ w ∈ wsL_law, w.before args s = true := fun w h => atoms_spec (ws := cd_J0_checkIndex_df160 :: wsL_law) B.pre w (List.mem_cons_of_mem _ h)
  have hown : s.vm.findClass RJ0 = some m.cls := findClass_of_methodNamed B.named
  have hlocks := B.notSynchronized
  have hK := hk.1
  have hW := tf_n.start (M := M_J0_checkIndex_df160) hW0 hB
  obtain ⟨Q, hQ⟩ : ∃ q, q = MQ below (tf_Qv g M_J0_checkIndex_df160 T (fun _ H => True)) args s 0 0 (fun q => tf_B g ≤ q) := ⟨_, rfl⟩
  rw [← hQ]
  obtain ⟨R, hR⟩ : ∃ q, q = (headSpec (cd_J0_checkIndex_df160 :: wsL_law) ({ frames := 2, cells := 0, slots := 0, locals := 46 })).room := ⟨_, rfl⟩
  rw [← hR]
  have hR1 : 2 ≤ R.frames := by rw [hR]; exact Nat.le_refl _
  have hR2 : 46 ≤ R.locals := by rw [hR]; exact Nat.le_refl _
  have hR3 : 0 ≤ R.cells := by rw [hR]; exact Nat.le_refl _
  have hR4 : 0 ≤ R.slots := by rw [hR]; exact Nat.le_refl _
  have hin := (name_of_methodNamed B.named B.method).1
  clear hR B
  refine tf_enter (As := [.int (Int32.ofInt x0), .int (Int32.ofInt x1)]) hargs (Nat.le_of_ble_eq_true rfl) (fun ls hl => ?_)
  have hl : lv_has ls 2 [(0, .int (Int32.ofInt x0)), (1, .int (Int32.ofInt x1))] := hl
  refine lv_iload_n hx hb dJ0_checkIndex_df160_0 rfl (lv_at hl 0 rfl) ?_
  refine lv_iload_n hx hb dJ0_checkIndex_df160_1 rfl (lv_at hl 1 rfl) ?_
  refine tf_gsf hx hb hk hW hown (hts _ (tw22 (i := 13) rfl)) dJ0_checkIndex_df160_2 ?_ (fun sf1 => ?_)
  · refine tf_calli (va_runS (As := [.int (Int32.ofInt x0), .int (Int32.ofInt x1), .null]) (rest := []) ⟨hx, hb, hml, hown, hts⟩ (c_J3_checkIndex_8e157 l g T (x0) ⟨by omega, by omega⟩ (x1) ⟨by omega, by omega⟩ .null (Or.inl rfl) (by omega)) ⟨callB_of 3 hts (gw_ws cm_J3_checkIndex_8e157) rfl rfl rfl (hts _ (tw22 (i := 16) rfl)) (hts _ (tw22 (i := 14) rfl)) hd_J3_checkIndex_8e157.2 ⟨Nat.le_trans (by decide) hR1, Nat.le_trans (by decide) hR2⟩, hts _ (tw22 (i := 15) rfl)⟩ (tf_preS hk hW trivial) rfl rfl hl.1 rfl (lv_room (Nat.le_of_ble_eq_true rfl)) dJ0_checkIndex_df160_5 ⟨Nat.zero_le _, Nat.zero_le _⟩) hW (by decide) (fun z2 H2 locs2 hW hF2 hp2 => ?_)
    obtain ⟨hp2_0, hp2_1⟩ := hp2
    refine lv_pop hx hb dJ0_checkIndex_df160_8 rfl ?_
    exact tf_retv hx hb hr hlocks hQ hW trivial dJ0_checkIndex_df160_9
  · refine tf_calli (va_runS (As := [.int (Int32.ofInt x0), .int (Int32.ofInt x1), .ref sf1]) (rest := []) ⟨hx, hb, hml, hown, hts⟩ (c_J3_checkIndex_8e157 l g T (x0) ⟨by omega, by omega⟩ (x1) ⟨by omega, by omega⟩ (.ref sf1) (Or.inr ⟨_, rfl⟩) (by omega)) ⟨callB_of 3 hts (gw_ws cm_J3_checkIndex_8e157) rfl rfl rfl (hts _ (tw22 (i := 16) rfl)) (hts _ (tw22 (i := 14) rfl)) hd_J3_checkIndex_8e157.2 ⟨Nat.le_trans (by decide) hR1, Nat.le_trans (by decide) hR2⟩, hts _ (tw22 (i := 15) rfl)⟩ (tf_preS hk hW trivial) rfl rfl hl.1 rfl (lv_room (Nat.le_of_ble_eq_true rfl)) dJ0_checkIndex_df160_5 ⟨Nat.zero_le _, Nat.zero_le _⟩) hW (by decide) (fun z3 H3 locs3 hW hF3 hp3 => ?_)
    obtain ⟨hp3_0, hp3_1⟩ := hp3
    refine lv_pop hx hb dJ0_checkIndex_df160_8 rfl ?_
    exact tf_retv hx hb hr hlocks hQ hW trivial dJ0_checkIndex_df160_9

abbrev M_J1_charAt_3b067 : List (Nat × Nat) := []
set_option maxHeartbeats 4000000 in
set_option maxRecDepth 100000 in
theorem c_J1_charAt_3b067 (l : Launch) (g : tf_G) (T : tf_T) (i0 w0 : Nat) (hi0 : i0 < 14) (hw0 : tf_sl.getD i0 0 = w0) (hv0 : 1 ≤ w0 ∧ w0 ≤ 6) (x1 : Int) (hp1 : 0 ≤ x1 ∧ x1 ≤ 5) (hq0 : x1 < (w0 : Int)) : Met l yJ1_charAt_3b067 (cd_J1_charAt_3b067 :: wsL_law) ({ frames := 3, cells := 0, slots := 0, locals := 67 }) (tf_P g T [.ref (g.2.2.2 (40 + i0)), .int (Int32.ofInt x1)] (fun H => True)) (tf_Qi g M_J1_charAt_3b067 T (fun z _ _ => 0 ≤ z ∧ z ≤ 65535)) 0 0 (fun q => tf_B g ≤ q) := by
  refine Met.ofW (cc := cJ1_charAt_3b067) (maxL := 2) (ret := (some .char)) (by decide) rfl ?_
  intro p e s m args below meth c s₁ B hml hv
  obtain ⟨hargs, hk, hW0, hB, hpre⟩ := hv
  have hx := B.exec
  have hb := B.bytes
  have hr := B.returns
  have hts : ∀ w ∈ wsL_law, w.before args s = true := fun w h => atoms_spec (ws := cd_J1_charAt_3b067 :: wsL_law) B.pre w (List.mem_cons_of_mem _ h)
  have hown : s.vm.findClass RJ1 = some m.cls := findClass_of_methodNamed B.named
  have hlocks := B.notSynchronized
  have hK := hk.1
  have hW := tf_n.start (M := M_J1_charAt_3b067) hW0 hB
  obtain ⟨Q, hQ⟩ : ∃ q, q = MQ below (tf_Qi g M_J1_charAt_3b067 T (fun z _ _ => 0 ≤ z ∧ z ≤ 65535)) args s 0 0 (fun q => tf_B g ≤ q) := ⟨_, rfl⟩
  rw [← hQ]
  obtain ⟨R, hR⟩ : ∃ q, q = (headSpec (cd_J1_charAt_3b067 :: wsL_law) ({ frames := 3, cells := 0, slots := 0, locals := 67 })).room := ⟨_, rfl⟩
  rw [← hR]
  have hR1 : 3 ≤ R.frames := by rw [hR]; exact Nat.le_refl _
  have hR2 : 67 ≤ R.locals := by rw [hR]; exact Nat.le_refl _
  have hR3 : 0 ≤ R.cells := by rw [hR]; exact Nat.le_refl _
  have hR4 : 0 ≤ R.slots := by rw [hR]; exact Nat.le_refl _
  have hin := (name_of_methodNamed B.named B.method).1
  clear hR B
  refine tf_enter (As := [.ref (g.2.2.2 (40 + i0)), .int (Int32.ofInt x1)]) hargs (Nat.le_of_ble_eq_true rfl) (fun ls hl => ?_)
  have hl : lv_has ls 2 [(0, .ref (g.2.2.2 (40 + i0))), (1, .int (Int32.ofInt x1))] := hl
  refine lv_iload_n hx hb dJ1_charAt_3b067_0 rfl (lv_at hl 1 rfl) ?_
  refine lv_aload_n hx hb dJ1_charAt_3b067_1 rfl (lv_at hl 0 rfl) ?_
  refine tf_slen (i := i0) (w := w0) hx hb hk hW hi0 hw0 dJ1_charAt_3b067_2 ?_
  refine tf_callv (va_runS (As := [.int (Int32.ofInt x1), .int (Int32.ofInt ((w0 : Int)))]) (rest := []) ⟨hx, hb, hml, hown, hts⟩ (c_J0_checkIndex_df160 l g T (x1) ⟨by omega, by omega⟩ ((w0 : Int)) ⟨by omega, by omega⟩ (by omega)) ⟨callB_of 2 hts (gw_ws cm_J0_checkIndex_df160) rfl rfl rfl (hts _ (tw21 (i := 13) rfl)) (hts _ (tw22 (i := 10) rfl)) hd_J0_checkIndex_df160.2 ⟨Nat.le_trans (by decide) hR1, Nat.le_trans (by decide) hR2⟩, hts _ (tw22 (i := 11) rfl)⟩ (tf_preS hk hW trivial) rfl rfl hl.1 rfl (lv_room (Nat.le_of_ble_eq_true rfl)) dJ1_charAt_3b067_3 ⟨Nat.zero_le _, Nat.zero_le _⟩) hW (by decide) (fun H1 locs1 hW hF1 hp1 => ?_)
  refine lv_aload_n hx hb dJ1_charAt_3b067_6 rfl (lv_at hl 0 rfl) ?_
  refine lv_iload_n hx hb dJ1_charAt_3b067_7 rfl (lv_at hl 1 rfl) ?_
  refine tf_sbyt (i := i0) (w := w0) hx hb hk hW hi0 hw0 hv0.2 (by omega) (by omega) dJ1_charAt_3b067_8 (fun z2 hz2 => ?_)
  refine tf_sipush hx hb dJ1_charAt_3b067_9 (by decide) ?_
  refine tf_iand_mask hx hb 8 (by decide) (by decide +kernel) dJ1_charAt_3b067_12 (fun z3 hz3 kz3 => ?_)
  refine tf_i2c hx hb dJ1_charAt_3b067_13 (fun z4 hz4 => ?_)
  exact tf_retc (z := z4) hx hb hr hlocks hQ hW ⟨by omega, by omega⟩ (show 0 ≤ (z4) ∧ (z4) ≤ 65535 by omega) dJ1_charAt_3b067_14

abbrev M_J0_charAt_5068e : List (Nat × Nat) := []
set_option maxHeartbeats 4000000 in
set_option maxRecDepth 100000 in
theorem c_J0_charAt_5068e (l : Launch) (g : tf_G) (T : tf_T) (i0 w0 : Nat) (hi0 : i0 < 14) (hw0 : tf_sl.getD i0 0 = w0) (hv0 : 1 ≤ w0 ∧ w0 ≤ 6) (x1 : Int) (hp1 : 0 ≤ x1 ∧ x1 ≤ 5) (hq0 : x1 < (w0 : Int)) : Met l yJ0_charAt_5068e (cd_J0_charAt_5068e :: wsL_law) ({ frames := 4, cells := 0, slots := 0, locals := 88 }) (tf_P g T [.ref (g.2.2.2 (10 + i0)), .int (Int32.ofInt x1)] (fun H => True)) (tf_Qi g M_J0_charAt_5068e T (fun z _ _ => 0 ≤ z ∧ z ≤ 65535)) 0 0 (fun q => tf_B g ≤ q) := by
  refine Met.ofW (cc := cJ0_charAt_5068e) (maxL := 2) (ret := (some .char)) (by decide) rfl ?_
  intro p e s m args below meth c s₁ B hml hv
  obtain ⟨hargs, hk, hW0, hB, hpre⟩ := hv
  have hx := B.exec
  have hb := B.bytes
  have hr := B.returns
  have hts : ∀ w ∈ wsL_law, w.before args s = true := fun w h => atoms_spec (ws := cd_J0_charAt_5068e :: wsL_law) B.pre w (List.mem_cons_of_mem _ h)
  have hown : s.vm.findClass RJ0 = some m.cls := findClass_of_methodNamed B.named
  have hlocks := B.notSynchronized
  have hK := hk.1
  have hW := tf_n.start (M := M_J0_charAt_5068e) hW0 hB
  obtain ⟨Q, hQ⟩ : ∃ q, q = MQ below (tf_Qi g M_J0_charAt_5068e T (fun z _ _ => 0 ≤ z ∧ z ≤ 65535)) args s 0 0 (fun q => tf_B g ≤ q) := ⟨_, rfl⟩
  rw [← hQ]
  obtain ⟨R, hR⟩ : ∃ q, q = (headSpec (cd_J0_charAt_5068e :: wsL_law) ({ frames := 4, cells := 0, slots := 0, locals := 88 })).room := ⟨_, rfl⟩
  rw [← hR]
  have hR1 : 4 ≤ R.frames := by rw [hR]; exact Nat.le_refl _
  have hR2 : 88 ≤ R.locals := by rw [hR]; exact Nat.le_refl _
  have hR3 : 0 ≤ R.cells := by rw [hR]; exact Nat.le_refl _
  have hR4 : 0 ≤ R.slots := by rw [hR]; exact Nat.le_refl _
  have hin := (name_of_methodNamed B.named B.method).1
  clear hR B
  refine tf_enter (As := [.ref (g.2.2.2 (10 + i0)), .int (Int32.ofInt x1)]) hargs (Nat.le_of_ble_eq_true rfl) (fun ls hl => ?_)
  have hl : lv_has ls 2 [(0, .ref (g.2.2.2 (10 + i0))), (1, .int (Int32.ofInt x1))] := hl
  refine lv_aload_n hx hb dJ0_charAt_5068e_0 rfl (lv_at hl 0 rfl) ?_
  refine tf_calli (va_runV (As := []) (rest := []) ⟨hx, hb, hml, hown, hts⟩ (c_J0_isLatin1_aae02 l g T i0 w0 hi0 hw0 hv0) (cwV 0 hts gv_J0_492 rfl rfl rfl hd_J0_isLatin1_aae02 ⟨Nat.le_trans (by decide) hR1, Nat.le_trans (by decide) hR2⟩) (tf_preR hk hW hi0 trivial) rfl rfl hl.1 rfl (lv_room (Nat.le_of_ble_eq_true rfl)) dJ0_charAt_5068e_1 ⟨Nat.zero_le _, Nat.zero_le _⟩) hW (by decide) (fun z1 H1 locs1 hW hF1 hp1 => ?_)
  rcases hp1 with ⟨rfl⟩
  · refine tf_if_eq (tgt := 16) hx hb ⟨by decide, by decide⟩ dJ0_charAt_5068e_4 (by decide) (fun h2 => ?_) (fun h2 => ?_)
    · exfalso; omega
    · refine lv_aload_n hx hb dJ0_charAt_5068e_7 rfl (lv_at hl 0 rfl) ?_
      refine tf_sval (i := i0) hx hb hk hW hi0 hown (hts _ (tw21 (i := 15) rfl)) dJ0_charAt_5068e_8 ?_
      refine lv_iload_n hx hb dJ0_charAt_5068e_11 rfl (lv_at hl 1 rfl) ?_
      refine tf_calli (va_runS (As := [.ref (g.2.2.2 (40 + i0)), .int (Int32.ofInt x1)]) (rest := []) ⟨hx, hb, hml, hown, hts⟩ (c_J1_charAt_3b067 l g T i0 w0 hi0 hw0 hv0 (x1) ⟨by omega, by omega⟩ (by omega)) ⟨callB_of 2 hts (gw_ws cm_J1_charAt_3b067) rfl rfl rfl (hts _ (tw22 (i := 8) rfl)) (hts _ (tw22 (i := 6) rfl)) hd_J1_charAt_3b067.2 ⟨Nat.le_trans (by decide) hR1, Nat.le_trans (by decide) hR2⟩, hts _ (tw22 (i := 7) rfl)⟩ (tf_preS hk hW trivial) rfl rfl hl.1 rfl (lv_room (Nat.le_of_ble_eq_true rfl)) dJ0_charAt_5068e_12 ⟨Nat.zero_le _, Nat.zero_le _⟩) hW (by decide) (fun z3 H3 locs3 hW hF3 hp3 => ?_)
      obtain ⟨hp3_0, hp3_1⟩ := hp3
      exact tf_retc (z := z3) hx hb hr hlocks hQ hW ⟨by omega, by omega⟩ (show 0 ≤ (z3) ∧ (z3) ≤ 65535 by omega) dJ0_charAt_5068e_15


abbrev M_X4_spells : List (Nat × Nat) := []
set_option maxHeartbeats 4000000 in
set_option maxRecDepth 100000 in
theorem c_X4_spells (l : Launch) (g : tf_G) (T : tf_T) (a0 : Nat) (ha0 : T a0 = some (34, 0)) (i1 w1 : Nat) (hi1 : i1 < 14) (hw1 : tf_sl.getD i1 0 = w1) (hv1 : 1 ≤ w1 ∧ w1 ≤ 6) (x2 : Int) (hp2 : 0 ≤ x2 ∧ x2 ≤ 399) (b0 : Nat) (hb0 : T b0 = some (3, 400)) (tp : Int → Int) (n9 : Int) (hn9 : 0 ≤ n9 ∧ n9 ≤ 400) : Met l yX4_spells (cd_X4_spells :: wsL_law) ({ frames := 5, cells := 0, slots := 0, locals := 109 }) (tf_P g T [.ref a0, .ref (g.2.2.2 (10 + i1)), .int (Int32.ofInt x2)] (fun H => tf_s H a0 (g.1.2 4 3) = some (.ref b0) ∧ tf_rw H b0 = tp ∧ tf_s H a0 (g.1.2 4 4) = some (.int (Int32.ofInt n9)))) (tf_Qi g M_X4_spells T (fun z _ _ => (z = 1 ∧ tf_spl tp n9 x2 i1 w1) ∨ (z = 0 ∧ ¬ tf_spl tp n9 x2 i1 w1))) 0 0 (fun q => tf_B g ≤ q) := by
  refine Met.ofW (cc := cX4_spells) (maxL := 5) (ret := (some .boolean)) (by decide) rfl ?_
  intro p e s m args below meth c s₁ B hml hv
  obtain ⟨hargs, hk, hW0, hB, hpre⟩ := hv
  obtain ⟨he0, he1, he2⟩ := hpre
  have hx := B.exec
  have hb := B.bytes
  have hr := B.returns
  have hts : ∀ w ∈ wsL_law, w.before args s = true := fun w h => atoms_spec (ws := cd_X4_spells :: wsL_law) B.pre w (List.mem_cons_of_mem _ h)
  have hown : s.vm.findClass RX4 = some m.cls := findClass_of_methodNamed B.named
  have hlocks := B.notSynchronized
  have hK := hk.1
  have hW := tf_n.start (M := M_X4_spells) hW0 hB
  obtain ⟨Q, hQ⟩ : ∃ q, q = MQ below (tf_Qi g M_X4_spells T (fun z _ _ => (z = 1 ∧ tf_spl tp n9 x2 i1 w1) ∨ (z = 0 ∧ ¬ tf_spl tp n9 x2 i1 w1))) args s 0 0 (fun q => tf_B g ≤ q) := ⟨_, rfl⟩
  rw [← hQ]
  obtain ⟨R, hR⟩ : ∃ q, q = (headSpec (cd_X4_spells :: wsL_law) ({ frames := 5, cells := 0, slots := 0, locals := 109 })).room := ⟨_, rfl⟩
  rw [← hR]
  have hR1 : 5 ≤ R.frames := by rw [hR]; exact Nat.le_refl _
  have hR2 : 109 ≤ R.locals := by rw [hR]; exact Nat.le_refl _
  have hR3 : 0 ≤ R.cells := by rw [hR]; exact Nat.le_refl _
  have hR4 : 0 ≤ R.slots := by rw [hR]; exact Nat.le_refl _
  have hin := (name_of_methodNamed B.named B.method).1
  clear hR B
  have j_40 : ∀ (n_40 : Nat), 0 ≤ x2 ∧ x2 ≤ 399 → ∀ (x4_40 : Int), 0 ≤ x4_40 ∧ x4_40 ≤ 6 → (x2 + (w1 : Int) ≤ n9) → (x2 + (w1 : Int) < n9 → ¬ (97 ≤ tp (x2 + (w1 : Int)) ∧ tp (x2 + (w1 : Int)) ≤ 122)) → (x4_40 ≤ (w1 : Int)) → (∀ j : Int, 0 ≤ j → j < x4_40 → tp (x2 + j) = ((tf_sb.getD i1 []).getD (j).toNat 0).toInt) → ((w1 : Int) - x4_40 + 1 ≤ (n_40 : Int)) → ∀ (H : Heap) (locs : List Loc), tf_n tf_kt g M_X4_spells T s.heap T H locs → tf_s H a0 (g.1.2 4 3) = some (.ref b0) → tf_rw H b0 = tp → ∀ (ls : Array Slot), lv_has ls 5 [(0, .ref a0), (1, .ref (g.2.2.2 (10 + i1))), (2, .int (Int32.ofInt x2)), (4, .int (Int32.ofInt x4_40))] → W p l e R s m args below meth c H locs 0 0 Q (F0 m 40 ls []) := by
    intro n_40
    induction n_40 with
    | zero =>
      intro hx2_40 x4_40 hx4_40 hi0_40 hi1_40 hi2_40 hi3_40 hm_40
      exfalso; omega
    | succ n_40 ih_40 =>
      intro hx2_40 x4_40 hx4_40 hi0_40 hi1_40 hi2_40 hi3_40 hm_40 H locs hW hs3_40 hcTAPE_40 ls hl
      refine lv_iload hx hb dX4_spells_40 (lv_at hl 3 rfl) ?_
      refine lv_aload_n hx hb dX4_spells_42 rfl (lv_at hl 1 rfl) ?_
      refine tf_calli (va_runV (As := []) (rest := [.int (Int32.ofInt x4_40)]) ⟨hx, hb, hml, hown, hts⟩ (c_J0_length_8abf5 l g T i1 w1 hi1 hw1 hv1) (cwV 0 hts gv_X4_93 rfl rfl rfl hd_J0_length_8abf5 ⟨Nat.le_trans (by decide) hR1, Nat.le_trans (by decide) hR2⟩) (tf_preR hk hW hi1 trivial) rfl rfl hl.1 rfl (lv_room (Nat.le_of_ble_eq_true rfl)) dX4_spells_43 ⟨Nat.zero_le _, Nat.zero_le _⟩) hW (by decide) (fun z1 H1 locs1 hW hF1 hp1 => ?_)
      have hs2 := tf_keepF hF1 ha0 rfl rfl (by decide) hs3_40
      have hs3 := tf_keepC hF1 hb0 rfl (by decide) hcTAPE_40
      obtain ⟨hp1_0, hp1_1, hp1_2⟩ := hp1
      refine tf_icmp_ge (tgt := 75) hx hb ⟨by omega, by omega⟩ ⟨by omega, by omega⟩ dX4_spells_46 (by decide) (fun h4 => ?_) (fun h4 => ?_)
      · refine tf_iconst hx hb dX4_spells_75 ?_
        exact tf_retz (z := 1) hx hb hr hlocks hQ hW (by omega) (Or.inl ⟨rfl, hi0_40, hi1_40, fun j j0 j1 => hi3_40 j j0 (by omega)⟩) dX4_spells_76
      · refine lv_aload_n hx hb dX4_spells_49 rfl (lv_at hl 0 rfl) ?_
        refine tf_get hx hb hts inlX4 hown hK (ci := 4) rfl hW ha0 rfl 3 rfl (by decide) (hts _ fl_X4_22) dX4_spells_50 (fun v5 hv5 hsv5 => ?_)
        obtain rfl : v5 = .ref b0 := Option.some.inj (hsv5.symm.trans hs2)
        refine lv_iload_n hx hb dX4_spells_53 rfl (lv_at hl 2 rfl) ?_
        refine lv_iload hx hb dX4_spells_54 (lv_at hl 3 rfl) ?_
        refine tf_iadd hx hb dX4_spells_56 ?_
        refine tf_iald (t0 := 0) hx hb hK hW hb0 rfl rfl (by omega) (by omega) dX4_spells_57 (fun v6 hv6 hsv6 => ?_)
        obtain ⟨z7, rfl, hz7⟩ := tf_v0 hv6
        have er8 : tp (x2 + x4_40) = z7 := hs3 ▸ tf_rw_of (by omega) hsv6 ⟨by omega, by omega⟩
        refine lv_aload_n hx hb dX4_spells_58 rfl (lv_at hl 1 rfl) ?_
        refine lv_iload hx hb dX4_spells_59 (lv_at hl 3 rfl) ?_
        refine tf_calli (va_runV (As := [.int (Int32.ofInt x4_40)]) (rest := [.int (Int32.ofInt z7)]) ⟨hx, hb, hml, hown, hts⟩ (c_J0_charAt_5068e l g T i1 w1 hi1 hw1 hv1 (x4_40) ⟨by omega, by omega⟩ (by omega)) (cwV 1 hts gv_X4_98 rfl rfl rfl hd_J0_charAt_5068e ⟨Nat.le_trans (by decide) hR1, Nat.le_trans (by decide) hR2⟩) (tf_preR hk hW hi1 trivial) rfl rfl hl.1 rfl (lv_room (Nat.le_of_ble_eq_true rfl)) dX4_spells_61 ⟨Nat.zero_le _, Nat.zero_le _⟩) hW (by decide) (fun zC HC locsC hW hFC hpC => ?_)
        have hs9 := tf_keepF hFC ha0 rfl rfl (by decide) hs2
        have hs10 := tf_keepC hFC hb0 rfl (by decide) hs3
        obtain ⟨hpC_0, hpC_1, hpC_2⟩ := hpC
        refine tf_icmp_eq (tgt := 69) hx hb ⟨by omega, by omega⟩ ⟨by omega, by omega⟩ dX4_spells_64 (by decide) (fun h11 => ?_) (fun h11 => ?_)
        · refine lv_iinc (v := Int32.ofInt ((x4_40 + 1))) (lv' := [(4, .int (Int32.ofInt ((x4_40 + 1)))), (0, .ref a0), (1, .ref (g.2.2.2 (10 + i1))), (2, .int (Int32.ofInt x2))]) hx hb dX4_spells_69 hl (k := 3) rfl (Int32.ofInt_add _ _).symm (by decide) rfl (fun ls hl => ?_)
          refine lv_goto (tgt := 40) hx hb dX4_spells_72 (by decide) ?_
          exact ih_40 ⟨by omega, by omega⟩ ((x4_40 + 1)) ⟨by omega, by omega⟩ (by first | assumption | omega) (by first | exact hi1_37 | exact hi1_40) (by first | assumption | omega) (by first | exact fun j j0 j1 => by omega | exact tf_spl_st hi3_40 er8 hpC_2 (by omega)) (by omega) _ _ hW hs9 hs10 _ (lv_sub hl [1, 2, 3, 0] rfl)
        · refine tf_iconst hx hb dX4_spells_67 ?_
          exact tf_retz (z := 0) hx hb hr hlocks hQ hW (by omega) (Or.inr ⟨rfl, tf_spl_c er8 hpC_2 (by omega) (by omega) (by omega)⟩) dX4_spells_68
  have j_37 : 0 ≤ x2 ∧ x2 ≤ 399 → (x2 + (w1 : Int) ≤ n9) → (x2 + (w1 : Int) < n9 → ¬ (97 ≤ tp (x2 + (w1 : Int)) ∧ tp (x2 + (w1 : Int)) ≤ 122)) → ∀ (H : Heap) (locs : List Loc), tf_n tf_kt g M_X4_spells T s.heap T H locs → tf_s H a0 (g.1.2 4 3) = some (.ref b0) → tf_rw H b0 = tp → ∀ (ls : Array Slot), lv_has ls 5 [(0, .ref a0), (1, .ref (g.2.2.2 (10 + i1))), (2, .int (Int32.ofInt x2))] → W p l e R s m args below meth c H locs 0 0 Q (F0 m 37 ls []) := by
    intro hx2_37 hi0_37 hi1_37 H locs hW hs3_37 hcTAPE_37 ls hl
    refine tf_iconst hx hb dX4_spells_37 ?_
    refine lv_istore (lv' := [(4, .int (Int32.ofInt 0)), (0, .ref a0), (1, .ref (g.2.2.2 (10 + i1))), (2, .int (Int32.ofInt x2))]) hx hb dX4_spells_38 hl (by decide) rfl (fun ls hl => ?_)
    exact j_40 (((w1 : Int) - 0 + 1 : Int)).toNat ⟨by omega, by omega⟩ (0) ⟨by omega, by omega⟩ (by first | assumption | omega) (by first | exact hi1_37 | exact hi1_40) (by first | assumption | omega) (by first | exact fun j j0 j1 => by omega | exact tf_spl_st hi3_40 hno_ hpC_2 (by omega)) (by omega) _ _ hW hs3_37 hcTAPE_37 _ (lv_sub hl [1, 2, 3, 0] rfl)
  refine tf_enter (As := [.ref a0, .ref (g.2.2.2 (10 + i1)), .int (Int32.ofInt x2)]) hargs (Nat.le_of_ble_eq_true rfl) (fun ls hl => ?_)
  have hl : lv_has ls 5 [(0, .ref a0), (1, .ref (g.2.2.2 (10 + i1))), (2, .int (Int32.ofInt x2))] := hl
  refine lv_iload_n hx hb dX4_spells_0 rfl (lv_at hl 2 rfl) ?_
  refine lv_aload_n hx hb dX4_spells_1 rfl (lv_at hl 1 rfl) ?_
  refine tf_calli (va_runV (As := []) (rest := [.int (Int32.ofInt x2)]) ⟨hx, hb, hml, hown, hts⟩ (c_J0_length_8abf5 l g T i1 w1 hi1 hw1 hv1) (cwV 0 hts gv_X4_93 rfl rfl rfl hd_J0_length_8abf5 ⟨Nat.le_trans (by decide) hR1, Nat.le_trans (by decide) hR2⟩) (tf_preR hk hW hi1 trivial) rfl rfl hl.1 rfl (lv_room (Nat.le_of_ble_eq_true rfl)) dX4_spells_2 ⟨Nat.zero_le _, Nat.zero_le _⟩) hW (by decide) (fun z12 H12 locs12 hW hF12 hp12 => ?_)
  have hs13 := tf_keepF hF12 ha0 rfl rfl (by decide) he0
  have hs14 := tf_keepC hF12 hb0 rfl (by decide) he1
  have hs15 := tf_keepF hF12 ha0 rfl rfl (by decide) he2
  obtain ⟨hp12_0, hp12_1, hp12_2⟩ := hp12
  refine tf_iadd hx hb dX4_spells_5 ?_
  refine lv_istore_n (lv' := [(3, .int (Int32.ofInt ((x2 + z12)))), (0, .ref a0), (1, .ref (g.2.2.2 (10 + i1))), (2, .int (Int32.ofInt x2))]) hx hb dX4_spells_6 rfl hl (by decide) rfl (fun ls hl => ?_)
  refine lv_iload_n hx hb dX4_spells_7 rfl (lv_at hl 0 rfl) ?_
  refine lv_aload_n hx hb dX4_spells_8 rfl (lv_at hl 1 rfl) ?_
  refine tf_get hx hb hts inlX4 hown hK (ci := 4) rfl hW ha0 rfl 4 rfl (by decide) (hts _ fl_X4_25) dX4_spells_9 (fun v16 hv16 hsv16 => ?_)
  obtain rfl : v16 = .int (Int32.ofInt n9) := Option.some.inj (hsv16.symm.trans hs15)
  refine tf_icmp_gt (tgt := 35) hx hb ⟨by omega, by omega⟩ ⟨by omega, by omega⟩ dX4_spells_12 (by decide) (fun h17 => ?_) (fun h17 => ?_)
  · refine tf_iconst hx hb dX4_spells_35 ?_
    exact tf_retz (z := 0) hx hb hr hlocks hQ hW (by omega) (by first | exact Or.inr ⟨rfl, fun h => by have := h.1; omega⟩ | exact Or.inr ⟨rfl, tf_spl_b hno_ (by omega) (by omega) (by omega)⟩) dX4_spells_36
  · refine lv_iload_n hx hb dX4_spells_15 rfl (lv_at hl 0 rfl) ?_
    refine lv_aload_n hx hb dX4_spells_16 rfl (lv_at hl 1 rfl) ?_
    refine tf_get hx hb hts inlX4 hown hK (ci := 4) rfl hW ha0 rfl 4 rfl (by decide) (hts _ fl_X4_25) dX4_spells_17 (fun v18 hv18 hsv18 => ?_)
    obtain rfl : v18 = .int (Int32.ofInt n9) := Option.some.inj (hsv18.symm.trans hs15)
    refine tf_icmp_ge (tgt := 37) hx hb ⟨by omega, by omega⟩ ⟨by omega, by omega⟩ dX4_spells_20 (by decide) (fun h19 => ?_) (fun h19 => ?_)
    · exact j_37 ⟨by omega, by omega⟩ (by first | assumption | omega) (by first | exact fun h => by omega | exact fun h => tf_spl_end hno_ (by omega) (by omega)) _ _ hW hs13 hs14 _ (lv_sub hl [1, 2, 3] rfl)
    · refine lv_aload_n hx hb dX4_spells_23 rfl (lv_at hl 1 rfl) ?_
      refine tf_get hx hb hts inlX4 hown hK (ci := 4) rfl hW ha0 rfl 3 rfl (by decide) (hts _ fl_X4_22) dX4_spells_24 (fun v20 hv20 hsv20 => ?_)
      obtain rfl : v20 = .ref b0 := Option.some.inj (hsv20.symm.trans hs13)
      refine lv_iload_n hx hb dX4_spells_27 rfl (lv_at hl 0 rfl) ?_
      refine tf_iald (t0 := 0) hx hb hK hW hb0 rfl rfl (by omega) (by omega) dX4_spells_28 (fun v21 hv21 hsv21 => ?_)
      obtain ⟨z22, rfl, hz22⟩ := tf_v0 hv21
      have er23 : tp (x2 + z12) = z22 := hs14 ▸ tf_rw_of (by omega) hsv21 ⟨by omega, by omega⟩
      refine tf_calli (va_runS (As := [.int (Int32.ofInt z22)]) (rest := []) ⟨hx, hb, hml, hown, hts⟩ (c_X4_isLetter l g T (z22) ⟨by omega, by omega⟩) ⟨callB_of 1 hts (gw_ws cm_X4_isLetter) rfl rfl rfl (hts _ (tw6 (i := 0) rfl)) (hts _ (tw20 (i := 16) rfl)) hd_X4_isLetter.2 ⟨Nat.le_trans (by decide) hR1, Nat.le_trans (by decide) hR2⟩, hts _ (tw20 (i := 17) rfl)⟩ (tf_preS hk hW trivial) rfl rfl hl.1 rfl (lv_room (Nat.le_of_ble_eq_true rfl)) dX4_spells_29 ⟨Nat.zero_le _, Nat.zero_le _⟩) hW (by decide) (fun z24 H24 locs24 hW hF24 hp24 => ?_)
      have hs25 := tf_keepF hF24 ha0 rfl rfl (by decide) hs13
      have hs26 := tf_keepC hF24 hb0 rfl (by decide) hs14
      have hs27 := tf_keepF hF24 ha0 rfl rfl (by decide) hs15
      rcases hp24 with ⟨rfl, h28, h29⟩ | ⟨rfl, h30⟩
      · refine tf_if_eq (tgt := 37) hx hb ⟨by decide, by decide⟩ dX4_spells_32 (by decide) (fun h31 => ?_) (fun h31 => ?_)
        · exfalso; omega
        · refine tf_iconst hx hb dX4_spells_35 ?_
          exact tf_retz (z := 0) hx hb hr hlocks hQ hW (by omega) (by first | exact Or.inr ⟨rfl, fun h => by have := h.1; omega⟩ | exact Or.inr ⟨rfl, tf_spl_b er23 (by omega) (by omega) (by omega)⟩) dX4_spells_36
      · refine tf_if_eq (tgt := 37) hx hb ⟨by decide, by decide⟩ dX4_spells_32 (by decide) (fun h32 => ?_) (fun h32 => ?_)
        · exact j_37 ⟨by omega, by omega⟩ (by first | assumption | omega) (by first | exact fun h => by omega | exact fun h => tf_spl_end er23 (by omega) (by omega)) _ _ hW hs25 hs26 _ (lv_sub hl [1, 2, 3] rfl)
        · exfalso; omega

abbrev M_X4_wordFrom : List (Nat × Nat) := []
set_option maxHeartbeats 4000000 in
set_option maxRecDepth 100000 in
theorem c_X4_wordFrom (l : Launch) (g : tf_G) (T : tf_T) (a0 : Nat) (ha0 : T a0 = some (34, 0)) (x1 : Int) (hp1 : 0 ≤ x1 ∧ x1 ≤ 399) (b0 : Nat) (hb0 : T b0 = some (3, 400)) (tp : Int → Int) (n9 : Int) (hn9 : 0 ≤ n9 ∧ n9 ≤ 400) (hq0 : 97 ≤ tp x1 ∧ tp x1 ≤ 122) (hq1 : x1 < n9) : Met l yX4_wordFrom (cd_X4_wordFrom :: wsL_law) ({ frames := 6, cells := 0, slots := 0, locals := 133 }) (tf_P g T [.ref a0, .int (Int32.ofInt x1)] (fun H => tf_s H a0 (g.1.2 4 3) = some (.ref b0) ∧ tf_rw H b0 = tp ∧ tf_s H a0 (g.1.2 4 4) = some (.int (Int32.ofInt n9)))) (tf_Qi g M_X4_wordFrom T (fun z _ _ => 1 ≤ z ∧ z ≤ 24 ∧ tf_SW tp n9 x1 z)) 0 0 (fun q => tf_B g ≤ q) := by
  refine Met.ofW (cc := cX4_wordFrom) (maxL := 2) (ret := (some .int)) (by decide) rfl ?_
  intro p e s m args below meth c s₁ B hml hv
  obtain ⟨hargs, hk, hW0, hB, hpre⟩ := hv
  obtain ⟨he0, he1, he2⟩ := hpre
  have hx := B.exec
  have hb := B.bytes
  have hr := B.returns
  have hts : ∀ w ∈ wsL_law, w.before args s = true := fun w h => atoms_spec (ws := cd_X4_wordFrom :: wsL_law) B.pre w (List.mem_cons_of_mem _ h)
  have hown : s.vm.findClass RX4 = some m.cls := findClass_of_methodNamed B.named
  have hlocks := B.notSynchronized
  have hK := hk.1
  have hW := tf_n.start (M := M_X4_wordFrom) hW0 hB
  obtain ⟨Q, hQ⟩ : ∃ q, q = MQ below (tf_Qi g M_X4_wordFrom T (fun z _ _ => 1 ≤ z ∧ z ≤ 24 ∧ tf_SW tp n9 x1 z)) args s 0 0 (fun q => tf_B g ≤ q) := ⟨_, rfl⟩
  rw [← hQ]
  obtain ⟨R, hR⟩ : ∃ q, q = (headSpec (cd_X4_wordFrom :: wsL_law) ({ frames := 6, cells := 0, slots := 0, locals := 133 })).room := ⟨_, rfl⟩
  rw [← hR]
  have hR1 : 6 ≤ R.frames := by rw [hR]; exact Nat.le_refl _
  have hR2 : 133 ≤ R.locals := by rw [hR]; exact Nat.le_refl _
  have hR3 : 0 ≤ R.cells := by rw [hR]; exact Nat.le_refl _
  have hR4 : 0 ≤ R.slots := by rw [hR]; exact Nat.le_refl _
  have hin := (name_of_methodNamed B.named B.method).1
  clear hR B
  refine tf_enter (As := [.ref a0, .int (Int32.ofInt x1)]) hargs (Nat.le_of_ble_eq_true rfl) (fun ls hl => ?_)
  have hl : lv_has ls 2 [(0, .ref a0), (1, .int (Int32.ofInt x1))] := hl
  refine lv_aload_n hx hb dX4_wordFrom_0 rfl (lv_at hl 0 rfl) ?_
  refine tf_ldcS (i := 0) hx hb hk hown rfl dX4_wordFrom_1 ?_
  refine lv_iload_n hx hb dX4_wordFrom_3 rfl (lv_at hl 1 rfl) ?_
  refine tf_calli (va_runV (As := [.ref (g.2.2.2 (10 + 0)), .int (Int32.ofInt x1)]) (rest := []) ⟨hx, hb, hml, hown, hts⟩ (c_X4_spells l g T a0 ha0 0 5 (by decide) (by decide) ⟨by decide, by decide⟩ (x1) ⟨by omega, by omega⟩ b0 hb0 tp (n9) ⟨by omega, by omega⟩) (cwV 2 hts gv_X4_63 rfl rfl rfl hd_X4_spells ⟨Nat.le_trans (by decide) hR1, Nat.le_trans (by decide) hR2⟩) (tf_preV hk hW ha0 (ci := 4) rfl rfl ⟨he0, he1, he2⟩) rfl rfl hl.1 rfl (lv_room (Nat.le_of_ble_eq_true rfl)) dX4_wordFrom_4 ⟨Nat.zero_le _, Nat.zero_le _⟩) hW (by decide) (fun z1 H1 locs1 hW hF1 hp1 => ?_)
  have hs2 := tf_keepF hF1 ha0 rfl rfl (by decide) he0
  have hs3 := tf_keepC hF1 hb0 rfl (by decide) he1
  have hs4 := tf_keepF hF1 ha0 rfl rfl (by decide) he2
  rcases hp1 with ⟨rfl, hy0⟩ | ⟨rfl, hn0⟩
  · refine tf_if_eq (tgt := 14) hx hb ⟨by decide, by decide⟩ dX4_wordFrom_7 (by decide) (fun h5 => ?_) (fun h5 => ?_)
    · exfalso; omega
    · refine tf_iconst hx hb dX4_wordFrom_10 ?_
      refine lv_goto (tgt := 207) hx hb dX4_wordFrom_11 (by decide) ?_
      exact tf_reti (z := 1) hx hb hr hlocks hQ hW (by first | exact ⟨by omega, by omega, tf_SW_0 hy0⟩ | exact ⟨by omega, by omega, tf_SW_1 hy1⟩ | exact ⟨by omega, by omega, tf_SW_2 hy2⟩ | exact ⟨by omega, by omega, tf_SW_3 hy3⟩ | exact ⟨by omega, by omega, tf_SW_4 hy4⟩ | exact ⟨by omega, by omega, tf_SW_5 hy5⟩ | exact ⟨by omega, by omega, tf_SW_6 hy6⟩ | exact ⟨by omega, by omega, tf_SW_7 hy7⟩ | exact ⟨by omega, by omega, tf_SW_8 hy8⟩ | exact ⟨by omega, by omega, tf_SW_9 hy9⟩ | exact ⟨by omega, by omega, tf_SW_10 hy10⟩ | exact ⟨by omega, by omega, tf_SW_11 hy11⟩ | exact ⟨by omega, by omega, tf_SW_12 hy12⟩ | exact ⟨by omega, by omega, tf_SW_13 hy13⟩ | exact ⟨by omega, by omega, tf_SW_no (by omega) hq0 hn0 hn1 hn2 hn3 hn4 hn5 hn6 hn7 hn8 hn9 hn10 hn11 hn12 hn13⟩) dX4_wordFrom_207
  · refine tf_if_eq (tgt := 14) hx hb ⟨by decide, by decide⟩ dX4_wordFrom_7 (by decide) (fun h6 => ?_) (fun h6 => ?_)
    · refine lv_aload_n hx hb dX4_wordFrom_14 rfl (lv_at hl 0 rfl) ?_
      refine tf_ldcS (i := 1) hx hb hk hown rfl dX4_wordFrom_15 ?_
      refine lv_iload_n hx hb dX4_wordFrom_17 rfl (lv_at hl 1 rfl) ?_
      refine tf_calli (va_runV (As := [.ref (g.2.2.2 (10 + 1)), .int (Int32.ofInt x1)]) (rest := []) ⟨hx, hb, hml, hown, hts⟩ (c_X4_spells l g T a0 ha0 1 2 (by decide) (by decide) ⟨by decide, by decide⟩ (x1) ⟨by omega, by omega⟩ b0 hb0 tp (n9) ⟨by omega, by omega⟩) (cwV 2 hts gv_X4_63 rfl rfl rfl hd_X4_spells ⟨Nat.le_trans (by decide) hR1, Nat.le_trans (by decide) hR2⟩) (tf_preV hk hW ha0 (ci := 4) rfl rfl ⟨hs2, hs3, hs4⟩) rfl rfl hl.1 rfl (lv_room (Nat.le_of_ble_eq_true rfl)) dX4_wordFrom_18 ⟨Nat.zero_le _, Nat.zero_le _⟩) hW (by decide) (fun z7 H7 locs7 hW hF7 hp7 => ?_)
      have hs8 := tf_keepF hF7 ha0 rfl rfl (by decide) hs2
      have hs9 := tf_keepC hF7 hb0 rfl (by decide) hs3
      have hs10 := tf_keepF hF7 ha0 rfl rfl (by decide) hs4
      rcases hp7 with ⟨rfl, hy1⟩ | ⟨rfl, hn1⟩
      · refine tf_if_eq (tgt := 28) hx hb ⟨by decide, by decide⟩ dX4_wordFrom_21 (by decide) (fun h11 => ?_) (fun h11 => ?_)
        · exfalso; omega
        · refine tf_iconst hx hb dX4_wordFrom_24 ?_
          refine lv_goto (tgt := 207) hx hb dX4_wordFrom_25 (by decide) ?_
          exact tf_reti (z := 2) hx hb hr hlocks hQ hW (by first | exact ⟨by omega, by omega, tf_SW_0 hy0⟩ | exact ⟨by omega, by omega, tf_SW_1 hy1⟩ | exact ⟨by omega, by omega, tf_SW_2 hy2⟩ | exact ⟨by omega, by omega, tf_SW_3 hy3⟩ | exact ⟨by omega, by omega, tf_SW_4 hy4⟩ | exact ⟨by omega, by omega, tf_SW_5 hy5⟩ | exact ⟨by omega, by omega, tf_SW_6 hy6⟩ | exact ⟨by omega, by omega, tf_SW_7 hy7⟩ | exact ⟨by omega, by omega, tf_SW_8 hy8⟩ | exact ⟨by omega, by omega, tf_SW_9 hy9⟩ | exact ⟨by omega, by omega, tf_SW_10 hy10⟩ | exact ⟨by omega, by omega, tf_SW_11 hy11⟩ | exact ⟨by omega, by omega, tf_SW_12 hy12⟩ | exact ⟨by omega, by omega, tf_SW_13 hy13⟩ | exact ⟨by omega, by omega, tf_SW_no (by omega) hq0 hn0 hn1 hn2 hn3 hn4 hn5 hn6 hn7 hn8 hn9 hn10 hn11 hn12 hn13⟩) dX4_wordFrom_207
      · refine tf_if_eq (tgt := 28) hx hb ⟨by decide, by decide⟩ dX4_wordFrom_21 (by decide) (fun h12 => ?_) (fun h12 => ?_)
        · refine lv_aload_n hx hb dX4_wordFrom_28 rfl (lv_at hl 0 rfl) ?_
          refine tf_ldcS (i := 2) hx hb hk hown rfl dX4_wordFrom_29 ?_
          refine lv_iload_n hx hb dX4_wordFrom_31 rfl (lv_at hl 1 rfl) ?_
          refine tf_calli (va_runV (As := [.ref (g.2.2.2 (10 + 2)), .int (Int32.ofInt x1)]) (rest := []) ⟨hx, hb, hml, hown, hts⟩ (c_X4_spells l g T a0 ha0 2 2 (by decide) (by decide) ⟨by decide, by decide⟩ (x1) ⟨by omega, by omega⟩ b0 hb0 tp (n9) ⟨by omega, by omega⟩) (cwV 2 hts gv_X4_63 rfl rfl rfl hd_X4_spells ⟨Nat.le_trans (by decide) hR1, Nat.le_trans (by decide) hR2⟩) (tf_preV hk hW ha0 (ci := 4) rfl rfl ⟨hs8, hs9, hs10⟩) rfl rfl hl.1 rfl (lv_room (Nat.le_of_ble_eq_true rfl)) dX4_wordFrom_32 ⟨Nat.zero_le _, Nat.zero_le _⟩) hW (by decide) (fun z13 H13 locs13 hW hF13 hp13 => ?_)
          have hs14 := tf_keepF hF13 ha0 rfl rfl (by decide) hs8
          have hs15 := tf_keepC hF13 hb0 rfl (by decide) hs9
          have hs16 := tf_keepF hF13 ha0 rfl rfl (by decide) hs10
          rcases hp13 with ⟨rfl, hy2⟩ | ⟨rfl, hn2⟩
          · refine tf_if_eq (tgt := 42) hx hb ⟨by decide, by decide⟩ dX4_wordFrom_35 (by decide) (fun h17 => ?_) (fun h17 => ?_)
            · exfalso; omega
            · refine tf_iconst hx hb dX4_wordFrom_38 ?_
              refine lv_goto (tgt := 207) hx hb dX4_wordFrom_39 (by decide) ?_
              exact tf_reti (z := 3) hx hb hr hlocks hQ hW (by first | exact ⟨by omega, by omega, tf_SW_0 hy0⟩ | exact ⟨by omega, by omega, tf_SW_1 hy1⟩ | exact ⟨by omega, by omega, tf_SW_2 hy2⟩ | exact ⟨by omega, by omega, tf_SW_3 hy3⟩ | exact ⟨by omega, by omega, tf_SW_4 hy4⟩ | exact ⟨by omega, by omega, tf_SW_5 hy5⟩ | exact ⟨by omega, by omega, tf_SW_6 hy6⟩ | exact ⟨by omega, by omega, tf_SW_7 hy7⟩ | exact ⟨by omega, by omega, tf_SW_8 hy8⟩ | exact ⟨by omega, by omega, tf_SW_9 hy9⟩ | exact ⟨by omega, by omega, tf_SW_10 hy10⟩ | exact ⟨by omega, by omega, tf_SW_11 hy11⟩ | exact ⟨by omega, by omega, tf_SW_12 hy12⟩ | exact ⟨by omega, by omega, tf_SW_13 hy13⟩ | exact ⟨by omega, by omega, tf_SW_no (by omega) hq0 hn0 hn1 hn2 hn3 hn4 hn5 hn6 hn7 hn8 hn9 hn10 hn11 hn12 hn13⟩) dX4_wordFrom_207
          · refine tf_if_eq (tgt := 42) hx hb ⟨by decide, by decide⟩ dX4_wordFrom_35 (by decide) (fun h18 => ?_) (fun h18 => ?_)
            · refine lv_aload_n hx hb dX4_wordFrom_42 rfl (lv_at hl 0 rfl) ?_
              refine tf_ldcS (i := 3) hx hb hk hown rfl dX4_wordFrom_43 ?_
              refine lv_iload_n hx hb dX4_wordFrom_45 rfl (lv_at hl 1 rfl) ?_
              refine tf_calli (va_runV (As := [.ref (g.2.2.2 (10 + 3)), .int (Int32.ofInt x1)]) (rest := []) ⟨hx, hb, hml, hown, hts⟩ (c_X4_spells l g T a0 ha0 3 3 (by decide) (by decide) ⟨by decide, by decide⟩ (x1) ⟨by omega, by omega⟩ b0 hb0 tp (n9) ⟨by omega, by omega⟩) (cwV 2 hts gv_X4_63 rfl rfl rfl hd_X4_spells ⟨Nat.le_trans (by decide) hR1, Nat.le_trans (by decide) hR2⟩) (tf_preV hk hW ha0 (ci := 4) rfl rfl ⟨hs14, hs15, hs16⟩) rfl rfl hl.1 rfl (lv_room (Nat.le_of_ble_eq_true rfl)) dX4_wordFrom_46 ⟨Nat.zero_le _, Nat.zero_le _⟩) hW (by decide) (fun z19 H19 locs19 hW hF19 hp19 => ?_)
              have hs20 := tf_keepF hF19 ha0 rfl rfl (by decide) hs14
              have hs21 := tf_keepC hF19 hb0 rfl (by decide) hs15
              have hs22 := tf_keepF hF19 ha0 rfl rfl (by decide) hs16
              rcases hp19 with ⟨rfl, hy3⟩ | ⟨rfl, hn3⟩
              · refine tf_if_eq (tgt := 56) hx hb ⟨by decide, by decide⟩ dX4_wordFrom_49 (by decide) (fun h23 => ?_) (fun h23 => ?_)
                · exfalso; omega
                · refine tf_iconst hx hb dX4_wordFrom_52 ?_
                  refine lv_goto (tgt := 207) hx hb dX4_wordFrom_53 (by decide) ?_
                  exact tf_reti (z := 4) hx hb hr hlocks hQ hW (by first | exact ⟨by omega, by omega, tf_SW_0 hy0⟩ | exact ⟨by omega, by omega, tf_SW_1 hy1⟩ | exact ⟨by omega, by omega, tf_SW_2 hy2⟩ | exact ⟨by omega, by omega, tf_SW_3 hy3⟩ | exact ⟨by omega, by omega, tf_SW_4 hy4⟩ | exact ⟨by omega, by omega, tf_SW_5 hy5⟩ | exact ⟨by omega, by omega, tf_SW_6 hy6⟩ | exact ⟨by omega, by omega, tf_SW_7 hy7⟩ | exact ⟨by omega, by omega, tf_SW_8 hy8⟩ | exact ⟨by omega, by omega, tf_SW_9 hy9⟩ | exact ⟨by omega, by omega, tf_SW_10 hy10⟩ | exact ⟨by omega, by omega, tf_SW_11 hy11⟩ | exact ⟨by omega, by omega, tf_SW_12 hy12⟩ | exact ⟨by omega, by omega, tf_SW_13 hy13⟩ | exact ⟨by omega, by omega, tf_SW_no (by omega) hq0 hn0 hn1 hn2 hn3 hn4 hn5 hn6 hn7 hn8 hn9 hn10 hn11 hn12 hn13⟩) dX4_wordFrom_207
              · refine tf_if_eq (tgt := 56) hx hb ⟨by decide, by decide⟩ dX4_wordFrom_49 (by decide) (fun h24 => ?_) (fun h24 => ?_)
                · refine lv_aload_n hx hb dX4_wordFrom_56 rfl (lv_at hl 0 rfl) ?_
                  refine tf_ldcS (i := 4) hx hb hk hown rfl dX4_wordFrom_57 ?_
                  refine lv_iload_n hx hb dX4_wordFrom_59 rfl (lv_at hl 1 rfl) ?_
                  refine tf_calli (va_runV (As := [.ref (g.2.2.2 (10 + 4)), .int (Int32.ofInt x1)]) (rest := []) ⟨hx, hb, hml, hown, hts⟩ (c_X4_spells l g T a0 ha0 4 3 (by decide) (by decide) ⟨by decide, by decide⟩ (x1) ⟨by omega, by omega⟩ b0 hb0 tp (n9) ⟨by omega, by omega⟩) (cwV 2 hts gv_X4_63 rfl rfl rfl hd_X4_spells ⟨Nat.le_trans (by decide) hR1, Nat.le_trans (by decide) hR2⟩) (tf_preV hk hW ha0 (ci := 4) rfl rfl ⟨hs20, hs21, hs22⟩) rfl rfl hl.1 rfl (lv_room (Nat.le_of_ble_eq_true rfl)) dX4_wordFrom_60 ⟨Nat.zero_le _, Nat.zero_le _⟩) hW (by decide) (fun z25 H25 locs25 hW hF25 hp25 => ?_)
                  have hs26 := tf_keepF hF25 ha0 rfl rfl (by decide) hs20
                  have hs27 := tf_keepC hF25 hb0 rfl (by decide) hs21
                  have hs28 := tf_keepF hF25 ha0 rfl rfl (by decide) hs22
                  rcases hp25 with ⟨rfl, hy4⟩ | ⟨rfl, hn4⟩
                  · refine tf_if_eq (tgt := 70) hx hb ⟨by decide, by decide⟩ dX4_wordFrom_63 (by decide) (fun h29 => ?_) (fun h29 => ?_)
                    · exfalso; omega
                    · refine tf_iconst hx hb dX4_wordFrom_66 ?_
                      refine lv_goto (tgt := 207) hx hb dX4_wordFrom_67 (by decide) ?_
                      exact tf_reti (z := 5) hx hb hr hlocks hQ hW (by first | exact ⟨by omega, by omega, tf_SW_0 hy0⟩ | exact ⟨by omega, by omega, tf_SW_1 hy1⟩ | exact ⟨by omega, by omega, tf_SW_2 hy2⟩ | exact ⟨by omega, by omega, tf_SW_3 hy3⟩ | exact ⟨by omega, by omega, tf_SW_4 hy4⟩ | exact ⟨by omega, by omega, tf_SW_5 hy5⟩ | exact ⟨by omega, by omega, tf_SW_6 hy6⟩ | exact ⟨by omega, by omega, tf_SW_7 hy7⟩ | exact ⟨by omega, by omega, tf_SW_8 hy8⟩ | exact ⟨by omega, by omega, tf_SW_9 hy9⟩ | exact ⟨by omega, by omega, tf_SW_10 hy10⟩ | exact ⟨by omega, by omega, tf_SW_11 hy11⟩ | exact ⟨by omega, by omega, tf_SW_12 hy12⟩ | exact ⟨by omega, by omega, tf_SW_13 hy13⟩ | exact ⟨by omega, by omega, tf_SW_no (by omega) hq0 hn0 hn1 hn2 hn3 hn4 hn5 hn6 hn7 hn8 hn9 hn10 hn11 hn12 hn13⟩) dX4_wordFrom_207
                  · refine tf_if_eq (tgt := 70) hx hb ⟨by decide, by decide⟩ dX4_wordFrom_63 (by decide) (fun h30 => ?_) (fun h30 => ?_)
                    · refine lv_aload_n hx hb dX4_wordFrom_70 rfl (lv_at hl 0 rfl) ?_
                      refine tf_ldcS (i := 5) hx hb hk hown rfl dX4_wordFrom_71 ?_
                      refine lv_iload_n hx hb dX4_wordFrom_73 rfl (lv_at hl 1 rfl) ?_
                      refine tf_calli (va_runV (As := [.ref (g.2.2.2 (10 + 5)), .int (Int32.ofInt x1)]) (rest := []) ⟨hx, hb, hml, hown, hts⟩ (c_X4_spells l g T a0 ha0 5 4 (by decide) (by decide) ⟨by decide, by decide⟩ (x1) ⟨by omega, by omega⟩ b0 hb0 tp (n9) ⟨by omega, by omega⟩) (cwV 2 hts gv_X4_63 rfl rfl rfl hd_X4_spells ⟨Nat.le_trans (by decide) hR1, Nat.le_trans (by decide) hR2⟩) (tf_preV hk hW ha0 (ci := 4) rfl rfl ⟨hs26, hs27, hs28⟩) rfl rfl hl.1 rfl (lv_room (Nat.le_of_ble_eq_true rfl)) dX4_wordFrom_74 ⟨Nat.zero_le _, Nat.zero_le _⟩) hW (by decide) (fun z31 H31 locs31 hW hF31 hp31 => ?_)
                      have hs32 := tf_keepF hF31 ha0 rfl rfl (by decide) hs26
                      have hs33 := tf_keepC hF31 hb0 rfl (by decide) hs27
                      have hs34 := tf_keepF hF31 ha0 rfl rfl (by decide) hs28
                      rcases hp31 with ⟨rfl, hy5⟩ | ⟨rfl, hn5⟩
                      · refine tf_if_eq (tgt := 85) hx hb ⟨by decide, by decide⟩ dX4_wordFrom_77 (by decide) (fun h35 => ?_) (fun h35 => ?_)
                        · exfalso; omega
                        · refine tf_bipush hx hb dX4_wordFrom_80 (by decide) ?_
                          refine lv_goto (tgt := 207) hx hb dX4_wordFrom_82 (by decide) ?_
                          exact tf_reti (z := 16) hx hb hr hlocks hQ hW (by first | exact ⟨by omega, by omega, tf_SW_0 hy0⟩ | exact ⟨by omega, by omega, tf_SW_1 hy1⟩ | exact ⟨by omega, by omega, tf_SW_2 hy2⟩ | exact ⟨by omega, by omega, tf_SW_3 hy3⟩ | exact ⟨by omega, by omega, tf_SW_4 hy4⟩ | exact ⟨by omega, by omega, tf_SW_5 hy5⟩ | exact ⟨by omega, by omega, tf_SW_6 hy6⟩ | exact ⟨by omega, by omega, tf_SW_7 hy7⟩ | exact ⟨by omega, by omega, tf_SW_8 hy8⟩ | exact ⟨by omega, by omega, tf_SW_9 hy9⟩ | exact ⟨by omega, by omega, tf_SW_10 hy10⟩ | exact ⟨by omega, by omega, tf_SW_11 hy11⟩ | exact ⟨by omega, by omega, tf_SW_12 hy12⟩ | exact ⟨by omega, by omega, tf_SW_13 hy13⟩ | exact ⟨by omega, by omega, tf_SW_no (by omega) hq0 hn0 hn1 hn2 hn3 hn4 hn5 hn6 hn7 hn8 hn9 hn10 hn11 hn12 hn13⟩) dX4_wordFrom_207
                      · refine tf_if_eq (tgt := 85) hx hb ⟨by decide, by decide⟩ dX4_wordFrom_77 (by decide) (fun h36 => ?_) (fun h36 => ?_)
                        · refine lv_aload_n hx hb dX4_wordFrom_85 rfl (lv_at hl 0 rfl) ?_
                          refine tf_ldcS (i := 6) hx hb hk hown rfl dX4_wordFrom_86 ?_
                          refine lv_iload_n hx hb dX4_wordFrom_88 rfl (lv_at hl 1 rfl) ?_
                          refine tf_calli (va_runV (As := [.ref (g.2.2.2 (10 + 6)), .int (Int32.ofInt x1)]) (rest := []) ⟨hx, hb, hml, hown, hts⟩ (c_X4_spells l g T a0 ha0 6 4 (by decide) (by decide) ⟨by decide, by decide⟩ (x1) ⟨by omega, by omega⟩ b0 hb0 tp (n9) ⟨by omega, by omega⟩) (cwV 2 hts gv_X4_63 rfl rfl rfl hd_X4_spells ⟨Nat.le_trans (by decide) hR1, Nat.le_trans (by decide) hR2⟩) (tf_preV hk hW ha0 (ci := 4) rfl rfl ⟨hs32, hs33, hs34⟩) rfl rfl hl.1 rfl (lv_room (Nat.le_of_ble_eq_true rfl)) dX4_wordFrom_89 ⟨Nat.zero_le _, Nat.zero_le _⟩) hW (by decide) (fun z37 H37 locs37 hW hF37 hp37 => ?_)
                          have hs38 := tf_keepF hF37 ha0 rfl rfl (by decide) hs32
                          have hs39 := tf_keepC hF37 hb0 rfl (by decide) hs33
                          have hs40 := tf_keepF hF37 ha0 rfl rfl (by decide) hs34
                          rcases hp37 with ⟨rfl, hy6⟩ | ⟨rfl, hn6⟩
                          · refine tf_if_eq (tgt := 100) hx hb ⟨by decide, by decide⟩ dX4_wordFrom_92 (by decide) (fun h41 => ?_) (fun h41 => ?_)
                            · exfalso; omega
                            · refine tf_bipush hx hb dX4_wordFrom_95 (by decide) ?_
                              refine lv_goto (tgt := 207) hx hb dX4_wordFrom_97 (by decide) ?_
                              exact tf_reti (z := 17) hx hb hr hlocks hQ hW (by first | exact ⟨by omega, by omega, tf_SW_0 hy0⟩ | exact ⟨by omega, by omega, tf_SW_1 hy1⟩ | exact ⟨by omega, by omega, tf_SW_2 hy2⟩ | exact ⟨by omega, by omega, tf_SW_3 hy3⟩ | exact ⟨by omega, by omega, tf_SW_4 hy4⟩ | exact ⟨by omega, by omega, tf_SW_5 hy5⟩ | exact ⟨by omega, by omega, tf_SW_6 hy6⟩ | exact ⟨by omega, by omega, tf_SW_7 hy7⟩ | exact ⟨by omega, by omega, tf_SW_8 hy8⟩ | exact ⟨by omega, by omega, tf_SW_9 hy9⟩ | exact ⟨by omega, by omega, tf_SW_10 hy10⟩ | exact ⟨by omega, by omega, tf_SW_11 hy11⟩ | exact ⟨by omega, by omega, tf_SW_12 hy12⟩ | exact ⟨by omega, by omega, tf_SW_13 hy13⟩ | exact ⟨by omega, by omega, tf_SW_no (by omega) hq0 hn0 hn1 hn2 hn3 hn4 hn5 hn6 hn7 hn8 hn9 hn10 hn11 hn12 hn13⟩) dX4_wordFrom_207
                          · refine tf_if_eq (tgt := 100) hx hb ⟨by decide, by decide⟩ dX4_wordFrom_92 (by decide) (fun h42 => ?_) (fun h42 => ?_)
                            · refine lv_aload_n hx hb dX4_wordFrom_100 rfl (lv_at hl 0 rfl) ?_
                              refine tf_ldcS (i := 7) hx hb hk hown rfl dX4_wordFrom_101 ?_
                              refine lv_iload_n hx hb dX4_wordFrom_103 rfl (lv_at hl 1 rfl) ?_
                              refine tf_calli (va_runV (As := [.ref (g.2.2.2 (10 + 7)), .int (Int32.ofInt x1)]) (rest := []) ⟨hx, hb, hml, hown, hts⟩ (c_X4_spells l g T a0 ha0 7 4 (by decide) (by decide) ⟨by decide, by decide⟩ (x1) ⟨by omega, by omega⟩ b0 hb0 tp (n9) ⟨by omega, by omega⟩) (cwV 2 hts gv_X4_63 rfl rfl rfl hd_X4_spells ⟨Nat.le_trans (by decide) hR1, Nat.le_trans (by decide) hR2⟩) (tf_preV hk hW ha0 (ci := 4) rfl rfl ⟨hs38, hs39, hs40⟩) rfl rfl hl.1 rfl (lv_room (Nat.le_of_ble_eq_true rfl)) dX4_wordFrom_104 ⟨Nat.zero_le _, Nat.zero_le _⟩) hW (by decide) (fun z43 H43 locs43 hW hF43 hp43 => ?_)
                              have hs44 := tf_keepF hF43 ha0 rfl rfl (by decide) hs38
                              have hs45 := tf_keepC hF43 hb0 rfl (by decide) hs39
                              have hs46 := tf_keepF hF43 ha0 rfl rfl (by decide) hs40
                              rcases hp43 with ⟨rfl, hy7⟩ | ⟨rfl, hn7⟩
                              · refine tf_if_eq (tgt := 115) hx hb ⟨by decide, by decide⟩ dX4_wordFrom_107 (by decide) (fun h47 => ?_) (fun h47 => ?_)
                                · exfalso; omega
                                · refine tf_bipush hx hb dX4_wordFrom_110 (by decide) ?_
                                  refine lv_goto (tgt := 207) hx hb dX4_wordFrom_112 (by decide) ?_
                                  exact tf_reti (z := 18) hx hb hr hlocks hQ hW (by first | exact ⟨by omega, by omega, tf_SW_0 hy0⟩ | exact ⟨by omega, by omega, tf_SW_1 hy1⟩ | exact ⟨by omega, by omega, tf_SW_2 hy2⟩ | exact ⟨by omega, by omega, tf_SW_3 hy3⟩ | exact ⟨by omega, by omega, tf_SW_4 hy4⟩ | exact ⟨by omega, by omega, tf_SW_5 hy5⟩ | exact ⟨by omega, by omega, tf_SW_6 hy6⟩ | exact ⟨by omega, by omega, tf_SW_7 hy7⟩ | exact ⟨by omega, by omega, tf_SW_8 hy8⟩ | exact ⟨by omega, by omega, tf_SW_9 hy9⟩ | exact ⟨by omega, by omega, tf_SW_10 hy10⟩ | exact ⟨by omega, by omega, tf_SW_11 hy11⟩ | exact ⟨by omega, by omega, tf_SW_12 hy12⟩ | exact ⟨by omega, by omega, tf_SW_13 hy13⟩ | exact ⟨by omega, by omega, tf_SW_no (by omega) hq0 hn0 hn1 hn2 hn3 hn4 hn5 hn6 hn7 hn8 hn9 hn10 hn11 hn12 hn13⟩) dX4_wordFrom_207
                              · refine tf_if_eq (tgt := 115) hx hb ⟨by decide, by decide⟩ dX4_wordFrom_107 (by decide) (fun h48 => ?_) (fun h48 => ?_)
                                · refine lv_aload_n hx hb dX4_wordFrom_115 rfl (lv_at hl 0 rfl) ?_
                                  refine tf_ldcS (i := 8) hx hb hk hown rfl dX4_wordFrom_116 ?_
                                  refine lv_iload_n hx hb dX4_wordFrom_118 rfl (lv_at hl 1 rfl) ?_
                                  refine tf_calli (va_runV (As := [.ref (g.2.2.2 (10 + 8)), .int (Int32.ofInt x1)]) (rest := []) ⟨hx, hb, hml, hown, hts⟩ (c_X4_spells l g T a0 ha0 8 5 (by decide) (by decide) ⟨by decide, by decide⟩ (x1) ⟨by omega, by omega⟩ b0 hb0 tp (n9) ⟨by omega, by omega⟩) (cwV 2 hts gv_X4_63 rfl rfl rfl hd_X4_spells ⟨Nat.le_trans (by decide) hR1, Nat.le_trans (by decide) hR2⟩) (tf_preV hk hW ha0 (ci := 4) rfl rfl ⟨hs44, hs45, hs46⟩) rfl rfl hl.1 rfl (lv_room (Nat.le_of_ble_eq_true rfl)) dX4_wordFrom_119 ⟨Nat.zero_le _, Nat.zero_le _⟩) hW (by decide) (fun z49 H49 locs49 hW hF49 hp49 => ?_)
                                  have hs50 := tf_keepF hF49 ha0 rfl rfl (by decide) hs44
                                  have hs51 := tf_keepC hF49 hb0 rfl (by decide) hs45
                                  have hs52 := tf_keepF hF49 ha0 rfl rfl (by decide) hs46
                                  rcases hp49 with ⟨rfl, hy8⟩ | ⟨rfl, hn8⟩
                                  · refine tf_if_eq (tgt := 130) hx hb ⟨by decide, by decide⟩ dX4_wordFrom_122 (by decide) (fun h53 => ?_) (fun h53 => ?_)
                                    · exfalso; omega
                                    · refine tf_bipush hx hb dX4_wordFrom_125 (by decide) ?_
                                      refine lv_goto (tgt := 207) hx hb dX4_wordFrom_127 (by decide) ?_
                                      exact tf_reti (z := 19) hx hb hr hlocks hQ hW (by first | exact ⟨by omega, by omega, tf_SW_0 hy0⟩ | exact ⟨by omega, by omega, tf_SW_1 hy1⟩ | exact ⟨by omega, by omega, tf_SW_2 hy2⟩ | exact ⟨by omega, by omega, tf_SW_3 hy3⟩ | exact ⟨by omega, by omega, tf_SW_4 hy4⟩ | exact ⟨by omega, by omega, tf_SW_5 hy5⟩ | exact ⟨by omega, by omega, tf_SW_6 hy6⟩ | exact ⟨by omega, by omega, tf_SW_7 hy7⟩ | exact ⟨by omega, by omega, tf_SW_8 hy8⟩ | exact ⟨by omega, by omega, tf_SW_9 hy9⟩ | exact ⟨by omega, by omega, tf_SW_10 hy10⟩ | exact ⟨by omega, by omega, tf_SW_11 hy11⟩ | exact ⟨by omega, by omega, tf_SW_12 hy12⟩ | exact ⟨by omega, by omega, tf_SW_13 hy13⟩ | exact ⟨by omega, by omega, tf_SW_no (by omega) hq0 hn0 hn1 hn2 hn3 hn4 hn5 hn6 hn7 hn8 hn9 hn10 hn11 hn12 hn13⟩) dX4_wordFrom_207
                                  · refine tf_if_eq (tgt := 130) hx hb ⟨by decide, by decide⟩ dX4_wordFrom_122 (by decide) (fun h54 => ?_) (fun h54 => ?_)
                                    · refine lv_aload_n hx hb dX4_wordFrom_130 rfl (lv_at hl 0 rfl) ?_
                                      refine tf_ldcS (i := 9) hx hb hk hown rfl dX4_wordFrom_131 ?_
                                      refine lv_iload_n hx hb dX4_wordFrom_133 rfl (lv_at hl 1 rfl) ?_
                                      refine tf_calli (va_runV (As := [.ref (g.2.2.2 (10 + 9)), .int (Int32.ofInt x1)]) (rest := []) ⟨hx, hb, hml, hown, hts⟩ (c_X4_spells l g T a0 ha0 9 6 (by decide) (by decide) ⟨by decide, by decide⟩ (x1) ⟨by omega, by omega⟩ b0 hb0 tp (n9) ⟨by omega, by omega⟩) (cwV 2 hts gv_X4_63 rfl rfl rfl hd_X4_spells ⟨Nat.le_trans (by decide) hR1, Nat.le_trans (by decide) hR2⟩) (tf_preV hk hW ha0 (ci := 4) rfl rfl ⟨hs50, hs51, hs52⟩) rfl rfl hl.1 rfl (lv_room (Nat.le_of_ble_eq_true rfl)) dX4_wordFrom_134 ⟨Nat.zero_le _, Nat.zero_le _⟩) hW (by decide) (fun z55 H55 locs55 hW hF55 hp55 => ?_)
                                      have hs56 := tf_keepF hF55 ha0 rfl rfl (by decide) hs50
                                      have hs57 := tf_keepC hF55 hb0 rfl (by decide) hs51
                                      have hs58 := tf_keepF hF55 ha0 rfl rfl (by decide) hs52
                                      rcases hp55 with ⟨rfl, hy9⟩ | ⟨rfl, hn9⟩
                                      · refine tf_if_eq (tgt := 145) hx hb ⟨by decide, by decide⟩ dX4_wordFrom_137 (by decide) (fun h59 => ?_) (fun h59 => ?_)
                                        · exfalso; omega
                                        · refine tf_bipush hx hb dX4_wordFrom_140 (by decide) ?_
                                          refine lv_goto (tgt := 207) hx hb dX4_wordFrom_142 (by decide) ?_
                                          exact tf_reti (z := 20) hx hb hr hlocks hQ hW (by first | exact ⟨by omega, by omega, tf_SW_0 hy0⟩ | exact ⟨by omega, by omega, tf_SW_1 hy1⟩ | exact ⟨by omega, by omega, tf_SW_2 hy2⟩ | exact ⟨by omega, by omega, tf_SW_3 hy3⟩ | exact ⟨by omega, by omega, tf_SW_4 hy4⟩ | exact ⟨by omega, by omega, tf_SW_5 hy5⟩ | exact ⟨by omega, by omega, tf_SW_6 hy6⟩ | exact ⟨by omega, by omega, tf_SW_7 hy7⟩ | exact ⟨by omega, by omega, tf_SW_8 hy8⟩ | exact ⟨by omega, by omega, tf_SW_9 hy9⟩ | exact ⟨by omega, by omega, tf_SW_10 hy10⟩ | exact ⟨by omega, by omega, tf_SW_11 hy11⟩ | exact ⟨by omega, by omega, tf_SW_12 hy12⟩ | exact ⟨by omega, by omega, tf_SW_13 hy13⟩ | exact ⟨by omega, by omega, tf_SW_no (by omega) hq0 hn0 hn1 hn2 hn3 hn4 hn5 hn6 hn7 hn8 hn9 hn10 hn11 hn12 hn13⟩) dX4_wordFrom_207
                                      · refine tf_if_eq (tgt := 145) hx hb ⟨by decide, by decide⟩ dX4_wordFrom_137 (by decide) (fun h60 => ?_) (fun h60 => ?_)
                                        · refine lv_aload_n hx hb dX4_wordFrom_145 rfl (lv_at hl 0 rfl) ?_
                                          refine tf_ldcS (i := 10) hx hb hk hown rfl dX4_wordFrom_146 ?_
                                          refine lv_iload_n hx hb dX4_wordFrom_148 rfl (lv_at hl 1 rfl) ?_
                                          refine tf_calli (va_runV (As := [.ref (g.2.2.2 (10 + 10)), .int (Int32.ofInt x1)]) (rest := []) ⟨hx, hb, hml, hown, hts⟩ (c_X4_spells l g T a0 ha0 10 3 (by decide) (by decide) ⟨by decide, by decide⟩ (x1) ⟨by omega, by omega⟩ b0 hb0 tp (n9) ⟨by omega, by omega⟩) (cwV 2 hts gv_X4_63 rfl rfl rfl hd_X4_spells ⟨Nat.le_trans (by decide) hR1, Nat.le_trans (by decide) hR2⟩) (tf_preV hk hW ha0 (ci := 4) rfl rfl ⟨hs56, hs57, hs58⟩) rfl rfl hl.1 rfl (lv_room (Nat.le_of_ble_eq_true rfl)) dX4_wordFrom_149 ⟨Nat.zero_le _, Nat.zero_le _⟩) hW (by decide) (fun z61 H61 locs61 hW hF61 hp61 => ?_)
                                          have hs62 := tf_keepF hF61 ha0 rfl rfl (by decide) hs56
                                          have hs63 := tf_keepC hF61 hb0 rfl (by decide) hs57
                                          have hs64 := tf_keepF hF61 ha0 rfl rfl (by decide) hs58
                                          rcases hp61 with ⟨rfl, hy10⟩ | ⟨rfl, hn10⟩
                                          · refine tf_if_eq (tgt := 160) hx hb ⟨by decide, by decide⟩ dX4_wordFrom_152 (by decide) (fun h65 => ?_) (fun h65 => ?_)
                                            · exfalso; omega
                                            · refine tf_bipush hx hb dX4_wordFrom_155 (by decide) ?_
                                              refine lv_goto (tgt := 207) hx hb dX4_wordFrom_157 (by decide) ?_
                                              exact tf_reti (z := 21) hx hb hr hlocks hQ hW (by first | exact ⟨by omega, by omega, tf_SW_0 hy0⟩ | exact ⟨by omega, by omega, tf_SW_1 hy1⟩ | exact ⟨by omega, by omega, tf_SW_2 hy2⟩ | exact ⟨by omega, by omega, tf_SW_3 hy3⟩ | exact ⟨by omega, by omega, tf_SW_4 hy4⟩ | exact ⟨by omega, by omega, tf_SW_5 hy5⟩ | exact ⟨by omega, by omega, tf_SW_6 hy6⟩ | exact ⟨by omega, by omega, tf_SW_7 hy7⟩ | exact ⟨by omega, by omega, tf_SW_8 hy8⟩ | exact ⟨by omega, by omega, tf_SW_9 hy9⟩ | exact ⟨by omega, by omega, tf_SW_10 hy10⟩ | exact ⟨by omega, by omega, tf_SW_11 hy11⟩ | exact ⟨by omega, by omega, tf_SW_12 hy12⟩ | exact ⟨by omega, by omega, tf_SW_13 hy13⟩ | exact ⟨by omega, by omega, tf_SW_no (by omega) hq0 hn0 hn1 hn2 hn3 hn4 hn5 hn6 hn7 hn8 hn9 hn10 hn11 hn12 hn13⟩) dX4_wordFrom_207
                                          · refine tf_if_eq (tgt := 160) hx hb ⟨by decide, by decide⟩ dX4_wordFrom_152 (by decide) (fun h66 => ?_) (fun h66 => ?_)
                                            · refine lv_aload_n hx hb dX4_wordFrom_160 rfl (lv_at hl 0 rfl) ?_
                                              refine tf_ldcS (i := 11) hx hb hk hown rfl dX4_wordFrom_161 ?_
                                              refine lv_iload_n hx hb dX4_wordFrom_163 rfl (lv_at hl 1 rfl) ?_
                                              refine tf_calli (va_runV (As := [.ref (g.2.2.2 (10 + 11)), .int (Int32.ofInt x1)]) (rest := []) ⟨hx, hb, hml, hown, hts⟩ (c_X4_spells l g T a0 ha0 11 1 (by decide) (by decide) ⟨by decide, by decide⟩ (x1) ⟨by omega, by omega⟩ b0 hb0 tp (n9) ⟨by omega, by omega⟩) (cwV 2 hts gv_X4_63 rfl rfl rfl hd_X4_spells ⟨Nat.le_trans (by decide) hR1, Nat.le_trans (by decide) hR2⟩) (tf_preV hk hW ha0 (ci := 4) rfl rfl ⟨hs62, hs63, hs64⟩) rfl rfl hl.1 rfl (lv_room (Nat.le_of_ble_eq_true rfl)) dX4_wordFrom_164 ⟨Nat.zero_le _, Nat.zero_le _⟩) hW (by decide) (fun z67 H67 locs67 hW hF67 hp67 => ?_)
                                              have hs68 := tf_keepF hF67 ha0 rfl rfl (by decide) hs62
                                              have hs69 := tf_keepC hF67 hb0 rfl (by decide) hs63
                                              have hs70 := tf_keepF hF67 ha0 rfl rfl (by decide) hs64
                                              rcases hp67 with ⟨rfl, hy11⟩ | ⟨rfl, hn11⟩
                                              · refine tf_if_eq (tgt := 175) hx hb ⟨by decide, by decide⟩ dX4_wordFrom_167 (by decide) (fun h71 => ?_) (fun h71 => ?_)
                                                · exfalso; omega
                                                · refine tf_bipush hx hb dX4_wordFrom_170 (by decide) ?_
                                                  refine lv_goto (tgt := 207) hx hb dX4_wordFrom_172 (by decide) ?_
                                                  exact tf_reti (z := 22) hx hb hr hlocks hQ hW (by first | exact ⟨by omega, by omega, tf_SW_0 hy0⟩ | exact ⟨by omega, by omega, tf_SW_1 hy1⟩ | exact ⟨by omega, by omega, tf_SW_2 hy2⟩ | exact ⟨by omega, by omega, tf_SW_3 hy3⟩ | exact ⟨by omega, by omega, tf_SW_4 hy4⟩ | exact ⟨by omega, by omega, tf_SW_5 hy5⟩ | exact ⟨by omega, by omega, tf_SW_6 hy6⟩ | exact ⟨by omega, by omega, tf_SW_7 hy7⟩ | exact ⟨by omega, by omega, tf_SW_8 hy8⟩ | exact ⟨by omega, by omega, tf_SW_9 hy9⟩ | exact ⟨by omega, by omega, tf_SW_10 hy10⟩ | exact ⟨by omega, by omega, tf_SW_11 hy11⟩ | exact ⟨by omega, by omega, tf_SW_12 hy12⟩ | exact ⟨by omega, by omega, tf_SW_13 hy13⟩ | exact ⟨by omega, by omega, tf_SW_no (by omega) hq0 hn0 hn1 hn2 hn3 hn4 hn5 hn6 hn7 hn8 hn9 hn10 hn11 hn12 hn13⟩) dX4_wordFrom_207
                                              · refine tf_if_eq (tgt := 175) hx hb ⟨by decide, by decide⟩ dX4_wordFrom_167 (by decide) (fun h72 => ?_) (fun h72 => ?_)
                                                · refine lv_aload_n hx hb dX4_wordFrom_175 rfl (lv_at hl 0 rfl) ?_
                                                  refine tf_ldcS (i := 12) hx hb hk hown rfl dX4_wordFrom_176 ?_
                                                  refine lv_iload_n hx hb dX4_wordFrom_178 rfl (lv_at hl 1 rfl) ?_
                                                  refine tf_calli (va_runV (As := [.ref (g.2.2.2 (10 + 12)), .int (Int32.ofInt x1)]) (rest := []) ⟨hx, hb, hml, hown, hts⟩ (c_X4_spells l g T a0 ha0 12 1 (by decide) (by decide) ⟨by decide, by decide⟩ (x1) ⟨by omega, by omega⟩ b0 hb0 tp (n9) ⟨by omega, by omega⟩) (cwV 2 hts gv_X4_63 rfl rfl rfl hd_X4_spells ⟨Nat.le_trans (by decide) hR1, Nat.le_trans (by decide) hR2⟩) (tf_preV hk hW ha0 (ci := 4) rfl rfl ⟨hs68, hs69, hs70⟩) rfl rfl hl.1 rfl (lv_room (Nat.le_of_ble_eq_true rfl)) dX4_wordFrom_179 ⟨Nat.zero_le _, Nat.zero_le _⟩) hW (by decide) (fun z73 H73 locs73 hW hF73 hp73 => ?_)
                                                  have hs74 := tf_keepF hF73 ha0 rfl rfl (by decide) hs68
                                                  have hs75 := tf_keepC hF73 hb0 rfl (by decide) hs69
                                                  have hs76 := tf_keepF hF73 ha0 rfl rfl (by decide) hs70
                                                  rcases hp73 with ⟨rfl, hy12⟩ | ⟨rfl, hn12⟩
                                                  · refine tf_if_eq (tgt := 190) hx hb ⟨by decide, by decide⟩ dX4_wordFrom_182 (by decide) (fun h77 => ?_) (fun h77 => ?_)
                                                    · exfalso; omega
                                                    · refine tf_bipush hx hb dX4_wordFrom_185 (by decide) ?_
                                                      refine lv_goto (tgt := 207) hx hb dX4_wordFrom_187 (by decide) ?_
                                                      exact tf_reti (z := 23) hx hb hr hlocks hQ hW (by first | exact ⟨by omega, by omega, tf_SW_0 hy0⟩ | exact ⟨by omega, by omega, tf_SW_1 hy1⟩ | exact ⟨by omega, by omega, tf_SW_2 hy2⟩ | exact ⟨by omega, by omega, tf_SW_3 hy3⟩ | exact ⟨by omega, by omega, tf_SW_4 hy4⟩ | exact ⟨by omega, by omega, tf_SW_5 hy5⟩ | exact ⟨by omega, by omega, tf_SW_6 hy6⟩ | exact ⟨by omega, by omega, tf_SW_7 hy7⟩ | exact ⟨by omega, by omega, tf_SW_8 hy8⟩ | exact ⟨by omega, by omega, tf_SW_9 hy9⟩ | exact ⟨by omega, by omega, tf_SW_10 hy10⟩ | exact ⟨by omega, by omega, tf_SW_11 hy11⟩ | exact ⟨by omega, by omega, tf_SW_12 hy12⟩ | exact ⟨by omega, by omega, tf_SW_13 hy13⟩ | exact ⟨by omega, by omega, tf_SW_no (by omega) hq0 hn0 hn1 hn2 hn3 hn4 hn5 hn6 hn7 hn8 hn9 hn10 hn11 hn12 hn13⟩) dX4_wordFrom_207
                                                  · refine tf_if_eq (tgt := 190) hx hb ⟨by decide, by decide⟩ dX4_wordFrom_182 (by decide) (fun h78 => ?_) (fun h78 => ?_)
                                                    · refine lv_aload_n hx hb dX4_wordFrom_190 rfl (lv_at hl 0 rfl) ?_
                                                      refine tf_ldcS (i := 13) hx hb hk hown rfl dX4_wordFrom_191 ?_
                                                      refine lv_iload_n hx hb dX4_wordFrom_193 rfl (lv_at hl 1 rfl) ?_
                                                      refine tf_calli (va_runV (As := [.ref (g.2.2.2 (10 + 13)), .int (Int32.ofInt x1)]) (rest := []) ⟨hx, hb, hml, hown, hts⟩ (c_X4_spells l g T a0 ha0 13 3 (by decide) (by decide) ⟨by decide, by decide⟩ (x1) ⟨by omega, by omega⟩ b0 hb0 tp (n9) ⟨by omega, by omega⟩) (cwV 2 hts gv_X4_63 rfl rfl rfl hd_X4_spells ⟨Nat.le_trans (by decide) hR1, Nat.le_trans (by decide) hR2⟩) (tf_preV hk hW ha0 (ci := 4) rfl rfl ⟨hs74, hs75, hs76⟩) rfl rfl hl.1 rfl (lv_room (Nat.le_of_ble_eq_true rfl)) dX4_wordFrom_194 ⟨Nat.zero_le _, Nat.zero_le _⟩) hW (by decide) (fun z79 H79 locs79 hW hF79 hp79 => ?_)
                                                      have hs80 := tf_keepF hF79 ha0 rfl rfl (by decide) hs74
                                                      have hs81 := tf_keepC hF79 hb0 rfl (by decide) hs75
                                                      have hs82 := tf_keepF hF79 ha0 rfl rfl (by decide) hs76
                                                      rcases hp79 with ⟨rfl, hy13⟩ | ⟨rfl, hn13⟩
                                                      · refine tf_if_eq (tgt := 205) hx hb ⟨by decide, by decide⟩ dX4_wordFrom_197 (by decide) (fun h83 => ?_) (fun h83 => ?_)
                                                        · exfalso; omega
                                                        · refine tf_bipush hx hb dX4_wordFrom_200 (by decide) ?_
                                                          refine lv_goto (tgt := 207) hx hb dX4_wordFrom_202 (by decide) ?_
                                                          exact tf_reti (z := 24) hx hb hr hlocks hQ hW (by first | exact ⟨by omega, by omega, tf_SW_0 hy0⟩ | exact ⟨by omega, by omega, tf_SW_1 hy1⟩ | exact ⟨by omega, by omega, tf_SW_2 hy2⟩ | exact ⟨by omega, by omega, tf_SW_3 hy3⟩ | exact ⟨by omega, by omega, tf_SW_4 hy4⟩ | exact ⟨by omega, by omega, tf_SW_5 hy5⟩ | exact ⟨by omega, by omega, tf_SW_6 hy6⟩ | exact ⟨by omega, by omega, tf_SW_7 hy7⟩ | exact ⟨by omega, by omega, tf_SW_8 hy8⟩ | exact ⟨by omega, by omega, tf_SW_9 hy9⟩ | exact ⟨by omega, by omega, tf_SW_10 hy10⟩ | exact ⟨by omega, by omega, tf_SW_11 hy11⟩ | exact ⟨by omega, by omega, tf_SW_12 hy12⟩ | exact ⟨by omega, by omega, tf_SW_13 hy13⟩ | exact ⟨by omega, by omega, tf_SW_no (by omega) hq0 hn0 hn1 hn2 hn3 hn4 hn5 hn6 hn7 hn8 hn9 hn10 hn11 hn12 hn13⟩) dX4_wordFrom_207
                                                      · refine tf_if_eq (tgt := 205) hx hb ⟨by decide, by decide⟩ dX4_wordFrom_197 (by decide) (fun h84 => ?_) (fun h84 => ?_)
                                                        · refine tf_bipush hx hb dX4_wordFrom_205 (by decide) ?_
                                                          exact tf_reti (z := 6) hx hb hr hlocks hQ hW (by first | exact ⟨by omega, by omega, tf_SW_0 hy0⟩ | exact ⟨by omega, by omega, tf_SW_1 hy1⟩ | exact ⟨by omega, by omega, tf_SW_2 hy2⟩ | exact ⟨by omega, by omega, tf_SW_3 hy3⟩ | exact ⟨by omega, by omega, tf_SW_4 hy4⟩ | exact ⟨by omega, by omega, tf_SW_5 hy5⟩ | exact ⟨by omega, by omega, tf_SW_6 hy6⟩ | exact ⟨by omega, by omega, tf_SW_7 hy7⟩ | exact ⟨by omega, by omega, tf_SW_8 hy8⟩ | exact ⟨by omega, by omega, tf_SW_9 hy9⟩ | exact ⟨by omega, by omega, tf_SW_10 hy10⟩ | exact ⟨by omega, by omega, tf_SW_11 hy11⟩ | exact ⟨by omega, by omega, tf_SW_12 hy12⟩ | exact ⟨by omega, by omega, tf_SW_13 hy13⟩ | exact ⟨by omega, by omega, tf_SW_no (by omega) hq0 hn0 hn1 hn2 hn3 hn4 hn5 hn6 hn7 hn8 hn9 hn10 hn11 hn12 hn13⟩) dX4_wordFrom_207
                                                        · exfalso; omega
                                                    · exfalso; omega
                                                · exfalso; omega
                                            · exfalso; omega
                                        · exfalso; omega
                                    · exfalso; omega
                                · exfalso; omega
                            · exfalso; omega
                        · exfalso; omega
                    · exfalso; omega
                · exfalso; omega
            · exfalso; omega
        · exfalso; omega
    · exfalso; omega

abbrev M_X4_sortFrom : List (Nat × Nat) := []
set_option maxHeartbeats 4000000 in
set_option maxRecDepth 100000 in
theorem c_X4_sortFrom (l : Launch) (g : tf_G) (T : tf_T) (a0 : Nat) (ha0 : T a0 = some (34, 0)) (x1 : Int) (hp1 : 0 ≤ x1 ∧ x1 ≤ 399) (b0 : Nat) (hb0 : T b0 = some (3, 400)) (tp : Int → Int) (n9 : Int) (hn9 : 0 ≤ n9 ∧ n9 ≤ 400) (hq0 : x1 < n9) : Met l yX4_sortFrom (cd_X4_sortFrom :: wsL_law) ({ frames := 7, cells := 0, slots := 0, locals := 154 }) (tf_P g T [.ref a0, .int (Int32.ofInt x1)] (fun H => tf_s H a0 (g.1.2 4 3) = some (.ref b0) ∧ tf_rw H b0 = tp ∧ tf_s H a0 (g.1.2 4 4) = some (.int (Int32.ofInt n9)))) (tf_Qi g M_X4_sortFrom T (fun z _ _ => 1 ≤ z ∧ z ≤ 3001 ∧ tf_SO tp n9 x1 z)) 0 0 (fun q => tf_B g ≤ q) := by
  refine Met.ofW (cc := cX4_sortFrom) (maxL := 2) (ret := (some .int)) (by decide) rfl ?_
  intro p e s m args below meth c s₁ B hml hv
  obtain ⟨hargs, hk, hW0, hB, hpre⟩ := hv
  obtain ⟨he0, he1, he2⟩ := hpre
  have hx := B.exec
  have hb := B.bytes
  have hr := B.returns
  have hts : ∀ w ∈ wsL_law, w.before args s = true := fun w h => atoms_spec (ws := cd_X4_sortFrom :: wsL_law) B.pre w (List.mem_cons_of_mem _ h)
  have hown : s.vm.findClass RX4 = some m.cls := findClass_of_methodNamed B.named
  have hlocks := B.notSynchronized
  have hK := hk.1
  have hW := tf_n.start (M := M_X4_sortFrom) hW0 hB
  obtain ⟨Q, hQ⟩ : ∃ q, q = MQ below (tf_Qi g M_X4_sortFrom T (fun z _ _ => 1 ≤ z ∧ z ≤ 3001 ∧ tf_SO tp n9 x1 z)) args s 0 0 (fun q => tf_B g ≤ q) := ⟨_, rfl⟩
  rw [← hQ]
  obtain ⟨R, hR⟩ : ∃ q, q = (headSpec (cd_X4_sortFrom :: wsL_law) ({ frames := 7, cells := 0, slots := 0, locals := 154 })).room := ⟨_, rfl⟩
  rw [← hR]
  have hR1 : 7 ≤ R.frames := by rw [hR]; exact Nat.le_refl _
  have hR2 : 154 ≤ R.locals := by rw [hR]; exact Nat.le_refl _
  have hR3 : 0 ≤ R.cells := by rw [hR]; exact Nat.le_refl _
  have hR4 : 0 ≤ R.slots := by rw [hR]; exact Nat.le_refl _
  have hin := (name_of_methodNamed B.named B.method).1
  clear hR B
  refine tf_enter (As := [.ref a0, .int (Int32.ofInt x1)]) hargs (Nat.le_of_ble_eq_true rfl) (fun ls hl => ?_)
  have hl : lv_has ls 2 [(0, .ref a0), (1, .int (Int32.ofInt x1))] := hl
  refine lv_aload_n hx hb dX4_sortFrom_0 rfl (lv_at hl 0 rfl) ?_
  refine tf_get hx hb hts inlX4 hown hK (ci := 4) rfl hW ha0 rfl 3 rfl (by decide) (hts _ fl_X4_22) dX4_sortFrom_1 (fun v1 hv1 hsv1 => ?_)
  obtain rfl : v1 = .ref b0 := Option.some.inj (hsv1.symm.trans he0)
  refine lv_iload_n hx hb dX4_sortFrom_4 rfl (lv_at hl 1 rfl) ?_
  refine tf_iald (t0 := 0) hx hb hK hW hb0 rfl rfl (by omega) (by omega) dX4_sortFrom_5 (fun v2 hv2 hsv2 => ?_)
  obtain ⟨z3, rfl, hz3⟩ := tf_v0 hv2
  have er4 : tp x1 = z3 := he1 ▸ tf_rw_of (by omega) hsv2 ⟨by omega, by omega⟩
  refine tf_calli (va_runS (As := [.int (Int32.ofInt z3)]) (rest := []) ⟨hx, hb, hml, hown, hts⟩ (c_X4_isLetter l g T (z3) ⟨by omega, by omega⟩) ⟨callB_of 1 hts (gw_ws cm_X4_isLetter) rfl rfl rfl (hts _ (tw6 (i := 0) rfl)) (hts _ (tw20 (i := 16) rfl)) hd_X4_isLetter.2 ⟨Nat.le_trans (by decide) hR1, Nat.le_trans (by decide) hR2⟩, hts _ (tw20 (i := 17) rfl)⟩ (tf_preS hk hW trivial) rfl rfl hl.1 rfl (lv_room (Nat.le_of_ble_eq_true rfl)) dX4_sortFrom_6 ⟨Nat.zero_le _, Nat.zero_le _⟩) hW (by decide) (fun z5 H5 locs5 hW hF5 hp5 => ?_)
  have hs6 := tf_keepF hF5 ha0 rfl rfl (by decide) he0
  have hs7 := tf_keepC hF5 hb0 rfl (by decide) he1
  have hs8 := tf_keepF hF5 ha0 rfl rfl (by decide) he2
  rcases hp5 with ⟨rfl, h9, h10⟩ | ⟨rfl, h11⟩
  · refine tf_if_eq (tgt := 18) hx hb ⟨by decide, by decide⟩ dX4_sortFrom_9 (by decide) (fun h12 => ?_) (fun h12 => ?_)
    · exfalso; omega
    · refine lv_aload_n hx hb dX4_sortFrom_12 rfl (lv_at hl 0 rfl) ?_
      refine lv_iload_n hx hb dX4_sortFrom_13 rfl (lv_at hl 1 rfl) ?_
      refine tf_calli (va_runV (As := [.int (Int32.ofInt x1)]) (rest := []) ⟨hx, hb, hml, hown, hts⟩ (c_X4_wordFrom l g T a0 ha0 (x1) ⟨by omega, by omega⟩ b0 hb0 tp (n9) ⟨by omega, by omega⟩ (by omega) (by omega)) (cwV 1 hts gv_X4_55 rfl rfl rfl hd_X4_wordFrom ⟨Nat.le_trans (by decide) hR1, Nat.le_trans (by decide) hR2⟩) (tf_preV hk hW ha0 (ci := 4) rfl rfl ⟨hs6, hs7, hs8⟩) rfl rfl hl.1 rfl (lv_room (Nat.le_of_ble_eq_true rfl)) dX4_sortFrom_14 ⟨Nat.zero_le _, Nat.zero_le _⟩) hW (by decide) (fun zW HW locsW hW hFW hpW => ?_)
      have hs13 := tf_keepF hFW ha0 rfl rfl (by decide) hs6
      have hs14 := tf_keepC hFW hb0 rfl (by decide) hs7
      have hs15 := tf_keepF hFW ha0 rfl rfl (by decide) hs8
      obtain ⟨hpW_0, hpW_1, hpW_2⟩ := hpW
      exact tf_reti (z := zW) hx hb hr hlocks hQ hW ⟨by omega, by omega, Or.inl ⟨⟨by omega, by omega⟩, hpW_2⟩⟩ dX4_sortFrom_17
  · refine tf_if_eq (tgt := 18) hx hb ⟨by decide, by decide⟩ dX4_sortFrom_9 (by decide) (fun h16 => ?_) (fun h16 => ?_)
    · refine lv_aload_n hx hb dX4_sortFrom_18 rfl (lv_at hl 0 rfl) ?_
      refine tf_get hx hb hts inlX4 hown hK (ci := 4) rfl hW ha0 rfl 3 rfl (by decide) (hts _ fl_X4_22) dX4_sortFrom_19 (fun v17 hv17 hsv17 => ?_)
      obtain rfl : v17 = .ref b0 := Option.some.inj (hsv17.symm.trans hs6)
      refine lv_iload_n hx hb dX4_sortFrom_22 rfl (lv_at hl 1 rfl) ?_
      refine tf_iald (t0 := 0) hx hb hK hW hb0 rfl rfl (by omega) (by omega) dX4_sortFrom_23 (fun v18 hv18 hsv18 => ?_)
      obtain ⟨z19, rfl, hz19⟩ := tf_v0 hv18
      have er20 : tp x1 = z19 := hs7 ▸ tf_rw_of (by omega) hsv18 ⟨by omega, by omega⟩
      refine tf_calli (va_runS (As := [.int (Int32.ofInt z19)]) (rest := []) ⟨hx, hb, hml, hown, hts⟩ (c_X4_isDigit l g T (z19) ⟨by omega, by omega⟩) ⟨callB_of 1 hts (gw_ws cm_X4_isDigit) rfl rfl rfl (hts _ (tw6 (i := 0) rfl)) (hts _ (tw20 (i := 19) rfl)) hd_X4_isDigit.2 ⟨Nat.le_trans (by decide) hR1, Nat.le_trans (by decide) hR2⟩, hts _ (tw20 (i := 20) rfl)⟩ (tf_preS hk hW trivial) rfl rfl hl.1 rfl (lv_room (Nat.le_of_ble_eq_true rfl)) dX4_sortFrom_24 ⟨Nat.zero_le _, Nat.zero_le _⟩) hW (by decide) (fun z21 H21 locs21 hW hF21 hp21 => ?_)
      have hs22 := tf_keepF hF21 ha0 rfl rfl (by decide) hs6
      have hs23 := tf_keepC hF21 hb0 rfl (by decide) hs7
      have hs24 := tf_keepF hF21 ha0 rfl rfl (by decide) hs8
      rcases hp21 with ⟨rfl, h25, h26⟩ | ⟨rfl, h27⟩
      · refine tf_if_eq (tgt := 38) hx hb ⟨by decide, by decide⟩ dX4_sortFrom_27 (by decide) (fun h28 => ?_) (fun h28 => ?_)
        · exfalso; omega
        · refine lv_aload_n hx hb dX4_sortFrom_30 rfl (lv_at hl 0 rfl) ?_
          refine lv_iload_n hx hb dX4_sortFrom_31 rfl (lv_at hl 1 rfl) ?_
          refine tf_calli (va_runV (As := [.int (Int32.ofInt x1)]) (rest := []) ⟨hx, hb, hml, hown, hts⟩ (c_X4_numberFrom l g T a0 ha0 (x1) ⟨by omega, by omega⟩ b0 hb0 tp (n9) ⟨by omega, by omega⟩ (by omega) (by omega)) (cwV 1 hts gv_X4_58 rfl rfl rfl hd_X4_numberFrom ⟨Nat.le_trans (by decide) hR1, Nat.le_trans (by decide) hR2⟩) (tf_preV hk hW ha0 (ci := 4) rfl rfl ⟨hs22, hs23, hs24⟩) rfl rfl hl.1 rfl (lv_room (Nat.le_of_ble_eq_true rfl)) dX4_sortFrom_32 ⟨Nat.zero_le _, Nat.zero_le _⟩) hW (by decide) (fun zN HN locsN hW hFN hpN => ?_)
          have hs29 := tf_keepF hFN ha0 rfl rfl (by decide) hs22
          have hs30 := tf_keepC hFN hb0 rfl (by decide) hs23
          have hs31 := tf_keepF hFN ha0 rfl rfl (by decide) hs24
          obtain ⟨hpN_0, hpN_1, hpN_2⟩ := hpN
          refine lv_goto (tgt := 48) hx hb dX4_sortFrom_35 (by decide) ?_
          exact tf_reti (z := zN) hx hb hr hlocks hQ hW (by first | exact ⟨by omega, by omega, Or.inr (Or.inl ⟨⟨by omega, by omega⟩, hpN_2⟩)⟩ | exact ⟨by omega, by omega, Or.inr (Or.inr ⟨by omega, by omega, by omega⟩)⟩) dX4_sortFrom_48
      · refine tf_if_eq (tgt := 38) hx hb ⟨by decide, by decide⟩ dX4_sortFrom_27 (by decide) (fun h32 => ?_) (fun h32 => ?_)
        · refine tf_sipush hx hb dX4_sortFrom_38 (by decide) ?_
          refine lv_aload_n hx hb dX4_sortFrom_41 rfl (lv_at hl 0 rfl) ?_
          refine tf_get hx hb hts inlX4 hown hK (ci := 4) rfl hW ha0 rfl 3 rfl (by decide) (hts _ fl_X4_22) dX4_sortFrom_42 (fun v33 hv33 hsv33 => ?_)
          obtain rfl : v33 = .ref b0 := Option.some.inj (hsv33.symm.trans hs22)
          refine lv_iload_n hx hb dX4_sortFrom_45 rfl (lv_at hl 1 rfl) ?_
          refine tf_iald (t0 := 0) hx hb hK hW hb0 rfl rfl (by omega) (by omega) dX4_sortFrom_46 (fun v34 hv34 hsv34 => ?_)
          obtain ⟨z35, rfl, hz35⟩ := tf_v0 hv34
          have er36 : tp x1 = z35 := hs23 ▸ tf_rw_of (by omega) hsv34 ⟨by omega, by omega⟩
          refine tf_iadd hx hb dX4_sortFrom_47 ?_
          exact tf_reti (z := (1000 + z35)) hx hb hr hlocks hQ hW (by first | exact ⟨by omega, by omega, Or.inr (Or.inl ⟨⟨by omega, by omega⟩, hpN_2⟩)⟩ | exact ⟨by omega, by omega, Or.inr (Or.inr ⟨by omega, by omega, by omega⟩)⟩) dX4_sortFrom_48
        · exfalso; omega
    · exfalso; omega

abbrev M_X4_cut : List (Nat × Nat) := [(24, 0), (25, 0), (34, 2), (34, 3), (34, 4)]
set_option maxHeartbeats 4000000 in
set_option maxRecDepth 100000 in
theorem c_X4_cut (l : Launch) (g : tf_G) (T : tf_T) (a0 : Nat) (ha0 : T a0 = some (34, 0)) (a1 : Nat) (ha1 : T a1 = some (3, 400)) (x2 : Int) (hp2 : 0 ≤ x2 ∧ x2 ≤ 400) (so : Nat) (hso : T so = some (24, 401)) (po : Nat) (hpo : T po = some (25, 401)) (tp : Int → Int) (ss : Int → Int) (pp : Int → Int) : Met l yX4_cut (cd_X4_cut :: wsL_law) ({ frames := 8, cells := 0, slots := 0, locals := 175 }) (tf_P g T [.ref a0, .ref a1, .int (Int32.ofInt x2)] (fun H => tf_s H a0 (g.1.2 4 0) = some (.ref so) ∧ tf_s H a0 (g.1.2 4 1) = some (.ref po) ∧ tf_rw H a1 = tp ∧ tf_rw H so = ss ∧ tf_rw H po = pp)) (tf_Qv g M_X4_cut T (fun _ H => (∃ (mm : Int) (ss1 pp1 : Int → Int) , tf_s H a0 (g.1.2 4 2) = some (.int (Int32.ofInt mm)) ∧ tf_rw H so = ss1 ∧ tf_rw H po = pp1 ∧ (1 ≤ mm ∧ mm ≤ 401) ∧ (tf_TOK tp x2 ss1 pp1 mm)))) 0 0 (fun q => tf_B g ≤ q) := by
  refine Met.ofW (cc := cX4_cut) (maxL := 4) (ret := none) (by decide) rfl ?_
  intro p e s m args below meth c s₁ B hml hv
  obtain ⟨hargs, hk, hW0, hB, hpre⟩ := hv
  obtain ⟨he0, he1, he2, he3, he4⟩ := hpre
  have hx := B.exec
  have hb := B.bytes
  have hr := B.returns
  have hts : ∀ w ∈ wsL_law, w.before args s = true := fun w h => atoms_spec (ws := cd_X4_cut :: wsL_law) B.pre w (List.mem_cons_of_mem _ h)
  have hown : s.vm.findClass RX4 = some m.cls := findClass_of_methodNamed B.named
  have hlocks := B.notSynchronized
  have hK := hk.1
  have hW := tf_n.start (M := M_X4_cut) hW0 hB
  obtain ⟨Q, hQ⟩ : ∃ q, q = MQ below (tf_Qv g M_X4_cut T (fun _ H => (∃ (mm : Int) (ss1 pp1 : Int → Int) , tf_s H a0 (g.1.2 4 2) = some (.int (Int32.ofInt mm)) ∧ tf_rw H so = ss1 ∧ tf_rw H po = pp1 ∧ (1 ≤ mm ∧ mm ≤ 401) ∧ (tf_TOK tp x2 ss1 pp1 mm)))) args s 0 0 (fun q => tf_B g ≤ q) := ⟨_, rfl⟩
  rw [← hQ]
  obtain ⟨R, hR⟩ : ∃ q, q = (headSpec (cd_X4_cut :: wsL_law) ({ frames := 8, cells := 0, slots := 0, locals := 175 })).room := ⟨_, rfl⟩
  rw [← hR]
  have hR1 : 8 ≤ R.frames := by rw [hR]; exact Nat.le_refl _
  have hR2 : 175 ≤ R.locals := by rw [hR]; exact Nat.le_refl _
  have hR3 : 0 ≤ R.cells := by rw [hR]; exact Nat.le_refl _
  have hR4 : 0 ≤ R.slots := by rw [hR]; exact Nat.le_refl _
  have hin := (name_of_methodNamed B.named B.method).1
  clear hR B
  have j_32 : ∀ (n_32 : Nat), ∀ (x3_32 : Int), 0 ≤ x3_32 ∧ x3_32 ≤ 400 → ∀ (rTKS_32 : Int → Int), (True) → ∀ (rTKP_32 : Int → Int), (True) → ∀ (f4_32 : Int), 0 ≤ f4_32 ∧ f4_32 ≤ 400 → ∀ (f2_32 : Int), 0 ≤ f2_32 ∧ f2_32 ≤ 401 → (tf_CUT tp f4_32 x3_32 rTKS_32 rTKP_32 f2_32) → (f4_32 = x2) → (x3_32 ≤ f4_32) → (400 - x3_32 + 1 ≤ (n_32 : Int)) → ∀ (H : Heap) (locs : List Loc), tf_n tf_kt g M_X4_cut T s.heap T H locs → tf_s H a0 (g.1.2 4 0) = some (.ref so) → tf_s H a0 (g.1.2 4 1) = some (.ref po) → tf_rw H a1 = tp → tf_rw H so = rTKS_32 → tf_rw H po = rTKP_32 → tf_s H a0 (g.1.2 4 3) = some (.ref a1) → tf_s H a0 (g.1.2 4 4) = some (.int (Int32.ofInt f4_32)) → tf_s H a0 (g.1.2 4 2) = some (.int (Int32.ofInt f2_32)) → ∀ (ls : Array Slot), lv_has ls 4 [(0, .ref a0), (3, .int (Int32.ofInt x3_32))] → W p l e R s m args below meth c H locs 0 0 Q (F0 m 32 ls []) := by
    intro n_32
    induction n_32 with
    | zero =>
      intro x3_32 hx3_32 rTKS_32 hRTKS_32 rTKP_32 hRTKP_32 f4_32 hf4_32 f2_32 hf2_32 hi0_32 hi1_32 hi2_32 hm_32
      exfalso; omega
    | succ n_32 ih_32 =>
      intro x3_32 hx3_32 rTKS_32 hRTKS_32 rTKP_32 hRTKP_32 f4_32 hf4_32 f2_32 hf2_32 hi0_32 hi1_32 hi2_32 hm_32 H locs hW hs0_32 hs1_32 hcTAPE_32 hcTKS_32 hcTKP_32 hs3_32 hs4_32 hs2_32 ls hl
      have j_69 : 0 ≤ x3_32 ∧ x3_32 ≤ 399 → ∀ (rTKS_69 : Int → Int), (True) → ∀ (rTKP_69 : Int → Int), (True) → ∀ (f2_69 : Int), 0 ≤ f2_69 ∧ f2_69 ≤ 401 → (tf_CUT tp f4_32 (x3_32 + 1) rTKS_69 rTKP_69 f2_69) → (f4_32 = x2) → (x3_32 < f4_32) → ∀ (H : Heap) (locs : List Loc), tf_n tf_kt g M_X4_cut T s.heap T H locs → tf_s H a0 (g.1.2 4 0) = some (.ref so) → tf_s H a0 (g.1.2 4 1) = some (.ref po) → tf_rw H a1 = tp → tf_rw H so = rTKS_69 → tf_rw H po = rTKP_69 → tf_s H a0 (g.1.2 4 3) = some (.ref a1) → tf_s H a0 (g.1.2 4 4) = some (.int (Int32.ofInt f4_32)) → tf_s H a0 (g.1.2 4 2) = some (.int (Int32.ofInt f2_69)) → ∀ (ls : Array Slot), lv_has ls 4 [(0, .ref a0), (3, .int (Int32.ofInt x3_32))] → W p l e R s m args below meth c H locs 0 0 Q (F0 m 69 ls []) := by
        intro hx3_69 rTKS_69 hRTKS_69 rTKP_69 hRTKP_69 f2_69 hf2_69 hi0_69 hi1_69 hi2_69 H locs hW hs0_69 hs1_69 hcTAPE_69 hcTKS_69 hcTKP_69 hs3_69 hs4_69 hs2_69 ls hl
        have hcu := (id hi0_69).1
        refine lv_iinc (v := Int32.ofInt ((x3_32 + 1))) (lv' := [(3, .int (Int32.ofInt ((x3_32 + 1)))), (0, .ref a0)]) hx hb dX4_cut_69 hl (k := 1) rfl (Int32.ofInt_add _ _).symm (by decide) rfl (fun ls hl => ?_)
        refine lv_goto (tgt := 32) hx hb dX4_cut_72 (by decide) ?_
        exact ih_32 ((x3_32 + 1)) ⟨by omega, by omega⟩ rTKS_69 (trivial) rTKP_69 (trivial) (f4_32) ⟨by omega, by omega⟩ (f2_69) ⟨by omega, by omega⟩ (by first | exact tf_CUT_0 | exact hi0_69) (by first | assumption | omega) (by first | assumption | omega) (by omega) _ _ hW hs0_69 hs1_69 hcTAPE_69 hcTKS_69 hcTKP_69 hs3_69 hs4_69 hs2_69 _ (lv_sub hl [1, 0] rfl)
      have hcu := (id hi0_32).1
      refine lv_iload_n hx hb dX4_cut_32 rfl (lv_at hl 1 rfl) ?_
      refine lv_aload_n hx hb dX4_cut_33 rfl (lv_at hl 0 rfl) ?_
      refine tf_get hx hb hts inlX4 hown hK (ci := 4) rfl hW ha0 rfl 4 rfl (by decide) (hts _ fl_X4_25) dX4_cut_34 (fun v1 hv1 hsv1 => ?_)
      obtain rfl : v1 = .int (Int32.ofInt f4_32) := Option.some.inj (hsv1.symm.trans hs4_32)
      refine tf_icmp_ge (tgt := 75) hx hb ⟨by omega, by omega⟩ ⟨by omega, by omega⟩ dX4_cut_37 (by decide) (fun h2 => ?_) (fun h2 => ?_)
      · refine lv_aload_n hx hb dX4_cut_75 rfl (lv_at hl 0 rfl) ?_
        refine tf_iconst hx hb dX4_cut_76 ?_
        refine lv_aload_n hx hb dX4_cut_77 rfl (lv_at hl 0 rfl) ?_
        refine tf_get hx hb hts inlX4 hown hK (ci := 4) rfl hW ha0 rfl 4 rfl (by decide) (hts _ fl_X4_25) dX4_cut_78 (fun v3 hv3 hsv3 => ?_)
        obtain rfl : v3 = .int (Int32.ofInt f4_32) := Option.some.inj (hsv3.symm.trans hs4_32)
        refine tf_callv (va_runV (As := [.int (Int32.ofInt 0), .int (Int32.ofInt f4_32)]) (rest := []) ⟨hx, hb, hml, hown, hts⟩ (c_X4_add l g T a0 ha0 (0) ⟨by omega, by omega⟩ (f4_32) ⟨by omega, by omega⟩ so hso po hpo (f2_32) ⟨by omega, by omega⟩ rTKS_32 rTKP_32) (cwV 2 hts gv_X4_45 rfl rfl rfl hd_X4_add ⟨Nat.le_trans (by decide) hR1, Nat.le_trans (by decide) hR2⟩) (tf_preV hk hW ha0 (ci := 4) rfl rfl ⟨hs2_32, hs0_32, hs1_32, hcTKS_32, hcTKP_32⟩) rfl rfl hl.1 rfl (lv_room (Nat.le_of_ble_eq_true rfl)) dX4_cut_81 ⟨Nat.zero_le _, Nat.zero_le _⟩) hW (by decide) (fun H4 locs4 hW hF4 hp4 => ?_)
        have hs5 := tf_keepF hF4 ha0 rfl rfl (by decide) hs0_32
        have hs6 := tf_keepF hF4 ha0 rfl rfl (by decide) hs1_32
        have hs7 := tf_keepC hF4 ha1 rfl (by decide) hcTAPE_32
        have hs8 := tf_keepF hF4 ha0 rfl rfl (by decide) hs3_32
        have hs9 := tf_keepF hF4 ha0 rfl rfl (by decide) hs4_32
        obtain ⟨ho4_0, ho4_1, ho4_2⟩ := hp4
        exact tf_retv hx hb hr hlocks hQ hW ⟨((f2_32 + 1)), (tf_up (rTKS_32) (f2_32) (0)), (tf_up (rTKP_32) (f2_32) (f4_32)), ho4_0, ho4_1, ho4_2, ⟨by omega, by omega⟩, (tf_TOK_of (tf_CUT_n hi0_32 (by omega)) (by omega) (by omega) (by omega) (by omega))⟩ dX4_cut_84
      · refine lv_aload_n hx hb dX4_cut_40 rfl (lv_at hl 0 rfl) ?_
        refine tf_get hx hb hts inlX4 hown hK (ci := 4) rfl hW ha0 rfl 3 rfl (by decide) (hts _ fl_X4_22) dX4_cut_41 (fun v10 hv10 hsv10 => ?_)
        obtain rfl : v10 = .ref a1 := Option.some.inj (hsv10.symm.trans hs3_32)
        refine lv_iload_n hx hb dX4_cut_44 rfl (lv_at hl 1 rfl) ?_
        refine tf_iald (t0 := 0) hx hb hK hW ha1 rfl rfl (by omega) (by omega) dX4_cut_45 (fun v11 hv11 hsv11 => ?_)
        obtain ⟨z12, rfl, hz12⟩ := tf_v0 hv11
        have er13 : tp x3_32 = z12 := hcTAPE_32 ▸ tf_rw_of (by omega) hsv11 ⟨by omega, by omega⟩
        refine tf_bipush hx hb dX4_cut_46 (by decide) ?_
        refine tf_icmp_eq (tgt := 69) hx hb ⟨by omega, by omega⟩ ⟨by decide, by decide⟩ dX4_cut_48 (by decide) (fun h14 => ?_) (fun h14 => ?_)
        · exact j_69 ⟨by omega, by omega⟩ rTKS_32 (trivial) rTKP_32 (trivial) (f2_32) ⟨by omega, by omega⟩ (by first | exact tf_CUT_no hi0_32 (fun h => h.1 (by omega)) | exact tf_CUT_no hi0_32 (fun h => h.2 hg1) | exact tf_CUT_yes hi0_32 (by omega) ⟨by omega, hg0⟩ hpO_2) (by first | assumption | omega) (by first | assumption | omega) _ _ hW hs0_32 hs1_32 hcTAPE_32 hcTKS_32 hcTKP_32 hs3_32 hs4_32 hs2_32 _ (lv_sub hl [0, 1] rfl)
        · refine lv_aload_n hx hb dX4_cut_51 rfl (lv_at hl 0 rfl) ?_
          refine lv_iload_n hx hb dX4_cut_52 rfl (lv_at hl 1 rfl) ?_
          refine tf_calli (va_runV (As := [.int (Int32.ofInt x3_32)]) (rest := []) ⟨hx, hb, hml, hown, hts⟩ (c_X4_goesOn l g T a0 ha0 (x3_32) ⟨by omega, by omega⟩ a1 ha1 tp) (cwV 1 hts gv_X4_37 rfl rfl rfl hd_X4_goesOn ⟨Nat.le_trans (by decide) hR1, Nat.le_trans (by decide) hR2⟩) (tf_preV hk hW ha0 (ci := 4) rfl rfl ⟨hs3_32, hcTAPE_32⟩) rfl rfl hl.1 rfl (lv_room (Nat.le_of_ble_eq_true rfl)) dX4_cut_53 ⟨Nat.zero_le _, Nat.zero_le _⟩) hW (by decide) (fun z15 H15 locs15 hW hF15 hp15 => ?_)
          have hs16 := tf_keepF hF15 ha0 rfl rfl (by decide) hs0_32
          have hs17 := tf_keepF hF15 ha0 rfl rfl (by decide) hs1_32
          have hs18 := tf_keepC hF15 ha1 rfl (by decide) hcTAPE_32
          have hs19 := tf_keepC hF15 hso rfl (by decide) hcTKS_32
          have hs20 := tf_keepC hF15 hpo rfl (by decide) hcTKP_32
          have hs21 := tf_keepF hF15 ha0 rfl rfl (by decide) hs3_32
          have hs22 := tf_keepF hF15 ha0 rfl rfl (by decide) hs4_32
          have hs23 := tf_keepF hF15 ha0 rfl rfl (by decide) hs2_32
          rcases hp15 with ⟨rfl, hg1⟩ | ⟨rfl, hg0⟩
          · refine tf_if_ne (tgt := 69) hx hb ⟨by decide, by decide⟩ dX4_cut_56 (by decide) (fun h24 => ?_) (fun h24 => ?_)
            · exact j_69 ⟨by omega, by omega⟩ rTKS_32 (trivial) rTKP_32 (trivial) (f2_32) ⟨by omega, by omega⟩ (by first | exact tf_CUT_no hi0_32 (fun h => h.1 (by omega)) | exact tf_CUT_no hi0_32 (fun h => h.2 hg1) | exact tf_CUT_yes hi0_32 (by omega) ⟨by omega, hg0⟩ hpO_2) (by first | assumption | omega) (by first | assumption | omega) _ _ hW hs16 hs17 hs18 hs19 hs20 hs21 hs22 hs23 _ (lv_sub hl [0, 1] rfl)
            · exfalso; omega
          · refine tf_if_ne (tgt := 69) hx hb ⟨by decide, by decide⟩ dX4_cut_56 (by decide) (fun h25 => ?_) (fun h25 => ?_)
            · exfalso; omega
            · refine lv_aload_n hx hb dX4_cut_59 rfl (lv_at hl 0 rfl) ?_
              refine lv_aload_n hx hb dX4_cut_60 rfl (lv_at hl 0 rfl) ?_
              refine lv_iload_n hx hb dX4_cut_61 rfl (lv_at hl 1 rfl) ?_
              refine tf_calli (va_runV (As := [.int (Int32.ofInt x3_32)]) (rest := [.ref a0]) ⟨hx, hb, hml, hown, hts⟩ (c_X4_sortFrom l g T a0 ha0 (x3_32) ⟨by omega, by omega⟩ a1 ha1 tp (f4_32) ⟨by omega, by omega⟩ (by omega)) (cwV 1 hts gv_X4_41 rfl rfl rfl hd_X4_sortFrom ⟨Nat.le_trans (by decide) hR1, Nat.le_trans (by decide) hR2⟩) (tf_preV hk hW ha0 (ci := 4) rfl rfl ⟨hs21, hs18, hs22⟩) rfl rfl hl.1 rfl (lv_room (Nat.le_of_ble_eq_true rfl)) dX4_cut_62 ⟨Nat.zero_le _, Nat.zero_le _⟩) hW (by decide) (fun zO HO locsO hW hFO hpO => ?_)
              have hs26 := tf_keepF hFO ha0 rfl rfl (by decide) hs16
              have hs27 := tf_keepF hFO ha0 rfl rfl (by decide) hs17
              have hs28 := tf_keepC hFO ha1 rfl (by decide) hs18
              have hs29 := tf_keepC hFO hso rfl (by decide) hs19
              have hs30 := tf_keepC hFO hpo rfl (by decide) hs20
              have hs31 := tf_keepF hFO ha0 rfl rfl (by decide) hs21
              have hs32 := tf_keepF hFO ha0 rfl rfl (by decide) hs22
              have hs33 := tf_keepF hFO ha0 rfl rfl (by decide) hs23
              obtain ⟨hpO_0, hpO_1, hpO_2⟩ := hpO
              refine lv_iload_n hx hb dX4_cut_65 rfl (lv_at hl 1 rfl) ?_
              refine tf_callv (va_runV (As := [.int (Int32.ofInt zO), .int (Int32.ofInt x3_32)]) (rest := []) ⟨hx, hb, hml, hown, hts⟩ (c_X4_add l g T a0 ha0 (zO) ⟨by omega, by omega⟩ (x3_32) ⟨by omega, by omega⟩ so hso po hpo (f2_32) ⟨by omega, by omega⟩ rTKS_32 rTKP_32) (cwV 2 hts gv_X4_45 rfl rfl rfl hd_X4_add ⟨Nat.le_trans (by decide) hR1, Nat.le_trans (by decide) hR2⟩) (tf_preV hk hW ha0 (ci := 4) rfl rfl ⟨hs33, hs26, hs27, hs29, hs30⟩) rfl rfl hl.1 rfl (lv_room (Nat.le_of_ble_eq_true rfl)) dX4_cut_66 ⟨Nat.zero_le _, Nat.zero_le _⟩) hW (by decide) (fun H34 locs34 hW hF34 hp34 => ?_)
              have hs35 := tf_keepF hF34 ha0 rfl rfl (by decide) hs26
              have hs36 := tf_keepF hF34 ha0 rfl rfl (by decide) hs27
              have hs37 := tf_keepC hF34 ha1 rfl (by decide) hs28
              have hs38 := tf_keepF hF34 ha0 rfl rfl (by decide) hs31
              have hs39 := tf_keepF hF34 ha0 rfl rfl (by decide) hs32
              obtain ⟨ho34_0, ho34_1, ho34_2⟩ := hp34
              exact j_69 ⟨by omega, by omega⟩ (tf_up (rTKS_32) (f2_32) (zO)) (trivial) (tf_up (rTKP_32) (f2_32) (x3_32)) (trivial) ((f2_32 + 1)) ⟨by omega, by omega⟩ (by first | exact tf_CUT_no hi0_32 (fun h => h.1 (by omega)) | exact tf_CUT_no hi0_32 (fun h => h.2 hg1) | exact tf_CUT_yes hi0_32 (by omega) ⟨by omega, hg0⟩ hpO_2) (by first | assumption | omega) (by first | assumption | omega) _ _ hW hs35 hs36 hs37 ho34_1 ho34_2 hs38 hs39 ho34_0 _ (lv_sub hl [0, 1] rfl)
  refine tf_enter (As := [.ref a0, .ref a1, .int (Int32.ofInt x2)]) hargs (Nat.le_of_ble_eq_true rfl) (fun ls hl => ?_)
  have hl : lv_has ls 4 [(0, .ref a0), (1, .ref a1), (2, .int (Int32.ofInt x2))] := hl
  refine lv_aload_n hx hb dX4_cut_0 rfl (lv_at hl 0 rfl) ?_
  refine lv_aload_n hx hb dX4_cut_1 rfl (lv_at hl 1 rfl) ?_
  refine tf_put hx hb hts inlX4 tyX4 tyX4_ok nmX4 hown hK (ci := 4) rfl hW ha0 rfl rfl 3 rfl (by decide) (by decide) (hts _ fl_X4_22) rfl (tf_u3 ha1 (by omega)) rfl rfl dX4_cut_2 (fun H40 locs40 hW hs40 ht40 hq40 => ?_)
  have hs41 := (ht40 0 (by decide) (by decide)).trans he0
  have hs42 := (ht40 1 (by decide) (by decide)).trans he1
  have hs43 := tf_keepCQ he2 (hq40 _ (tf_ne ha1 ha0 (by decide)))
  have hs44 := tf_keepCQ he3 (hq40 _ (tf_ne hso ha0 (by decide)))
  have hs45 := tf_keepCQ he4 (hq40 _ (tf_ne hpo ha0 (by decide)))
  refine lv_aload_n hx hb dX4_cut_5 rfl (lv_at hl 0 rfl) ?_
  refine tf_iconst hx hb dX4_cut_6 ?_
  refine lv_iload_n hx hb dX4_cut_7 rfl (lv_at hl 2 rfl) ?_
  refine lv_aload_n hx hb dX4_cut_8 rfl (lv_at hl 1 rfl) ?_
  refine tf_alen (t0 := 0) hx hb hK hW ha1 rfl rfl dX4_cut_9 (fun hn46 => ?_)
  refine tf_sipush hx hb dX4_cut_10 (by decide) ?_
  refine tf_mmin hx hb hml hl hown (hts _ (tw20 (i := 10) rfl)) (hts _ (tw18 (i := 17) rfl)) (hts _ (tw10 (i := 2) rfl)) (hts _ (tw18 (i := 18) rfl)) ⟨by decide, by decide⟩ ⟨by decide, by decide⟩ (Nat.le_of_ble_eq_true rfl) (Nat.le_trans (by decide) hR1) (Nat.le_trans (by decide) hR2) (Nat.zero_le _) (Nat.zero_le _) dX4_cut_13 (fun z47 hz47 => ?_)
  refine tf_mmin hx hb hml hl hown (hts _ (tw20 (i := 10) rfl)) (hts _ (tw18 (i := 17) rfl)) (hts _ (tw10 (i := 2) rfl)) (hts _ (tw18 (i := 18) rfl)) ⟨by omega, by omega⟩ ⟨by omega, by omega⟩ (Nat.le_of_ble_eq_true rfl) (Nat.le_trans (by decide) hR1) (Nat.le_trans (by decide) hR2) (Nat.zero_le _) (Nat.zero_le _) dX4_cut_16 (fun z48 hz48 => ?_)
  refine tf_mmax hx hb hml hl hown (hts _ (tw20 (i := 11) rfl)) (hts _ (tw10 (i := 1) rfl)) (hts _ (tw10 (i := 2) rfl)) (hts _ (tw10 (i := 3) rfl)) ⟨by decide, by decide⟩ ⟨by omega, by omega⟩ (Nat.le_of_ble_eq_true rfl) (Nat.le_trans (by decide) hR1) (Nat.le_trans (by decide) hR2) (Nat.zero_le _) (Nat.zero_le _) dX4_cut_19 (fun z49 hz49 => ?_)
  refine tf_put hx hb hts inlX4 tyX4 tyX4_ok nmX4 hown hK (ci := 4) rfl hW ha0 rfl rfl 4 rfl (by decide) (by decide) (hts _ fl_X4_25) rfl (tf_u0 (by omega) (by omega)) rfl rfl dX4_cut_22 (fun H50 locs50 hW hs50 ht50 hq50 => ?_)
  have hs51 := (ht50 0 (by decide) (by decide)).trans hs41
  have hs52 := (ht50 1 (by decide) (by decide)).trans hs42
  have hs53 := tf_keepCQ hs43 (hq50 _ (tf_ne ha1 ha0 (by decide)))
  have hs54 := tf_keepCQ hs44 (hq50 _ (tf_ne hso ha0 (by decide)))
  have hs55 := tf_keepCQ hs45 (hq50 _ (tf_ne hpo ha0 (by decide)))
  have hs56 := (ht50 3 (by decide) (by decide)).trans hs40
  refine lv_aload_n hx hb dX4_cut_25 rfl (lv_at hl 0 rfl) ?_
  refine tf_iconst hx hb dX4_cut_26 ?_
  refine tf_put hx hb hts inlX4 tyX4 tyX4_ok nmX4 hown hK (ci := 4) rfl hW ha0 rfl rfl 2 rfl (by decide) (by decide) (hts _ fl_X4_18) rfl (tf_u0 (by omega) (by omega)) rfl rfl dX4_cut_27 (fun H57 locs57 hW hs57 ht57 hq57 => ?_)
  have hs58 := (ht57 0 (by decide) (by decide)).trans hs51
  have hs59 := (ht57 1 (by decide) (by decide)).trans hs52
  have hs60 := tf_keepCQ hs53 (hq57 _ (tf_ne ha1 ha0 (by decide)))
  have hs61 := tf_keepCQ hs54 (hq57 _ (tf_ne hso ha0 (by decide)))
  have hs62 := tf_keepCQ hs55 (hq57 _ (tf_ne hpo ha0 (by decide)))
  have hs63 := (ht57 3 (by decide) (by decide)).trans hs56
  have hs64 := (ht57 4 (by decide) (by decide)).trans hs50
  refine tf_iconst hx hb dX4_cut_30 ?_
  refine lv_istore_n (lv' := [(3, .int (Int32.ofInt 0)), (0, .ref a0), (1, .ref a1), (2, .int (Int32.ofInt x2))]) hx hb dX4_cut_31 rfl hl (by decide) rfl (fun ls hl => ?_)
  exact j_32 ((400 - 0 + 1 : Int)).toNat (0) ⟨by omega, by omega⟩ ss (trivial) pp (trivial) (z49) ⟨by omega, by omega⟩ (0) ⟨by omega, by omega⟩ (by first | exact tf_CUT_0 | exact hi0_69) (by first | assumption | omega) (by first | assumption | omega) (by omega) _ _ hW hs58 hs59 hs60 hs61 hs62 hs63 hs64 hs57 _ (lv_sub hl [1, 0] rfl)

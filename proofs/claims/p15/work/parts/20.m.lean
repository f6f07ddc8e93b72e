
abbrev M_X2_read : List (Nat × Nat) := [(0, 0), (11, 0), (24, 0), (25, 0), (30, 1), (30, 4), (30, 5), (30, 6), (30, 7), (34, 2), (34, 3), (34, 4), (65, 0), (65, 1)]
set_option maxHeartbeats 4000000 in
set_option maxRecDepth 100000 in
theorem c_X2_read (l : Launch) (g : tf_G) (T : tf_T) (a0 : Nat) (ha0 : T a0 = some (30, 0)) (a1 : Nat) (ha1 : T a1 = some (3, 400)) (x2 : Int) (hp2 : 0 ≤ x2 ∧ x2 ≤ 400) (t0 : Nat) (ht0 : T t0 = some (34, 0)) (so : Nat) (hso : T so = some (24, 401)) (po : Nat) (hpo : T po = some (25, 401)) (tp : Int → Int) : Met l yX2_read (cd_X2_read :: wsL_law) ({ frames := 72, cells := 3, slots := 804, locals := 1114 }) (tf_P g T [.ref a0, .ref a1, .int (Int32.ofInt x2)] (fun H => tf_s H a0 (g.1.2 2 3) = some (.ref t0) ∧ tf_s H t0 (g.1.2 4 0) = some (.ref so) ∧ tf_s H t0 (g.1.2 4 1) = some (.ref po) ∧ tf_rw H a1 = tp)) (tf_QA g M_X2_read T (fun T z _ H => tf_v T 0 (2, 29, 0, 0, 0) z ∧ (∃ (fp1 : Int) (ss : Int → Int) (pp : Int → Int) (mm : Int), tf_s H a0 (g.1.2 2 7) = some (.int (Int32.ofInt fp1)) ∧ ((-2147483648) ≤ fp1 ∧ fp1 ≤ 2147483647) ∧ (tf_TOK tp x2 ss pp mm) ∧ ((z = .null ∧ tf_FIN ss pp mm 0 fp1) ∨ (z ≠ .null ∧ tf_FIN ss pp mm 1 fp1))))) 3 804 (fun q => tf_B g ≤ q) := by
  refine Met.ofW (cc := cX2_read) (maxL := 4) (ret := (some (.object "TowerFoot$Law"))) (by decide) rfl ?_
  intro p e s m args below meth c s₁ B hml hv
  obtain ⟨hargs, hk, hW0, hB, hpre⟩ := hv
  obtain ⟨he0, he1, he2, he3⟩ := hpre
  have hx := B.exec
  have hb := B.bytes
  have hr := B.returns
  have hts : ∀ w ∈ wsL_law, w.before args s = true := fun w h => atoms_spec (ws := cd_X2_read :: wsL_law) B.pre w (List.mem_cons_of_mem _ h)
  have hown : s.vm.findClass RX2 = some m.cls := findClass_of_methodNamed B.named
  have hlocks := B.notSynchronized
  have hK := hk.1
  have hW := tf_n.start (M := M_X2_read) hW0 hB
  obtain ⟨Q, hQ⟩ : ∃ q, q = MQ below (tf_QA g M_X2_read T (fun T z _ H => tf_v T 0 (2, 29, 0, 0, 0) z ∧ (∃ (fp1 : Int) (ss : Int → Int) (pp : Int → Int) (mm : Int), tf_s H a0 (g.1.2 2 7) = some (.int (Int32.ofInt fp1)) ∧ ((-2147483648) ≤ fp1 ∧ fp1 ≤ 2147483647) ∧ (tf_TOK tp x2 ss pp mm) ∧ ((z = .null ∧ tf_FIN ss pp mm 0 fp1) ∨ (z ≠ .null ∧ tf_FIN ss pp mm 1 fp1))))) args s 3 804 (fun q => tf_B g ≤ q) := ⟨_, rfl⟩
  rw [← hQ]
  obtain ⟨R, hR⟩ : ∃ q, q = (headSpec (cd_X2_read :: wsL_law) ({ frames := 72, cells := 3, slots := 804, locals := 1114 })).room := ⟨_, rfl⟩
  rw [← hR]
  have hR1 : 72 ≤ R.frames := by rw [hR]; exact Nat.le_refl _
  have hR2 : 1114 ≤ R.locals := by rw [hR]; exact Nat.le_refl _
  have hR3 : 3 ≤ R.cells := by rw [hR]; exact Nat.le_refl _
  have hR4 : 804 ≤ R.slots := by rw [hR]; exact Nat.le_refl _
  have hin := (name_of_methodNamed B.named B.method).1
  clear hR B
  have j_44 : ∀ (n_44 : Nat), ∀ (x3_44 : Int), 0 ≤ x3_44 ∧ x3_44 ≤ 12 → ∀ (ft02_44 : Int), 1 ≤ ft02_44 ∧ ft02_44 ≤ 401 → ∀ (rTKS_44 : Int → Int), (True) → ∀ (rTKP_44 : Int → Int), (True) → ∀ (f4_44 : Int), 0 ≤ f4_44 ∧ f4_44 ≤ 400 → ∀ (f5_44 : Int), (-2147483648) ≤ f5_44 ∧ f5_44 ≤ 2147483647 → ∀ (f6_44 : Int), 0 ≤ f6_44 ∧ f6_44 ≤ 50 → ∀ (f7_44 : Int), (-2147483648) ≤ f7_44 ∧ f7_44 ≤ 2147483647 → (tf_TOK tp x2 rTKS_44 rTKP_44 ft02_44) → (f5_44 = rTKS_44 f4_44) → (f4_44 < ft02_44) → (tf_Re rTKS_44 ft02_44 (0, 5, 0, [], 0, 0, 0) (f4_44, 5, 0, [], f6_44, 0, x3_44)) → (f7_44 = -1) → (12 - x3_44 + 1 ≤ (n_44 : Int)) → ∀ (H : Heap) (locs : List Loc), tf_n tf_kt g M_X2_read T s.heap T H locs → tf_s H a0 (g.1.2 2 3) = some (.ref t0) → tf_s H t0 (g.1.2 4 0) = some (.ref so) → tf_s H t0 (g.1.2 4 1) = some (.ref po) → tf_s H t0 (g.1.2 4 2) = some (.int (Int32.ofInt ft02_44)) → tf_rw H so = rTKS_44 → tf_rw H po = rTKP_44 → tf_s H a0 (g.1.2 2 4) = some (.int (Int32.ofInt f4_44)) → tf_s H a0 (g.1.2 2 5) = some (.int (Int32.ofInt f5_44)) → tf_s H a0 (g.1.2 2 6) = some (.int (Int32.ofInt f6_44)) → tf_s H a0 (g.1.2 2 7) = some (.int (Int32.ofInt f7_44)) → ∀ (ls : Array Slot), lv_has ls 4 [(0, .ref a0), (3, .int (Int32.ofInt x3_44))] → W p l e R s m args below meth c H locs 0 0 Q (F0 m 44 ls []) := by
    intro n_44
    induction n_44 with
    | zero =>
      intro x3_44 hx3_44 ft02_44 hft02_44 rTKS_44 hRTKS_44 rTKP_44 hRTKP_44 f4_44 hf4_44 f5_44 hf5_44 f6_44 hf6_44 f7_44 hf7_44 hi0_44 hi1_44 hi2_44 hi3_44 hi4_44 hm_44
      exfalso; omega
    | succ n_44 ih_44 =>
      intro x3_44 hx3_44 ft02_44 hft02_44 rTKS_44 hRTKS_44 rTKP_44 hRTKP_44 f4_44 hf4_44 f5_44 hf5_44 f6_44 hf6_44 f7_44 hf7_44 hi0_44 hi1_44 hi2_44 hi3_44 hi4_44 hm_44 H locs hW hs3_44 hst00_44 hst01_44 hst02_44 hcTKS_44 hcTKP_44 hs4_44 hs5_44 hs6_44 hs7_44 ls hl
      refine lv_iload_n hx hb dX2_read_44 rfl (lv_at hl 1 rfl) ?_
      refine tf_bipush hx hb dX2_read_45 (by decide) ?_
      refine tf_icmp_ge (tgt := 116) hx hb ⟨by omega, by omega⟩ ⟨by decide, by decide⟩ dX2_read_47 (by decide) (fun h1 => ?_) (fun h1 => ?_)
      · refine lv_aload_n hx hb dX2_read_116 rfl (lv_at hl 0 rfl) ?_
        refine tf_calli (va_runV (As := []) (rest := []) ⟨hx, hb, hml, hown, hts⟩ (c_X2_failHere l g T a0 ha0 t0 ht0 po hpo rTKP_44 (f4_44) ⟨by omega, by omega⟩) (cwV 0 hts gv_X2_66 rfl rfl rfl hd_X2_failHere ⟨Nat.le_trans (by decide) hR1, Nat.le_trans (by decide) hR2⟩) (tf_preV hk hW ha0 (ci := 2) rfl rfl ⟨hs3_44, hst01_44, hcTKP_44, hs4_44⟩) rfl rfl hl.1 rfl (lv_room (Nat.le_of_ble_eq_true rfl)) dX2_read_117 ⟨Nat.le_trans (by omega) hR3, Nat.le_trans (by omega) hR4⟩) hW (by decide) (fun zH HH locsH hW hFH hpH => ?_)
        have hs2 := tf_keepF hFH ha0 rfl rfl (by decide) hs3_44
        have hs3 := tf_keepF hFH ht0 rfl rfl (by decide) hst00_44
        have hs4 := tf_keepF hFH ht0 rfl rfl (by decide) hst01_44
        have hs5 := tf_keepF hFH ht0 rfl rfl (by decide) hst02_44
        have hs6 := tf_keepC hFH hso rfl (by decide) hcTKS_44
        have hs7 := tf_keepC hFH hpo rfl (by decide) hcTKP_44
        have hs8 := tf_keepF hFH ha0 rfl rfl (by decide) hs4_44
        have hs9 := tf_keepF hFH ha0 rfl rfl (by decide) hs5_44
        have hs10 := tf_keepF hFH ha0 rfl rfl (by decide) hs6_44
        obtain ⟨hpH_0, hpH_1⟩ := hpH
        obtain ⟨fp1_H, hXH_0, hBH_0, hRH_0, hRH_1⟩ := hpH_1
        refine lv_pop hx hb dX2_read_120 rfl ?_
        refine lv_null hx hb dX2_read_121 ?_
        refine W.widen (k := 3) (n := 804) (by omega) (by omega) ?_
        exact tf_retA hx hb hr (by first | exact Or.inl ⟨_, rfl⟩ | exact Or.inr ⟨_, rfl⟩) (by first | exact Or.inl rfl | exact Or.inr ⟨_, rfl⟩) hlocks hQ hW ⟨tf_u2n, ⟨(fp1_H), (rTKS_44), (rTKP_44), (ft02_44), hXH_0, ⟨by omega, by omega⟩, (by first | assumption | omega), (Or.inl ⟨rfl, tf_FIN_5 hi3_44 (by omega) rfl (by omega)⟩)⟩⟩ dX2_read_122
      · refine lv_aload_n hx hb dX2_read_50 rfl (lv_at hl 0 rfl) ?_
        refine lv_iload_n hx hb dX2_read_51 rfl (lv_at hl 1 rfl) ?_
        refine tf_calli (va_runV (As := [.int (Int32.ofInt x3_44)]) (rest := []) ⟨hx, hb, hml, hown, hts⟩ (c_X2_readClause l g T a0 ha0 (x3_44) ⟨by omega, by omega⟩ t0 ht0 so hso po hpo (ft02_44) ⟨by omega, by omega⟩ rTKS_44 rTKP_44 (f4_44) ⟨by omega, by omega⟩ (f5_44) ⟨by omega, by omega⟩ (f6_44) ⟨by omega, by omega⟩ (f7_44) ⟨by omega, by omega⟩ (by first | assumption | omega) (by first | assumption | omega) hi0_44.2.2.1) (cwV 1 hts gv_X2_48 rfl rfl rfl hd_X2_readClause ⟨Nat.le_trans (by decide) hR1, Nat.le_trans (by decide) hR2⟩) (tf_preV hk hW ha0 (ci := 2) rfl rfl ⟨hs3_44, hst02_44, hst00_44, hst01_44, hcTKS_44, hcTKP_44, hs4_44, hs5_44, hs6_44, hs7_44⟩) rfl rfl hl.1 rfl (lv_room (Nat.le_of_ble_eq_true rfl)) dX2_read_52 ⟨Nat.le_trans (by omega) hR3, Nat.le_trans (by omega) hR4⟩) hW (by decide) (fun zC HC locsC hW hFC hpC => ?_)
        have hs11 := tf_keepF hFC ha0 rfl rfl (by decide) hs3_44
        have hs12 := tf_keepF hFC ht0 rfl rfl (by decide) hst00_44
        have hs13 := tf_keepF hFC ht0 rfl rfl (by decide) hst01_44
        have hs14 := tf_keepF hFC ht0 rfl rfl (by decide) hst02_44
        have hs15 := tf_keepC hFC hso rfl (by decide) hcTKS_44
        have hs16 := tf_keepC hFC hpo rfl (by decide) hcTKP_44
        obtain ⟨hpC_0, hpC_1⟩ := hpC
        obtain ⟨k1_C, t1_C, lv1_C, fp1_C, hXC_0, hXC_1, hXC_2, hXC_3, hBC_0, hBC_1, hBC_2, hBC_3, hRC_0, hRC_1, hRC_2, hRC_3, hRC_4, hRC_5⟩ := hpC_1
        refine tf_if_ne (tgt := 60) hx hb ⟨by omega, by omega⟩ dX2_read_55 (by decide) (fun h17 => ?_) (fun h17 => ?_)
        · refine lv_aload_n hx hb dX2_read_60 rfl (lv_at hl 0 rfl) ?_
          refine tf_get hx hb hts inlX2 hown hK (ci := 2) rfl hW ha0 rfl 5 rfl (by decide) (hts _ fl_X2_32) dX2_read_61 (fun v18 hv18 hsv18 => ?_)
          obtain rfl : v18 = .int (Int32.ofInt t1_C) := Option.some.inj (hsv18.symm.trans hXC_1)
          refine tf_if_ne (tgt := 98) hx hb ⟨by omega, by omega⟩ dX2_read_64 (by decide) (fun h19 => ?_) (fun h19 => ?_)
          · refine lv_aload_n hx hb dX2_read_98 rfl (lv_at hl 0 rfl) ?_
            refine tf_sipush hx hb dX2_read_99 (by decide) ?_
            refine tf_calli (va_runV (As := [.int (Int32.ofInt 1059)]) (rest := []) ⟨hx, hb, hml, hown, hts⟩ (c_X2_pass l g T a0 ha0 (1059) ⟨by omega, by omega⟩ t0 ht0 so hso po hpo (ft02_44) ⟨by omega, by omega⟩ rTKS_44 rTKP_44 (k1_C) ⟨by omega, by omega⟩ (t1_C) ⟨by omega, by omega⟩ (fp1_C) ⟨by omega, by omega⟩ (by first | assumption | omega) (by first | assumption | omega) hi0_44.2.2.1) (cwV 1 hts gv_X2_63 rfl rfl rfl hd_X2_pass ⟨Nat.le_trans (by decide) hR1, Nat.le_trans (by decide) hR2⟩) (tf_preV hk hW ha0 (ci := 2) rfl rfl ⟨hs11, hs14, hs12, hs13, hs15, hs16, hXC_0, hXC_1, hXC_3⟩) rfl rfl hl.1 rfl (lv_room (Nat.le_of_ble_eq_true rfl)) dX2_read_102 ⟨Nat.le_trans (by omega) hR3, Nat.le_trans (by omega) hR4⟩) hW (by decide) (fun zP HP locsP hW hFP hpP => ?_)
            have hs20 := tf_keepF hFP ha0 rfl rfl (by decide) hs11
            have hs21 := tf_keepF hFP ht0 rfl rfl (by decide) hs12
            have hs22 := tf_keepF hFP ht0 rfl rfl (by decide) hs13
            have hs23 := tf_keepF hFP ht0 rfl rfl (by decide) hs14
            have hs24 := tf_keepC hFP hso rfl (by decide) hs15
            have hs25 := tf_keepC hFP hpo rfl (by decide) hs16
            have hs26 := tf_keepF hFP ha0 rfl rfl (by decide) hXC_2
            obtain ⟨hpP_0, hpP_1⟩ := hpP
            obtain ⟨k1_P, t1_P, fp1_P, hXP_0, hXP_1, hXP_2, hBP_0, hBP_1, hBP_2, hRP_0, hRP_1, hRP_2⟩ := hpP_1
            refine tf_if_ne (tgt := 110) hx hb ⟨by omega, by omega⟩ dX2_read_105 (by decide) (fun h27 => ?_) (fun h27 => ?_)
            · refine lv_iinc (v := Int32.ofInt ((x3_44 + 1))) (lv' := [(3, .int (Int32.ofInt ((x3_44 + 1)))), (0, .ref a0)]) hx hb dX2_read_110 hl (k := 1) rfl (Int32.ofInt_add _ _).symm (by decide) rfl (fun ls hl => ?_)
              refine lv_goto (tgt := 44) hx hb dX2_read_113 (by decide) ?_
              exact ih_44 ((x3_44 + 1)) ⟨by omega, by omega⟩ (ft02_44) ⟨by omega, by omega⟩ rTKS_44 (trivial) rTKP_44 (trivial) (k1_P) ⟨by omega, by omega⟩ (t1_P) ⟨by omega, by omega⟩ (lv1_C) ⟨by omega, by omega⟩ (fp1_P) ⟨by omega, by omega⟩ (by first | assumption | omega) (by first | assumption | omega) (by first | assumption | omega) (by first | exact tf_Re_rf | exact (hi3_44.trans ((tf_RD_yes hRC_3 (by omega)).trans (tf_Re_1 (tf_c_semi (by omega) (by omega)))))) (by first | assumption | omega) (by omega) _ _ hW hs20 hs21 hs22 hs23 hs24 hs25 hXP_0 hXP_1 hs26 hXP_2 _ (lv_sub hl [1, 0] rfl)
            · refine lv_null hx hb dX2_read_108 ?_
              refine W.widen (k := 3) (n := 804) (by omega) (by omega) ?_
              exact tf_retA hx hb hr (by first | exact Or.inl ⟨_, rfl⟩ | exact Or.inr ⟨_, rfl⟩) (by first | exact Or.inl rfl | exact Or.inr ⟨_, rfl⟩) hlocks hQ hW ⟨tf_u2n, ⟨(fp1_P), (rTKS_44), (rTKP_44), (ft02_44), hXP_2, ⟨by omega, by omega⟩, (by first | assumption | omega), (Or.inl ⟨rfl, tf_FIN_6 (hi3_44.trans (tf_RD_yes hRC_3 (by omega))) (by omega) (by omega) rfl (by omega)⟩)⟩⟩ dX2_read_109
          · have hsz28 := hW.2.2.1.1
            refine tf_new (kr := 65) hx hb hts inlX1 tyX1 tyX1_ok hown (hts _ (tw20 (i := 3) rfl)) (hts _ (tw20 (i := 4) rfl)) (hts _ (tw20 (i := 5) rfl)) hK (ci := 1) rfl hW rfl ⟨rfl, by decide⟩ (Nat.le_trans (by omega) hR3) (Nat.le_trans (by omega) hR4) dX2_read_67 (fun ad28 H28 T hq28 hT28 had28 hE28 hW ho28 => ?_)
            have hsz28 := Nat.le_trans hsz28 (Nat.le_of_eq hq28)
            have hs29 := tf_keepQ hs11 (ho28 _ _ ha0)
            have hs30 := tf_keepQ hs12 (ho28 _ _ ht0)
            have hs31 := tf_keepQ hs13 (ho28 _ _ ht0)
            have hs32 := tf_keepQ hs14 (ho28 _ _ ht0)
            have hs33 := tf_keepCQ hs15 (ho28 _ _ hso)
            have hs34 := tf_keepCQ hs16 (ho28 _ _ hpo)
            have hs35 := tf_keepQ hXC_0 (ho28 _ _ ha0)
            have hs36 := tf_keepQ hXC_1 (ho28 _ _ ha0)
            have hs37 := tf_keepQ hXC_2 (ho28 _ _ ha0)
            have hs38 := tf_keepQ hXC_3 (ho28 _ _ ha0)
            have ha0 := hE28 _ _ ha0
            have ha1 := hE28 _ _ ha1
            have ht0 := hE28 _ _ ht0
            have hso := hE28 _ _ hso
            have hpo := hE28 _ _ hpo
            refine lv_dup hx hb dX2_read_70 rfl ?_
            refine lv_aload_n hx hb dX2_read_71 rfl (lv_at hl 0 rfl) ?_
            refine tf_get hx hb hts inlX2 hown hK (ci := 2) rfl hW ha0 rfl 0 rfl (by decide) (hts _ fl_X2_9) dX2_read_72 (fun v39 hv39 hsv39 => ?_)
            obtain ⟨ad40, rfl, had40⟩ := tf_v1 hv39
            refine lv_aload_n hx hb dX2_read_75 rfl (lv_at hl 0 rfl) ?_
            refine tf_get hx hb hts inlX2 hown hK (ci := 2) rfl hW ha0 rfl 1 rfl (by decide) (hts _ fl_X2_15) dX2_read_76 (fun v41 hv41 hsv41 => ?_)
            obtain ⟨z42, rfl, hz42⟩ := tf_v0 hv41
            refine tf_callA (va_runS (As := [.ref ad40, .int (Int32.ofInt z42)]) (rest := [.ref ad28, .ref ad28]) ⟨hx, hb, hml, hown, hts⟩ (c_J7_copyOf_59c91 l g T ad40 401 had40 (by omega) (z42) ⟨by omega, by omega⟩) ⟨callB_of 2 hts (gw_ws cm_J7_copyOf_59c91) rfl rfl rfl (hts _ (tw26 (i := 8) rfl)) (hts _ (tw26 (i := 6) rfl)) hd_J7_copyOf_59c91.2 ⟨Nat.le_trans (by decide) hR1, Nat.le_trans (by decide) hR2⟩, hts _ (tw26 (i := 7) rfl)⟩ (tf_preS hk hW trivial) rfl rfl hl.1 rfl (lv_room (Nat.le_of_ble_eq_true rfl)) dX2_read_79 ⟨Nat.le_trans (by omega) hR3, Nat.le_trans (by omega) hR4⟩) hW (by decide) (fun z43 H43 locs43 T hW hE43 hF43 hp43 => ?_)
            have hs44 := tf_keepF hF43 ha0 rfl rfl (by decide) hs29
            have hs45 := tf_keepF hF43 ht0 rfl rfl (by decide) hs30
            have hs46 := tf_keepF hF43 ht0 rfl rfl (by decide) hs31
            have hs47 := tf_keepF hF43 ht0 rfl rfl (by decide) hs32
            have hs48 := tf_keepC hF43 hso rfl (by decide) hs33
            have hs49 := tf_keepC hF43 hpo rfl (by decide) hs34
            have hs50 := tf_keepF hF43 ha0 rfl rfl (by decide) hs35
            have hs51 := tf_keepF hF43 ha0 rfl rfl (by decide) hs36
            have hs52 := tf_keepF hF43 ha0 rfl rfl (by decide) hs37
            have hs53 := tf_keepF hF43 ha0 rfl rfl (by decide) hs38
            have ha0 := hE43 _ _ ha0
            have ha1 := hE43 _ _ ha1
            have had28 := hE43 _ _ had28
            have ht0 := hE43 _ _ ht0
            have hso := hE43 _ _ hso
            have hpo := hE43 _ _ hpo
            have hv43 : tf_v T 0 (3, 11, 401, 0, 0) z43 := hp43
            obtain ⟨ad54, il54, rfl, had54, hil54⟩ := tf_v3 hv43
            refine lv_aload_n hx hb dX2_read_82 rfl (lv_at hl 0 rfl) ?_
            refine tf_get hx hb hts inlX2 hown hK (ci := 2) rfl hW ha0 rfl 2 rfl (by decide) (hts _ fl_X2_19) dX2_read_83 (fun v55 hv55 hsv55 => ?_)
            obtain ⟨ad56, rfl, had56⟩ := tf_v1 hv55
            refine tf_iconst hx hb dX2_read_86 ?_
            refine lv_iload_n hx hb dX2_read_87 rfl (lv_at hl 1 rfl) ?_
            refine tf_imul hx hb dX2_read_88 ?_
            refine tf_iconst hx hb dX2_read_89 ?_
            refine tf_iadd hx hb dX2_read_90 ?_
            refine tf_callA (va_runS (As := [.ref ad56, .int (Int32.ofInt (((2 * x3_44) + 3)))]) (rest := [.ref ad54, .ref ad28, .ref ad28]) ⟨hx, hb, hml, hown, hts⟩ (c_J7_copyOf_59c91 l g T ad56 25 had56 (by omega) (((2 * x3_44) + 3)) ⟨by omega, by omega⟩) ⟨callB_of 2 hts (gw_ws cm_J7_copyOf_59c91) rfl rfl rfl (hts _ (tw26 (i := 8) rfl)) (hts _ (tw26 (i := 6) rfl)) hd_J7_copyOf_59c91.2 ⟨Nat.le_trans (by decide) hR1, Nat.le_trans (by decide) hR2⟩, hts _ (tw26 (i := 7) rfl)⟩ (tf_preS hk hW trivial) rfl rfl hl.1 rfl (lv_room (Nat.le_of_ble_eq_true rfl)) dX2_read_91 ⟨Nat.le_trans (by omega) hR3, Nat.le_trans (by omega) hR4⟩) hW (by decide) (fun z57 H57 locs57 T hW hE57 hF57 hp57 => ?_)
            have hs58 := tf_keepF hF57 ha0 rfl rfl (by decide) hs44
            have hs59 := tf_keepF hF57 ht0 rfl rfl (by decide) hs45
            have hs60 := tf_keepF hF57 ht0 rfl rfl (by decide) hs46
            have hs61 := tf_keepF hF57 ht0 rfl rfl (by decide) hs47
            have hs62 := tf_keepC hF57 hso rfl (by decide) hs48
            have hs63 := tf_keepC hF57 hpo rfl (by decide) hs49
            have hs64 := tf_keepF hF57 ha0 rfl rfl (by decide) hs50
            have hs65 := tf_keepF hF57 ha0 rfl rfl (by decide) hs51
            have hs66 := tf_keepF hF57 ha0 rfl rfl (by decide) hs52
            have hs67 := tf_keepF hF57 ha0 rfl rfl (by decide) hs53
            have ha0 := hE57 _ _ ha0
            have ha1 := hE57 _ _ ha1
            have had28 := hE57 _ _ had28
            have had54 := hE57 _ _ had54
            have ht0 := hE57 _ _ ht0
            have hso := hE57 _ _ hso
            have hpo := hE57 _ _ hpo
            have hv57 : tf_v T 0 (3, 11, 401, 0, 0) z57 := hp57
            obtain ⟨ad68, il68, rfl, had68, hil68⟩ := tf_v3 hv57
            refine tf_callC (va_runI (As := [.ref ad54, .ref ad68]) (rest := [.ref ad28]) ⟨hx, hb, hml, hown, hts⟩ (c_X1_init l g T ad28 had28 ad54 il54 had54 (by omega) ad68 il68 had68 (by omega)) ⟨callB_of 2 hts (gw_ws cm_X1_init) rfl rfl rfl (hts _ (tw20 (i := 5) rfl)) (hts _ (tw26 (i := 21) rfl)) hd_X1_init.2 ⟨Nat.le_trans (by decide) hR1, Nat.le_trans (by decide) hR2⟩, rfl, hts _ (tw26 (i := 22) rfl)⟩ (tf_preS hk hW trivial) rfl rfl hl.1 rfl (lv_room (Nat.le_of_ble_eq_true rfl)) dX2_read_94 ⟨Nat.le_trans (by omega) hR3, Nat.le_trans (by omega) hR4⟩) hW (by decide) (tf_fresh hW0 hsz28) hsz28 had28 (fun H69 locs69 T hW hn69 hE69 hF69 => ?_)
            have hs70 := tf_keepF hF69 ha0 rfl rfl (by decide) hs58
            have hs71 := tf_keepF hF69 ht0 rfl rfl (by decide) hs59
            have hs72 := tf_keepF hF69 ht0 rfl rfl (by decide) hs60
            have hs73 := tf_keepF hF69 ht0 rfl rfl (by decide) hs61
            have hs74 := tf_keepC hF69 hso rfl (by decide) hs62
            have hs75 := tf_keepC hF69 hpo rfl (by decide) hs63
            have hs76 := tf_keepF hF69 ha0 rfl rfl (by decide) hs64
            have hs77 := tf_keepF hF69 ha0 rfl rfl (by decide) hs65
            have hs78 := tf_keepF hF69 ha0 rfl rfl (by decide) hs66
            have hs79 := tf_keepF hF69 ha0 rfl rfl (by decide) hs67
            have ha0 := hE69 _ _ (tf_ne ha0 had28 (by decide)) ha0
            have ha1 := hE69 _ _ (tf_ne ha1 had28 (by decide)) ha1
            have ht0 := hE69 _ _ (tf_ne ht0 had28 (by decide)) ht0
            have hso := hE69 _ _ (tf_ne hso had28 (by decide)) hso
            have hpo := hE69 _ _ (tf_ne hpo had28 (by decide)) hpo
            refine W.widen (k := 3) (n := 804) (by omega) (by omega) ?_
            exact tf_retA hx hb hr (by first | exact Or.inl ⟨_, rfl⟩ | exact Or.inr ⟨_, rfl⟩) (by first | exact Or.inl rfl | exact Or.inr ⟨_, rfl⟩) hlocks hQ hW ⟨tf_u2 hn69, ⟨(fp1_C), (rTKS_44), (rTKP_44), (ft02_44), hs79, ⟨by omega, by omega⟩, (by first | assumption | omega), (Or.inr ⟨fun h => (by cases h), tf_FIN_7 (hi3_44.trans (tf_RD_yes hRC_3 (by omega))) (by omega) rfl (by omega)⟩)⟩⟩ dX2_read_97
        · refine lv_null hx hb dX2_read_58 ?_
          refine W.widen (k := 3) (n := 804) (by omega) (by omega) ?_
          exact tf_retA hx hb hr (by first | exact Or.inl ⟨_, rfl⟩ | exact Or.inr ⟨_, rfl⟩) (by first | exact Or.inl rfl | exact Or.inr ⟨_, rfl⟩) hlocks hQ hW ⟨tf_u2n, ⟨(fp1_C), (rTKS_44), (rTKP_44), (ft02_44), hXC_3, ⟨by omega, by omega⟩, (by first | assumption | omega), (Or.inl ⟨rfl, tf_FIN_r (tf_RD_re hi3_44 hRC_3) (by omega) rfl⟩)⟩⟩ dX2_read_59
  refine tf_enter (As := [.ref a0, .ref a1, .int (Int32.ofInt x2)]) hargs (Nat.le_of_ble_eq_true rfl) (fun ls hl => ?_)
  have hl : lv_has ls 4 [(0, .ref a0), (1, .ref a1), (2, .int (Int32.ofInt x2))] := hl
  refine lv_aload_n hx hb dX2_read_0 rfl (lv_at hl 0 rfl) ?_
  refine tf_get hx hb hts inlX2 hown hK (ci := 2) rfl hW ha0 rfl 3 rfl (by decide) (hts _ fl_X2_25) dX2_read_1 (fun v80 hv80 hsv80 => ?_)
  obtain rfl : v80 = .ref t0 := Option.some.inj (hsv80.symm.trans he0)
  refine lv_aload_n hx hb dX2_read_4 rfl (lv_at hl 1 rfl) ?_
  refine lv_iload_n hx hb dX2_read_5 rfl (lv_at hl 2 rfl) ?_
  obtain ⟨r81, hr81⟩ := tf_rname hW so
  obtain ⟨r82, hr82⟩ := tf_rname hW po
  refine tf_callv (va_runV (As := [.ref a1, .int (Int32.ofInt x2)]) (rest := []) ⟨hx, hb, hml, hown, hts⟩ (c_X4_cut l g T t0 ht0 a1 ha1 (x2) ⟨by omega, by omega⟩ so hso po hpo tp r81 r82) (cwV 2 hts gv_X2_41 rfl rfl rfl hd_X4_cut ⟨Nat.le_trans (by decide) hR1, Nat.le_trans (by decide) hR2⟩) (tf_preV hk hW ht0 (ci := 4) rfl rfl ⟨he1, he2, he3, hr81, hr82⟩) rfl rfl hl.1 rfl (lv_room (Nat.le_of_ble_eq_true rfl)) dX2_read_6 ⟨Nat.le_trans (by omega) hR3, Nat.le_trans (by omega) hR4⟩) hW (by decide) (fun HT locsT hW hFT hpT => ?_)
  have hs83 := tf_keepF hFT ha0 rfl rfl (by decide) he0
  have hs84 := tf_keepF hFT ht0 rfl rfl (by decide) he1
  have hs85 := tf_keepF hFT ht0 rfl rfl (by decide) he2
  have hs86 := tf_keepC hFT ha1 rfl (by decide) he3
  obtain ⟨mm_T, ss1_T, pp1_T, hXT_0, hXT_1, hXT_2, hBT_0, hRT_0⟩ := hpT
  refine lv_aload_n hx hb dX2_read_9 rfl (lv_at hl 0 rfl) ?_
  refine tf_iconst hx hb dX2_read_10 ?_
  refine tf_put hx hb hts inlX2 tyX2 tyX2_ok nmX2 hown hK (ci := 2) rfl hW ha0 rfl rfl 4 rfl (by decide) (by decide) (hts _ fl_X2_29) rfl (tf_u0 (by omega) (by omega)) rfl rfl dX2_read_11 (fun H87 locs87 hW hs87 ht87 hq87 => ?_)
  have hs88 := (ht87 3 (by decide) (by decide)).trans hs83
  have hs89 := tf_keepQ hs84 (hq87 _ (tf_ne ht0 ha0 (by decide)))
  have hs90 := tf_keepQ hs85 (hq87 _ (tf_ne ht0 ha0 (by decide)))
  have hs91 := tf_keepCQ hs86 (hq87 _ (tf_ne ha1 ha0 (by decide)))
  have hs92 := tf_keepQ hXT_0 (hq87 _ (tf_ne ht0 ha0 (by decide)))
  have hs93 := tf_keepCQ hXT_1 (hq87 _ (tf_ne hso ha0 (by decide)))
  have hs94 := tf_keepCQ hXT_2 (hq87 _ (tf_ne hpo ha0 (by decide)))
  refine lv_aload_n hx hb dX2_read_14 rfl (lv_at hl 0 rfl) ?_
  refine lv_aload_n hx hb dX2_read_15 rfl (lv_at hl 0 rfl) ?_
  refine tf_get hx hb hts inlX2 hown hK (ci := 2) rfl hW ha0 rfl 3 rfl (by decide) (hts _ fl_X2_25) dX2_read_16 (fun v95 hv95 hsv95 => ?_)
  obtain rfl : v95 = .ref t0 := Option.some.inj (hsv95.symm.trans hs88)
  refine tf_get hx hb hts inlX4 hown hK (ci := 4) rfl hW ht0 rfl 0 rfl (by decide) (hts _ fl_X2_45) dX2_read_19 (fun v96 hv96 hsv96 => ?_)
  obtain rfl : v96 = .ref so := Option.some.inj (hsv96.symm.trans hs89)
  refine tf_iconst hx hb dX2_read_22 ?_
  refine tf_iald (t0 := 0) hx hb hK hW hso rfl rfl (by omega) (by omega) dX2_read_23 (fun v97 hv97 hsv97 => ?_)
  obtain ⟨z98, rfl, hz98⟩ := tf_v0 hv97
  have er99 : ss1_T 0 = z98 := hs93 ▸ tf_rw_of (by omega) hsv97 ⟨by omega, by omega⟩
  refine tf_put hx hb hts inlX2 tyX2 tyX2_ok nmX2 hown hK (ci := 2) rfl hW ha0 rfl rfl 5 rfl (by decide) (by decide) (hts _ fl_X2_32) rfl (tf_u0 (by omega) (by omega)) rfl rfl dX2_read_24 (fun H100 locs100 hW hs100 ht100 hq100 => ?_)
  have hs101 := (ht100 3 (by decide) (by decide)).trans hs88
  have hs102 := tf_keepQ hs89 (hq100 _ (tf_ne ht0 ha0 (by decide)))
  have hs103 := tf_keepQ hs90 (hq100 _ (tf_ne ht0 ha0 (by decide)))
  have hs104 := tf_keepCQ hs91 (hq100 _ (tf_ne ha1 ha0 (by decide)))
  have hs105 := tf_keepQ hs92 (hq100 _ (tf_ne ht0 ha0 (by decide)))
  have hs106 := tf_keepCQ hs93 (hq100 _ (tf_ne hso ha0 (by decide)))
  have hs107 := tf_keepCQ hs94 (hq100 _ (tf_ne hpo ha0 (by decide)))
  have hs108 := (ht100 4 (by decide) (by decide)).trans hs87
  refine lv_aload_n hx hb dX2_read_27 rfl (lv_at hl 0 rfl) ?_
  refine tf_iconst hx hb dX2_read_28 ?_
  refine tf_put hx hb hts inlX2 tyX2 tyX2_ok nmX2 hown hK (ci := 2) rfl hW ha0 rfl rfl 1 rfl (by decide) (by decide) (hts _ fl_X2_15) rfl (tf_u0 (by omega) (by omega)) rfl rfl dX2_read_29 (fun H109 locs109 hW hs109 ht109 hq109 => ?_)
  have hs110 := (ht109 3 (by decide) (by decide)).trans hs101
  have hs111 := tf_keepQ hs102 (hq109 _ (tf_ne ht0 ha0 (by decide)))
  have hs112 := tf_keepQ hs103 (hq109 _ (tf_ne ht0 ha0 (by decide)))
  have hs113 := tf_keepCQ hs104 (hq109 _ (tf_ne ha1 ha0 (by decide)))
  have hs114 := tf_keepQ hs105 (hq109 _ (tf_ne ht0 ha0 (by decide)))
  have hs115 := tf_keepCQ hs106 (hq109 _ (tf_ne hso ha0 (by decide)))
  have hs116 := tf_keepCQ hs107 (hq109 _ (tf_ne hpo ha0 (by decide)))
  have hs117 := (ht109 4 (by decide) (by decide)).trans hs108
  have hs118 := (ht109 5 (by decide) (by decide)).trans hs100
  refine lv_aload_n hx hb dX2_read_32 rfl (lv_at hl 0 rfl) ?_
  refine tf_iconst hx hb dX2_read_33 ?_
  refine tf_put hx hb hts inlX2 tyX2 tyX2_ok nmX2 hown hK (ci := 2) rfl hW ha0 rfl rfl 6 rfl (by decide) (by decide) (hts _ fl_X2_35) rfl (tf_u0 (by omega) (by omega)) rfl rfl dX2_read_34 (fun H119 locs119 hW hs119 ht119 hq119 => ?_)
  have hs120 := (ht119 3 (by decide) (by decide)).trans hs110
  have hs121 := tf_keepQ hs111 (hq119 _ (tf_ne ht0 ha0 (by decide)))
  have hs122 := tf_keepQ hs112 (hq119 _ (tf_ne ht0 ha0 (by decide)))
  have hs123 := tf_keepCQ hs113 (hq119 _ (tf_ne ha1 ha0 (by decide)))
  have hs124 := tf_keepQ hs114 (hq119 _ (tf_ne ht0 ha0 (by decide)))
  have hs125 := tf_keepCQ hs115 (hq119 _ (tf_ne hso ha0 (by decide)))
  have hs126 := tf_keepCQ hs116 (hq119 _ (tf_ne hpo ha0 (by decide)))
  have hs127 := (ht119 4 (by decide) (by decide)).trans hs117
  have hs128 := (ht119 5 (by decide) (by decide)).trans hs118
  refine lv_aload_n hx hb dX2_read_37 rfl (lv_at hl 0 rfl) ?_
  refine tf_iconst hx hb dX2_read_38 ?_
  refine tf_put hx hb hts inlX2 tyX2 tyX2_ok nmX2 hown hK (ci := 2) rfl hW ha0 rfl rfl 7 rfl (by decide) (by decide) (hts _ fl_X2_38) rfl (tf_u0 (by omega) (by omega)) rfl rfl dX2_read_39 (fun H129 locs129 hW hs129 ht129 hq129 => ?_)
  have hs130 := (ht129 3 (by decide) (by decide)).trans hs120
  have hs131 := tf_keepQ hs121 (hq129 _ (tf_ne ht0 ha0 (by decide)))
  have hs132 := tf_keepQ hs122 (hq129 _ (tf_ne ht0 ha0 (by decide)))
  have hs133 := tf_keepCQ hs123 (hq129 _ (tf_ne ha1 ha0 (by decide)))
  have hs134 := tf_keepQ hs124 (hq129 _ (tf_ne ht0 ha0 (by decide)))
  have hs135 := tf_keepCQ hs125 (hq129 _ (tf_ne hso ha0 (by decide)))
  have hs136 := tf_keepCQ hs126 (hq129 _ (tf_ne hpo ha0 (by decide)))
  have hs137 := (ht129 4 (by decide) (by decide)).trans hs127
  have hs138 := (ht129 5 (by decide) (by decide)).trans hs128
  have hs139 := (ht129 6 (by decide) (by decide)).trans hs119
  refine tf_iconst hx hb dX2_read_42 ?_
  refine lv_istore_n (lv' := [(3, .int (Int32.ofInt 0)), (0, .ref a0), (1, .ref a1), (2, .int (Int32.ofInt x2))]) hx hb dX2_read_43 rfl hl (by decide) rfl (fun ls hl => ?_)
  exact j_44 ((12 - 0 + 1 : Int)).toNat (0) ⟨by omega, by omega⟩ (mm_T) ⟨by omega, by omega⟩ ss1_T (trivial) pp1_T (trivial) (0) ⟨by omega, by omega⟩ (z98) ⟨by omega, by omega⟩ (0) ⟨by omega, by omega⟩ ((-1)) ⟨by omega, by omega⟩ (by first | assumption | omega) (by first | assumption | omega) (by first | assumption | omega) (by first | exact tf_Re_rf | exact (hi3_44.trans ((tf_RD_yes hRC_3 (by omega)).trans (tf_Re_1 (tf_c_semi (by omega) (by omega)))))) (by first | assumption | omega) (by omega) _ _ hW hs130 hs131 hs132 hs134 hs135 hs136 hs137 hs138 hs139 hs129 _ (lv_sub hl [1, 0] rfl)

abbrev M_X9_law : List (Nat × Nat) := [(0, 0), (11, 0), (13, 0), (14, 0), (24, 0), (25, 0), (30, 1), (30, 4), (30, 5), (30, 6), (30, 7), (31, 8), (34, 2), (34, 3), (34, 4), (36, 2), (36, 6), (36, 10), (39, 7), (39, 9), (39, 13), (65, 0), (65, 1)]
set_option maxHeartbeats 4000000 in
set_option maxRecDepth 100000 in
theorem c_X9_law (l : Launch) (g : tf_G) (T : tf_T) (a0 : Nat) (ha0 : T a0 = some (39, 0)) (sq : Nat) (hsq : T sq = some (31, 0)) (ta : Nat) (hta : T ta = some (3, 400)) (lm : Int) (hlm : 0 ≤ lm ∧ lm ≤ 6) (fp : Int) (hfp : (-2147483648) ≤ fp ∧ fp ≤ 2147483647) (t0 : Int) (ht0 : 0 ≤ t0 ∧ t0 ≤ 400) (tp : Int → Int) : Met l yX9_law (cd_X9_law :: wsL_law) ({ frames := 73, cells := 3, slots := 804, locals := 1137 }) (tf_P g T [.ref a0] (fun H => tf_s H a0 (g.1.2 9 0) = some (.ref sq) ∧ tf_s H sq (g.1.2 3 8) = some (.int (Int32.ofInt lm)) ∧ tf_s H a0 (g.1.2 9 9) = some (.int (Int32.ofInt fp)) ∧ tf_s H a0 (g.1.2 9 7) = some (.int (Int32.ofInt t0)) ∧ tf_s H a0 (g.1.2 9 6) = some (.ref ta) ∧ tf_rw H ta = tp)) (tf_QI g M_X9_law T (fun T z _ H => (-2147483648) ≤ z ∧ z ≤ 2147483647 ∧ (∃ (t1 fp1 lm1 : Int) (ss : Int → Int) (pp : Int → Int) (mm : Int), tf_s H a0 (g.1.2 9 7) = some (.int (Int32.ofInt t1)) ∧ tf_s H a0 (g.1.2 9 9) = some (.int (Int32.ofInt fp1)) ∧ tf_s H sq (g.1.2 3 8) = some (.int (Int32.ofInt lm1)) ∧ (0 ≤ t1 ∧ t1 ≤ 400) ∧ ((-2147483648) ≤ fp1 ∧ fp1 ≤ 2147483647) ∧ (0 ≤ lm1 ∧ lm1 ≤ 6) ∧ (t1 = 0) ∧ (tf_LR lm lm1 fp fp1 z t0 tp ss pp mm)))) 3 804 (fun q => tf_B g ≤ q) := by
  refine Met.ofW (cc := cX9_law) (maxL := 3) (ret := (some .int)) (by decide) rfl ?_
  intro p e s m args below meth c s₁ B hml hv
  obtain ⟨hargs, hk, hW0, hB, hpre⟩ := hv
  obtain ⟨he0, he1, he2, he3, he4, he5⟩ := hpre
  have hx := B.exec
  have hb := B.bytes
  have hr := B.returns
  have hts : ∀ w ∈ wsL_law, w.before args s = true := fun w h => atoms_spec (ws := cd_X9_law :: wsL_law) B.pre w (List.mem_cons_of_mem _ h)
  have hown : s.vm.findClass RX9 = some m.cls := findClass_of_methodNamed B.named
  have hlocks := B.notSynchronized
  have hK := hk.1
  have hW := tf_n.start (M := M_X9_law) hW0 hB
  obtain ⟨Q, hQ⟩ : ∃ q, q = MQ below (tf_QI g M_X9_law T (fun T z _ H => (-2147483648) ≤ z ∧ z ≤ 2147483647 ∧ (∃ (t1 fp1 lm1 : Int) (ss : Int → Int) (pp : Int → Int) (mm : Int), tf_s H a0 (g.1.2 9 7) = some (.int (Int32.ofInt t1)) ∧ tf_s H a0 (g.1.2 9 9) = some (.int (Int32.ofInt fp1)) ∧ tf_s H sq (g.1.2 3 8) = some (.int (Int32.ofInt lm1)) ∧ (0 ≤ t1 ∧ t1 ≤ 400) ∧ ((-2147483648) ≤ fp1 ∧ fp1 ≤ 2147483647) ∧ (0 ≤ lm1 ∧ lm1 ≤ 6) ∧ (t1 = 0) ∧ (tf_LR lm lm1 fp fp1 z t0 tp ss pp mm)))) args s 3 804 (fun q => tf_B g ≤ q) := ⟨_, rfl⟩
  rw [← hQ]
  obtain ⟨R, hR⟩ : ∃ q, q = (headSpec (cd_X9_law :: wsL_law) ({ frames := 73, cells := 3, slots := 804, locals := 1137 })).room := ⟨_, rfl⟩
  rw [← hR]
  have hR1 : 73 ≤ R.frames := by rw [hR]; exact Nat.le_refl _
  have hR2 : 1137 ≤ R.locals := by rw [hR]; exact Nat.le_refl _
  have hR3 : 3 ≤ R.cells := by rw [hR]; exact Nat.le_refl _
  have hR4 : 804 ≤ R.slots := by rw [hR]; exact Nat.le_refl _
  have hin := (name_of_methodNamed B.named B.method).1
  clear hR B
  refine tf_enter (As := [.ref a0]) hargs (Nat.le_of_ble_eq_true rfl) (fun ls hl => ?_)
  have hl : lv_has ls 3 [(0, .ref a0)] := hl
  refine lv_aload_n hx hb dX9_law_0 rfl (lv_at hl 0 rfl) ?_
  refine tf_get hx hb hts inlX9 hown hK (ci := 9) rfl hW ha0 rfl 7 rfl (by decide) (hts _ fl_X9_48) dX9_law_1 (fun v1 hv1 hsv1 => ?_)
  obtain rfl : v1 = .int (Int32.ofInt t0) := Option.some.inj (hsv1.symm.trans he3)
  refine lv_istore_n (lv' := [(1, .int (Int32.ofInt t0)), (0, .ref a0)]) hx hb dX9_law_4 rfl hl (by decide) rfl (fun ls hl => ?_)
  refine lv_aload_n hx hb dX9_law_5 rfl (lv_at hl 1 rfl) ?_
  refine tf_iconst hx hb dX9_law_6 ?_
  refine tf_put hx hb hts inlX9 tyX9 tyX9_ok nmX9 hown hK (ci := 9) rfl hW ha0 rfl rfl 7 rfl (by decide) (by decide) (hts _ fl_X9_48) rfl (tf_u0 (by omega) (by omega)) rfl rfl dX9_law_7 (fun H2 locs2 hW hs2 ht2 hq2 => ?_)
  have hs3 := (ht2 0 (by decide) (by decide)).trans he0
  have hs4 := tf_keepQ he1 (hq2 _ (tf_ne hsq ha0 (by decide)))
  have hs5 := (ht2 9 (by decide) (by decide)).trans he2
  have hs6 := (ht2 6 (by decide) (by decide)).trans he4
  have hs7 := tf_keepCQ he5 (hq2 _ (tf_ne hta ha0 (by decide)))
  refine lv_aload_n hx hb dX9_law_10 rfl (lv_at hl 1 rfl) ?_
  refine tf_get hx hb hts inlX9 hown hK (ci := 9) rfl hW ha0 rfl 0 rfl (by decide) (hts _ fl_X9_10) dX9_law_11 (fun v8 hv8 hsv8 => ?_)
  obtain rfl : v8 = .ref sq := Option.some.inj (hsv8.symm.trans hs3)
  refine tf_get hx hb hts inlX3 hown hK (ci := 3) rfl hW hsq rfl 8 rfl (by decide) (hts _ fl_X9_164) dX9_law_14 (fun v9 hv9 hsv9 => ?_)
  obtain rfl : v9 = .int (Int32.ofInt lm) := Option.some.inj (hsv9.symm.trans hs4)
  refine tf_bipush hx hb dX9_law_17 (by decide) ?_
  refine tf_icmp_lt (tgt := 29) hx hb ⟨by omega, by omega⟩ ⟨by decide, by decide⟩ dX9_law_19 (by decide) (fun h10 => ?_) (fun h10 => ?_)
  · refine lv_aload_n hx hb dX9_law_29 rfl (lv_at hl 1 rfl) ?_
    refine tf_get hx hb hts inlX9 hown hK (ci := 9) rfl hW ha0 rfl 4 rfl (by decide) (hts _ fl_X9_37) dX9_law_30 (fun v11 hv11 hsv11 => ?_)
    obtain ⟨ad12, rfl, had12⟩ := tf_v1 hv11
    refine lv_aload_n hx hb dX9_law_33 rfl (lv_at hl 1 rfl) ?_
    refine tf_get hx hb hts inlX9 hown hK (ci := 9) rfl hW ha0 rfl 6 rfl (by decide) (hts _ fl_X9_45) dX9_law_34 (fun v13 hv13 hsv13 => ?_)
    obtain rfl : v13 = .ref ta := Option.some.inj (hsv13.symm.trans hs6)
    refine lv_iload_n hx hb dX9_law_37 rfl (lv_at hl 0 rfl) ?_
    obtain ⟨pv14, hpv14, hok14⟩ := tf_peek hW had12 (ci := 2) rfl 3 rfl
    obtain ⟨ad15, rfl, had15⟩ := tf_v1 hok14
    obtain ⟨pv16, hpv16, hok16⟩ := tf_peek hW had15 (ci := 4) rfl 0 rfl
    obtain ⟨ad17, rfl, had17⟩ := tf_v1 hok16
    obtain ⟨pv18, hpv18, hok18⟩ := tf_peek hW had15 (ci := 4) rfl 1 rfl
    obtain ⟨ad19, rfl, had19⟩ := tf_v1 hok18
    refine tf_callA (va_runV (As := [.ref ta, .int (Int32.ofInt t0)]) (rest := []) ⟨hx, hb, hml, hown, hts⟩ (c_X2_read l g T ad12 had12 ta hta (t0) ⟨by omega, by omega⟩ ad15 had15 ad17 had17 ad19 had19 tp) (cwV 2 hts gv_X9_167 rfl rfl rfl hd_X2_read ⟨Nat.le_trans (by decide) hR1, Nat.le_trans (by decide) hR2⟩) (tf_preV hk hW had12 (ci := 2) rfl rfl ⟨hpv14, hpv16, hpv18, hs7⟩) rfl rfl hl.1 rfl (lv_room (Nat.le_of_ble_eq_true rfl)) dX9_law_38 ⟨Nat.le_trans (by omega) hR3, Nat.le_trans (by omega) hR4⟩) hW (by decide) (fun zR HR locsR T hW hER hFR hpR => ?_)
    have hs20 := tf_keepF hFR ha0 rfl rfl (by decide) hs3
    have hs21 := tf_keepF hFR hsq rfl rfl (by decide) hs4
    have hs22 := tf_keepF hFR ha0 rfl rfl (by decide) hs5
    have hs23 := tf_keepF hFR ha0 rfl rfl (by decide) hs6
    have hs24 := tf_keepC hFR hta rfl (by decide) hs7
    have hs25 := tf_keepF hFR ha0 rfl rfl (by decide) hs2
    have hs26 := tf_keepF hFR ha0 rfl rfl (by decide) hsv11
    have hs27 := tf_keepF hFR had12 rfl rfl (by decide) hpv14
    have hs28 := tf_keepF hFR had15 rfl rfl (by decide) hpv16
    have hs29 := tf_keepF hFR had15 rfl rfl (by decide) hpv18
    have ha0 := hER _ _ ha0
    have hsq := hER _ _ hsq
    have hta := hER _ _ hta
    have had12 := hER _ _ had12
    have had15 := hER _ _ had15
    have had17 := hER _ _ had17
    have had19 := hER _ _ had19
    have hvR : tf_v T 0 (2, 29, 0, 0, 0) zR := hpR.1
    obtain ⟨fp1_R, ss_R, pp_R, mm_R, hXR_0, hBR_0, hRR_0, hRR_1⟩ := hpR.2
    rcases tf_v2 hvR with rfl | ⟨ad30, rfl, had30⟩
    · refine tf_Nastore_n (lv' := [(2, .null), (1, .int (Int32.ofInt t0)), (0, .ref a0)]) hx hb dX9_law_41 rfl hl (by decide) rfl (fun ls hl => ?_)
      refine lv_aload_n hx hb dX9_law_42 rfl (lv_at hl 2 rfl) ?_
      refine lv_aload_n hx hb dX9_law_43 rfl (lv_at hl 2 rfl) ?_
      refine tf_get hx hb hts inlX9 hown hK (ci := 9) rfl hW ha0 rfl 4 rfl (by decide) (hts _ fl_X9_37) dX9_law_44 (fun v31 hv31 hsv31 => ?_)
      obtain rfl : v31 = .ref ad12 := Option.some.inj (hsv31.symm.trans hs26)
      refine tf_get hx hb hts inlX2 hown hK (ci := 2) rfl hW had12 rfl 7 rfl (by decide) (hts _ fl_X9_171) dX9_law_47 (fun v32 hv32 hsv32 => ?_)
      obtain rfl : v32 = .int (Int32.ofInt fp1_R) := Option.some.inj (hsv32.symm.trans hXR_0)
      refine tf_put hx hb hts inlX9 tyX9 tyX9_ok nmX9 hown hK (ci := 9) rfl hW ha0 rfl rfl 9 rfl (by decide) (by decide) (hts _ fl_X9_55) rfl (tf_u0 (by omega) (by omega)) rfl rfl dX9_law_50 (fun H33 locs33 hW hs33 ht33 hq33 => ?_)
      have hs34 := (ht33 0 (by decide) (by decide)).trans hs20
      have hs35 := tf_keepQ hs21 (hq33 _ (tf_ne hsq ha0 (by decide)))
      have hs36 := (ht33 6 (by decide) (by decide)).trans hs23
      have hs37 := tf_keepCQ hs24 (hq33 _ (tf_ne hta ha0 (by decide)))
      have hs38 := (ht33 7 (by decide) (by decide)).trans hs25
      have hs39 := (ht33 4 (by decide) (by decide)).trans hs26
      have hs40 := tf_keepQ hs27 (hq33 _ (tf_ne had12 ha0 (by decide)))
      have hs41 := tf_keepQ hs28 (hq33 _ (tf_ne had15 ha0 (by decide)))
      have hs42 := tf_keepQ hs29 (hq33 _ (tf_ne had15 ha0 (by decide)))
      have hs43 := tf_keepQ hXR_0 (hq33 _ (tf_ne had12 ha0 (by decide)))
      refine tf_aloadN hx hb dX9_law_53 (lv_at hl 0 rfl) ?_
      refine lv_ifnonnullN hx hb dX9_law_54 ?_
      refine lv_aload_n hx hb dX9_law_57 rfl (lv_at hl 2 rfl) ?_
      refine tf_bipush hx hb dX9_law_58 (by decide) ?_
      refine tf_calli (va_runV (As := [.int (Int32.ofInt ((-6)))]) (rest := []) ⟨hx, hb, hml, hown, hts⟩ (c_X9_refuse l g T a0 ha0 ((-6)) ⟨by omega, by omega⟩) (cwV 1 hts gv_X9_75 rfl rfl rfl hd_X9_refuse ⟨Nat.le_trans (by decide) hR1, Nat.le_trans (by decide) hR2⟩) (tf_preV hk hW ha0 (ci := 9) rfl rfl trivial) rfl rfl hl.1 rfl (lv_room (Nat.le_of_ble_eq_true rfl)) dX9_law_60 ⟨Nat.le_trans (by omega) hR3, Nat.le_trans (by omega) hR4⟩) hW (by decide) (fun z44 H44 locs44 hW hF44 hp44 => ?_)
      have hs45 := tf_keepF hF44 ha0 rfl rfl (by decide) hs34
      have hs46 := tf_keepF hF44 hsq rfl rfl (by decide) hs35
      have hs47 := tf_keepF hF44 ha0 rfl rfl (by decide) hs36
      have hs48 := tf_keepC hF44 hta rfl (by decide) hs37
      have hs49 := tf_keepF hF44 ha0 rfl rfl (by decide) hs38
      have hs50 := tf_keepF hF44 ha0 rfl rfl (by decide) hs39
      have hs51 := tf_keepF hF44 had12 rfl rfl (by decide) hs40
      have hs52 := tf_keepF hF44 had15 rfl rfl (by decide) hs41
      have hs53 := tf_keepF hF44 had15 rfl rfl (by decide) hs42
      have hs54 := tf_keepF hF44 had12 rfl rfl (by decide) hs43
      have hs55 := tf_keepF hF44 ha0 rfl rfl (by decide) hs33
      obtain ⟨hp44_0, hp44_1, hp44_2⟩ := hp44
      refine W.widen (k := 3) (n := 804) (by omega) (by omega) ?_
      exact tf_retI (z := z44) hx hb hr hlocks hQ hW ⟨by omega, by omega, ⟨(0), (fp1_R), (lm), (ss_R), (pp_R), (mm_R), hs49, hs55, hs46, ⟨by omega, by omega⟩, ⟨by omega, by omega⟩, ⟨by omega, by omega⟩, (by first | assumption | omega), (Or.inr ⟨by omega, hRR_0, Or.inr ⟨by omega, by omega, (hRR_1.resolve_right (fun h => h.1 rfl)).2⟩⟩)⟩⟩ dX9_law_63
    · refine lv_astore_n (lv' := [(2, .ref ad30), (1, .int (Int32.ofInt t0)), (0, .ref a0)]) hx hb dX9_law_41 rfl hl (by decide) rfl (fun ls hl => ?_)
      refine lv_aload_n hx hb dX9_law_42 rfl (lv_at hl 2 rfl) ?_
      refine lv_aload_n hx hb dX9_law_43 rfl (lv_at hl 2 rfl) ?_
      refine tf_get hx hb hts inlX9 hown hK (ci := 9) rfl hW ha0 rfl 4 rfl (by decide) (hts _ fl_X9_37) dX9_law_44 (fun v56 hv56 hsv56 => ?_)
      obtain rfl : v56 = .ref ad12 := Option.some.inj (hsv56.symm.trans hs26)
      refine tf_get hx hb hts inlX2 hown hK (ci := 2) rfl hW had12 rfl 7 rfl (by decide) (hts _ fl_X9_171) dX9_law_47 (fun v57 hv57 hsv57 => ?_)
      obtain rfl : v57 = .int (Int32.ofInt fp1_R) := Option.some.inj (hsv57.symm.trans hXR_0)
      refine tf_put hx hb hts inlX9 tyX9 tyX9_ok nmX9 hown hK (ci := 9) rfl hW ha0 rfl rfl 9 rfl (by decide) (by decide) (hts _ fl_X9_55) rfl (tf_u0 (by omega) (by omega)) rfl rfl dX9_law_50 (fun H58 locs58 hW hs58 ht58 hq58 => ?_)
      have hs59 := (ht58 0 (by decide) (by decide)).trans hs20
      have hs60 := tf_keepQ hs21 (hq58 _ (tf_ne hsq ha0 (by decide)))
      have hs61 := (ht58 6 (by decide) (by decide)).trans hs23
      have hs62 := tf_keepCQ hs24 (hq58 _ (tf_ne hta ha0 (by decide)))
      have hs63 := (ht58 7 (by decide) (by decide)).trans hs25
      have hs64 := (ht58 4 (by decide) (by decide)).trans hs26
      have hs65 := tf_keepQ hs27 (hq58 _ (tf_ne had12 ha0 (by decide)))
      have hs66 := tf_keepQ hs28 (hq58 _ (tf_ne had15 ha0 (by decide)))
      have hs67 := tf_keepQ hs29 (hq58 _ (tf_ne had15 ha0 (by decide)))
      have hs68 := tf_keepQ hXR_0 (hq58 _ (tf_ne had12 ha0 (by decide)))
      refine lv_aload_n hx hb dX9_law_53 rfl (lv_at hl 0 rfl) ?_
      refine lv_ifnonnull (tgt := 64) hx hb dX9_law_54 (by decide) ?_
      refine lv_aload_n hx hb dX9_law_64 rfl (lv_at hl 2 rfl) ?_
      refine lv_aload_n hx hb dX9_law_65 rfl (lv_at hl 2 rfl) ?_
      refine tf_get hx hb hts inlX9 hown hK (ci := 9) rfl hW ha0 rfl 0 rfl (by decide) (hts _ fl_X9_10) dX9_law_66 (fun v69 hv69 hsv69 => ?_)
      obtain rfl : v69 = .ref sq := Option.some.inj (hsv69.symm.trans hs59)
      refine lv_aload_n hx hb dX9_law_69 rfl (lv_at hl 0 rfl) ?_
      refine tf_calli (va_runV (As := [.ref ad30]) (rest := [.ref a0]) ⟨hx, hb, hml, hown, hts⟩ (c_X3_addLaw l g T sq hsq ad30 had30 (lm) ⟨by omega, by omega⟩) (cwV 1 hts gv_X9_172 rfl rfl rfl hd_X3_addLaw ⟨Nat.le_trans (by decide) hR1, Nat.le_trans (by decide) hR2⟩) (tf_preV hk hW hsq (ci := 3) rfl rfl hs60) rfl rfl hl.1 rfl (lv_room (Nat.le_of_ble_eq_true rfl)) dX9_law_70 ⟨Nat.le_trans (by omega) hR3, Nat.le_trans (by omega) hR4⟩) hW (by decide) (fun zA HA locsA hW hFA hpA => ?_)
      have hs70 := tf_keepF hFA ha0 rfl rfl (by decide) hs59
      have hs71 := tf_keepF hFA ha0 rfl rfl (by decide) hs61
      have hs72 := tf_keepC hFA hta rfl (by decide) hs62
      have hs73 := tf_keepF hFA ha0 rfl rfl (by decide) hs63
      have hs74 := tf_keepF hFA ha0 rfl rfl (by decide) hs64
      have hs75 := tf_keepF hFA had12 rfl rfl (by decide) hs65
      have hs76 := tf_keepF hFA had15 rfl rfl (by decide) hs66
      have hs77 := tf_keepF hFA had15 rfl rfl (by decide) hs67
      have hs78 := tf_keepF hFA had12 rfl rfl (by decide) hs68
      have hs79 := tf_keepF hFA ha0 rfl rfl (by decide) hs58
      obtain ⟨hpA_0, hpA_1, hpA_2⟩ := hpA
      obtain ⟨lm1_A, hXA_0, hBA_0, hRA_0, hRA_1⟩ := hpA_2
      refine tf_calli (va_runV (As := [.int (Int32.ofInt zA)]) (rest := []) ⟨hx, hb, hml, hown, hts⟩ (c_X9_accept l g T a0 ha0 (zA) ⟨by omega, by omega⟩) (cwV 1 hts gv_X9_99 rfl rfl rfl hd_X9_accept ⟨Nat.le_trans (by decide) hR1, Nat.le_trans (by decide) hR2⟩) (tf_preV hk hW ha0 (ci := 9) rfl rfl trivial) rfl rfl hl.1 rfl (lv_room (Nat.le_of_ble_eq_true rfl)) dX9_law_73 ⟨Nat.le_trans (by omega) hR3, Nat.le_trans (by omega) hR4⟩) hW (by decide) (fun z80 H80 locs80 hW hF80 hp80 => ?_)
      have hs81 := tf_keepF hF80 ha0 rfl rfl (by decide) hs70
      have hs82 := tf_keepF hF80 ha0 rfl rfl (by decide) hs71
      have hs83 := tf_keepC hF80 hta rfl (by decide) hs72
      have hs84 := tf_keepF hF80 ha0 rfl rfl (by decide) hs73
      have hs85 := tf_keepF hF80 ha0 rfl rfl (by decide) hs74
      have hs86 := tf_keepF hF80 had12 rfl rfl (by decide) hs75
      have hs87 := tf_keepF hF80 had15 rfl rfl (by decide) hs76
      have hs88 := tf_keepF hF80 had15 rfl rfl (by decide) hs77
      have hs89 := tf_keepF hF80 had12 rfl rfl (by decide) hs78
      have hs90 := tf_keepF hF80 ha0 rfl rfl (by decide) hs79
      have hs91 := tf_keepF hF80 hsq rfl rfl (by decide) hXA_0
      obtain ⟨hp80_0, hp80_1, hp80_2⟩ := hp80
      refine W.widen (k := 3) (n := 804) (by omega) (by omega) ?_
      exact tf_retI (z := z80) hx hb hr hlocks hQ hW ⟨by omega, by omega, ⟨(0), (fp1_R), (lm1_A), (ss_R), (pp_R), (mm_R), hs84, hs90, hs91, ⟨by omega, by omega⟩, ⟨by omega, by omega⟩, ⟨by omega, by omega⟩, (by first | assumption | omega), (Or.inr ⟨by omega, hRR_0, Or.inl ⟨by omega, by omega, (hRR_1.resolve_left (fun h => by cases h.1)).2⟩⟩)⟩⟩ dX9_law_76
  · refine lv_aload_n hx hb dX9_law_22 rfl (lv_at hl 1 rfl) ?_
    refine tf_bipush hx hb dX9_law_23 (by decide) ?_
    refine tf_calli (va_runV (As := [.int (Int32.ofInt ((-5)))]) (rest := []) ⟨hx, hb, hml, hown, hts⟩ (c_X9_refuse l g T a0 ha0 ((-5)) ⟨by omega, by omega⟩) (cwV 1 hts gv_X9_75 rfl rfl rfl hd_X9_refuse ⟨Nat.le_trans (by decide) hR1, Nat.le_trans (by decide) hR2⟩) (tf_preV hk hW ha0 (ci := 9) rfl rfl trivial) rfl rfl hl.1 rfl (lv_room (Nat.le_of_ble_eq_true rfl)) dX9_law_25 ⟨Nat.le_trans (by omega) hR3, Nat.le_trans (by omega) hR4⟩) hW (by decide) (fun z92 H92 locs92 hW hF92 hp92 => ?_)
    have hs93 := tf_keepF hF92 ha0 rfl rfl (by decide) hs3
    have hs94 := tf_keepF hF92 hsq rfl rfl (by decide) hs4
    have hs95 := tf_keepF hF92 ha0 rfl rfl (by decide) hs5
    have hs96 := tf_keepF hF92 ha0 rfl rfl (by decide) hs6
    have hs97 := tf_keepC hF92 hta rfl (by decide) hs7
    have hs98 := tf_keepF hF92 ha0 rfl rfl (by decide) hs2
    obtain ⟨hp92_0, hp92_1, hp92_2⟩ := hp92
    refine W.widen (k := 3) (n := 804) (by omega) (by omega) ?_
    exact tf_retI (z := z92) hx hb hr hlocks hQ hW ⟨by omega, by omega, ⟨(0), (fp), (lm), (fun _ => 0), (fun _ => 0), (0), hs98, hs95, hs94, ⟨by omega, by omega⟩, ⟨by omega, by omega⟩, ⟨by omega, by omega⟩, (by first | assumption | omega), (Or.inl ⟨by omega, by omega, by omega, by omega⟩)⟩⟩ dX9_law_28


abbrev M_X2_readClause : List (Nat × Nat) := [(0, 0), (30, 1), (30, 4), (30, 5), (30, 6), (30, 7)]
set_option maxHeartbeats 4000000 in
set_option maxRecDepth 100000 in
theorem c_X2_readClause (l : Launch) (g : tf_G) (T : tf_T) (a0 : Nat) (ha0 : T a0 = some (30, 0)) (x1 : Int) (hp1 : 0 ≤ x1 ∧ x1 ≤ 11) (t0 : Nat) (ht0 : T t0 = some (34, 0)) (so : Nat) (hso : T so = some (24, 401)) (po : Nat) (hpo : T po = some (25, 401)) (mm : Int) (hmm : 1 ≤ mm ∧ mm ≤ 401) (ss : Int → Int) (pp : Int → Int) (k0 : Int) (hk0 : 0 ≤ k0 ∧ k0 ≤ 400) (tk : Int) (htk : (-2147483648) ≤ tk ∧ tk ≤ 2147483647) (lv : Int) (hlv : 0 ≤ lv ∧ lv ≤ 50) (fp0 : Int) (hfp0 : (-2147483648) ≤ fp0 ∧ fp0 ≤ 2147483647) (hq0 : (k0 < mm)) (hq1 : (tk = ss k0)) (hq2 : (ss (mm - 1) = 0)) : Met l yX2_readClause (cd_X2_readClause :: wsL_law) ({ frames := 71, cells := 0, slots := 0, locals := 1093 }) (tf_P g T [.ref a0, .int (Int32.ofInt x1)] (fun H => tf_s H a0 (g.1.2 2 3) = some (.ref t0) ∧ tf_s H t0 (g.1.2 4 2) = some (.int (Int32.ofInt mm)) ∧ tf_s H t0 (g.1.2 4 0) = some (.ref so) ∧ tf_s H t0 (g.1.2 4 1) = some (.ref po) ∧ tf_rw H so = ss ∧ tf_rw H po = pp ∧ tf_s H a0 (g.1.2 2 4) = some (.int (Int32.ofInt k0)) ∧ tf_s H a0 (g.1.2 2 5) = some (.int (Int32.ofInt tk)) ∧ tf_s H a0 (g.1.2 2 6) = some (.int (Int32.ofInt lv)) ∧ tf_s H a0 (g.1.2 2 7) = some (.int (Int32.ofInt fp0)))) (tf_Qi g M_X2_readClause T (fun z _ H => (z = 0 ∨ z = 1) ∧ (∃ (k1 t1 lv1 fp1 : Int) , tf_s H a0 (g.1.2 2 4) = some (.int (Int32.ofInt k1)) ∧ tf_s H a0 (g.1.2 2 5) = some (.int (Int32.ofInt t1)) ∧ tf_s H a0 (g.1.2 2 6) = some (.int (Int32.ofInt lv1)) ∧ tf_s H a0 (g.1.2 2 7) = some (.int (Int32.ofInt fp1)) ∧ (0 ≤ k1 ∧ k1 ≤ 400) ∧ ((-2147483648) ≤ t1 ∧ t1 ≤ 2147483647) ∧ (0 ≤ lv1 ∧ lv1 ≤ 50) ∧ ((-2147483648) ≤ fp1 ∧ fp1 ≤ 2147483647) ∧ (k1 < mm) ∧ (k0 ≤ k1) ∧ (t1 = ss k1) ∧ (tf_RD ss pp mm (k0, 5, 0, [], lv, 0, x1) z (k1, 6, 0, [], lv1, 0, (x1 + 1)) fp1) ∧ (z = 0 ∨ k0 < k1) ∧ (z = 0 ∨ fp1 = fp0)))) 0 0 (fun q => tf_B g ≤ q) := by
  refine Met.ofW (cc := cX2_readClause) (maxL := 2) (ret := (some .boolean)) (by decide) rfl ?_
  intro p e s m args below meth c s₁ B hml hv
  obtain ⟨hargs, hk, hW0, hB, hpre⟩ := hv
  obtain ⟨he0, he1, he2, he3, he4, he5, he6, he7, he8, he9⟩ := hpre
  have hx := B.exec
  have hb := B.bytes
  have hr := B.returns
  have hts : ∀ w ∈ wsL_law, w.before args s = true := fun w h => atoms_spec (ws := cd_X2_readClause :: wsL_law) B.pre w (List.mem_cons_of_mem _ h)
  have hown : s.vm.findClass RX2 = some m.cls := findClass_of_methodNamed B.named
  have hlocks := B.notSynchronized
  have hK := hk.1
  have hW := tf_n.start (M := M_X2_readClause) hW0 hB
  obtain ⟨Q, hQ⟩ : ∃ q, q = MQ below (tf_Qi g M_X2_readClause T (fun z _ H => (z = 0 ∨ z = 1) ∧ (∃ (k1 t1 lv1 fp1 : Int) , tf_s H a0 (g.1.2 2 4) = some (.int (Int32.ofInt k1)) ∧ tf_s H a0 (g.1.2 2 5) = some (.int (Int32.ofInt t1)) ∧ tf_s H a0 (g.1.2 2 6) = some (.int (Int32.ofInt lv1)) ∧ tf_s H a0 (g.1.2 2 7) = some (.int (Int32.ofInt fp1)) ∧ (0 ≤ k1 ∧ k1 ≤ 400) ∧ ((-2147483648) ≤ t1 ∧ t1 ≤ 2147483647) ∧ (0 ≤ lv1 ∧ lv1 ≤ 50) ∧ ((-2147483648) ≤ fp1 ∧ fp1 ≤ 2147483647) ∧ (k1 < mm) ∧ (k0 ≤ k1) ∧ (t1 = ss k1) ∧ (tf_RD ss pp mm (k0, 5, 0, [], lv, 0, x1) z (k1, 6, 0, [], lv1, 0, (x1 + 1)) fp1) ∧ (z = 0 ∨ k0 < k1) ∧ (z = 0 ∨ fp1 = fp0)))) args s 0 0 (fun q => tf_B g ≤ q) := ⟨_, rfl⟩
  rw [← hQ]
  obtain ⟨R, hR⟩ : ∃ q, q = (headSpec (cd_X2_readClause :: wsL_law) ({ frames := 71, cells := 0, slots := 0, locals := 1093 })).room := ⟨_, rfl⟩
  rw [← hR]
  have hR1 : 71 ≤ R.frames := by rw [hR]; exact Nat.le_refl _
  have hR2 : 1093 ≤ R.locals := by rw [hR]; exact Nat.le_refl _
  have hR3 : 0 ≤ R.cells := by rw [hR]; exact Nat.le_refl _
  have hR4 : 0 ≤ R.slots := by rw [hR]; exact Nat.le_refl _
  have hin := (name_of_methodNamed B.named B.method).1
  clear hR B
  have j_81 : 0 ≤ x1 ∧ x1 ≤ 11 → ∀ (f4_81 : Int), 0 ≤ f4_81 ∧ f4_81 ≤ 400 → ∀ (f5_81 : Int), (-2147483648) ≤ f5_81 ∧ f5_81 ≤ 2147483647 → ∀ (f6_81 : Int), 0 ≤ f6_81 ∧ f6_81 ≤ 50 → ∀ (f7_81 : Int), (-2147483648) ≤ f7_81 ∧ f7_81 ≤ 2147483647 → (f5_81 = ss f4_81) → (f4_81 < mm) → (k0 < f4_81) → (tf_Re ss mm (k0, 5, 0, [], lv, 0, x1) (f4_81, 6, 0, [], f6_81, 0, (x1 + 1))) → (f7_81 = fp0) → ∀ (H : Heap) (locs : List Loc), tf_n tf_kt g M_X2_readClause T s.heap T H locs → tf_s H a0 (g.1.2 2 4) = some (.int (Int32.ofInt f4_81)) → tf_s H a0 (g.1.2 2 5) = some (.int (Int32.ofInt f5_81)) → tf_s H a0 (g.1.2 2 6) = some (.int (Int32.ofInt f6_81)) → tf_s H a0 (g.1.2 2 7) = some (.int (Int32.ofInt f7_81)) → ∀ (ls : Array Slot), lv_has ls 2 [(0, .ref a0), (1, .int (Int32.ofInt x1))] → W p l e R s m args below meth c H locs 0 0 Q (F0 m 81 ls []) := by
    intro hx1_81 f4_81 hf4_81 f5_81 hf5_81 f6_81 hf6_81 f7_81 hf7_81 hi0_81 hi1_81 hi2_81 hi3_81 hi4_81 H locs hW hs4_81 hs5_81 hs6_81 hs7_81 ls hl
    refine lv_aload_n hx hb dX2_readClause_81 rfl (lv_at hl 0 rfl) ?_
    refine tf_get hx hb hts inlX2 hown hK (ci := 2) rfl hW ha0 rfl 2 rfl (by decide) (hts _ fl_X2_19) dX2_readClause_82 (fun v1 hv1 hsv1 => ?_)
    obtain ⟨ad2, rfl, had2⟩ := tf_v1 hv1
    refine tf_iconst hx hb dX2_readClause_85 ?_
    refine lv_iload_n hx hb dX2_readClause_86 rfl (lv_at hl 1 rfl) ?_
    refine tf_imul hx hb dX2_readClause_87 ?_
    refine tf_iconst hx hb dX2_readClause_88 ?_
    refine tf_iadd hx hb dX2_readClause_89 ?_
    refine lv_aload_n hx hb dX2_readClause_90 rfl (lv_at hl 0 rfl) ?_
    refine tf_get hx hb hts inlX2 hown hK (ci := 2) rfl hW ha0 rfl 1 rfl (by decide) (hts _ fl_X2_15) dX2_readClause_91 (fun v3 hv3 hsv3 => ?_)
    obtain ⟨z4, rfl, hz4⟩ := tf_v0 hv3
    refine tf_iast (t0 := 0) hx hb hK hW had2 rfl rfl (by omega) (by omega) (by decide) (tf_u0 (by omega) (by omega)) dX2_readClause_94 (fun H5 locs5 hW hs5 ht5 hq5 => ?_)
    have hs6 := tf_keepQ hs4_81 (hq5 _ (tf_ne ha0 had2 (by decide)))
    have hs7 := tf_keepQ hs5_81 (hq5 _ (tf_ne ha0 had2 (by decide)))
    have hs8 := tf_keepQ hs6_81 (hq5 _ (tf_ne ha0 had2 (by decide)))
    have hs9 := tf_keepQ hs7_81 (hq5 _ (tf_ne ha0 had2 (by decide)))
    refine tf_iconst hx hb dX2_readClause_95 ?_
    exact tf_retz (z := 1) hx hb hr hlocks hQ hW (by omega) ⟨by omega, ⟨(f4_81), (f5_81), (f6_81), (f7_81), hs6, hs7, hs8, hs9, ⟨by omega, by omega⟩, ⟨by omega, by omega⟩, ⟨by omega, by omega⟩, ⟨by omega, by omega⟩, (by first | assumption | omega), (by first | assumption | omega), (by first | assumption | omega), (tf_RD_ok (by omega) hi3_81), (by first | assumption | omega), (by first | assumption | omega)⟩⟩ dX2_readClause_96
  refine tf_enter (As := [.ref a0, .int (Int32.ofInt x1)]) hargs (Nat.le_of_ble_eq_true rfl) (fun ls hl => ?_)
  have hl : lv_has ls 2 [(0, .ref a0), (1, .int (Int32.ofInt x1))] := hl
  refine lv_iload_n hx hb dX2_readClause_0 rfl (lv_at hl 1 rfl) ?_
  refine tf_if_lt (tgt := 10) hx hb ⟨by omega, by omega⟩ dX2_readClause_1 (by decide) (fun h10 => ?_) (fun h10 => ?_)
  · exfalso; omega
  · refine lv_iload_n hx hb dX2_readClause_4 rfl (lv_at hl 1 rfl) ?_
    refine tf_bipush hx hb dX2_readClause_5 (by decide) ?_
    refine tf_icmp_lt (tgt := 15) hx hb ⟨by omega, by omega⟩ ⟨by decide, by decide⟩ dX2_readClause_7 (by decide) (fun h11 => ?_) (fun h11 => ?_)
    · refine lv_aload_n hx hb dX2_readClause_15 rfl (lv_at hl 0 rfl) ?_
      refine tf_get hx hb hts inlX2 hown hK (ci := 2) rfl hW ha0 rfl 2 rfl (by decide) (hts _ fl_X2_19) dX2_readClause_16 (fun v12 hv12 hsv12 => ?_)
      obtain ⟨ad13, rfl, had13⟩ := tf_v1 hv12
      refine tf_iconst hx hb dX2_readClause_19 ?_
      refine lv_iload_n hx hb dX2_readClause_20 rfl (lv_at hl 1 rfl) ?_
      refine tf_imul hx hb dX2_readClause_21 ?_
      refine lv_aload_n hx hb dX2_readClause_22 rfl (lv_at hl 0 rfl) ?_
      refine tf_get hx hb hts inlX2 hown hK (ci := 2) rfl hW ha0 rfl 1 rfl (by decide) (hts _ fl_X2_15) dX2_readClause_23 (fun v14 hv14 hsv14 => ?_)
      obtain ⟨z15, rfl, hz15⟩ := tf_v0 hv14
      refine tf_iast (t0 := 0) hx hb hK hW had13 rfl rfl (by omega) (by omega) (by decide) (tf_u0 (by omega) (by omega)) dX2_readClause_26 (fun H16 locs16 hW hs16 ht16 hq16 => ?_)
      have hs17 := tf_keepQ he0 (hq16 _ (tf_ne ha0 had13 (by decide)))
      have hs18 := tf_keepQ he1 (hq16 _ (tf_ne ht0 had13 (by decide)))
      have hs19 := tf_keepQ he2 (hq16 _ (tf_ne ht0 had13 (by decide)))
      have hs20 := tf_keepQ he3 (hq16 _ (tf_ne ht0 had13 (by decide)))
      have hs21 := tf_keepCQ he4 (hq16 _ (tf_ne hso had13 (by decide)))
      have hs22 := tf_keepCQ he5 (hq16 _ (tf_ne hpo had13 (by decide)))
      have hs23 := tf_keepQ he6 (hq16 _ (tf_ne ha0 had13 (by decide)))
      have hs24 := tf_keepQ he7 (hq16 _ (tf_ne ha0 had13 (by decide)))
      have hs25 := tf_keepQ he8 (hq16 _ (tf_ne ha0 had13 (by decide)))
      have hs26 := tf_keepQ he9 (hq16 _ (tf_ne ha0 had13 (by decide)))
      have hs27 := tf_keepQ hsv12 (hq16 _ (tf_ne ha0 had13 (by decide)))
      refine lv_aload_n hx hb dX2_readClause_27 rfl (lv_at hl 0 rfl) ?_
      refine tf_iconst hx hb dX2_readClause_28 ?_
      refine tf_calli (va_runV (As := [.int (Int32.ofInt 1)]) (rest := []) ⟨hx, hb, hml, hown, hts⟩ (c_X2_pass l g T a0 ha0 (1) ⟨by omega, by omega⟩ t0 ht0 so hso po hpo (mm) ⟨by omega, by omega⟩ ss pp (k0) ⟨by omega, by omega⟩ (tk) ⟨by omega, by omega⟩ (fp0) ⟨by omega, by omega⟩ (by first | assumption | omega) (by first | assumption | omega) (by first | assumption | omega)) (cwV 1 hts gv_X2_63 rfl rfl rfl hd_X2_pass ⟨Nat.le_trans (by decide) hR1, Nat.le_trans (by decide) hR2⟩) (tf_preV hk hW ha0 (ci := 2) rfl rfl ⟨hs17, hs18, hs19, hs20, hs21, hs22, hs23, hs24, hs26⟩) rfl rfl hl.1 rfl (lv_room (Nat.le_of_ble_eq_true rfl)) dX2_readClause_29 ⟨Nat.zero_le _, Nat.zero_le _⟩) hW (by decide) (fun zQ HQ locsQ hW hFQ hpQ => ?_)
      have hs28 := tf_keepF hFQ ha0 rfl rfl (by decide) hs17
      have hs29 := tf_keepF hFQ ht0 rfl rfl (by decide) hs18
      have hs30 := tf_keepF hFQ ht0 rfl rfl (by decide) hs19
      have hs31 := tf_keepF hFQ ht0 rfl rfl (by decide) hs20
      have hs32 := tf_keepC hFQ hso rfl (by decide) hs21
      have hs33 := tf_keepC hFQ hpo rfl (by decide) hs22
      have hs34 := tf_keepF hFQ ha0 rfl rfl (by decide) hs25
      have hs35 := tf_keepF hFQ ha0 rfl rfl (by decide) hs27
      obtain ⟨hpQ_0, hpQ_1⟩ := hpQ
      obtain ⟨k1_Q, t1_Q, fp1_Q, hXQ_0, hXQ_1, hXQ_2, hBQ_0, hBQ_1, hBQ_2, hRQ_0, hRQ_1, hRQ_2⟩ := hpQ_1
      refine tf_if_eq (tgt := 43) hx hb ⟨by omega, by omega⟩ dX2_readClause_32 (by decide) (fun h36 => ?_) (fun h36 => ?_)
      · refine tf_iconst hx hb dX2_readClause_43 ?_
        exact tf_retz (z := 0) hx hb hr hlocks hQ hW (by omega) ⟨by omega, ⟨(k1_Q), (t1_Q), (lv), (fp1_Q), hXQ_0, hXQ_1, hs34, hXQ_2, ⟨by omega, by omega⟩, ⟨by omega, by omega⟩, ⟨by omega, by omega⟩, ⟨by omega, by omega⟩, (by first | assumption | omega), (by first | assumption | omega), (by first | assumption | omega), (by first | exact (tf_RD_n (by omega) (tf_c_nq (by omega)) (by decide) (by omega)) | exact (tf_RD_st (tf_c_quick (by omega) (by omega) (by omega) rfl) (tf_RD_bad hRA_3 (by omega) (by omega)))), (by first | assumption | omega), (by first | assumption | omega)⟩⟩ dX2_readClause_44
      · refine lv_aload_n hx hb dX2_readClause_35 rfl (lv_at hl 0 rfl) ?_
        refine tf_iconst hx hb dX2_readClause_36 ?_
        refine tf_calli (va_runV (As := [.int (Int32.ofInt 0)]) (rest := []) ⟨hx, hb, hml, hown, hts⟩ (all_X2_readSum l g T 8 a0 ha0 (0) ⟨by omega, by omega⟩ (0) ([]) (0) ((x1 + 1)) t0 ht0 so hso po hpo (mm) ⟨by omega, by omega⟩ ss pp (k1_Q) ⟨by omega, by omega⟩ (t1_Q) ⟨by omega, by omega⟩ (lv) ⟨by omega, by omega⟩ (fp1_Q) ⟨by omega, by omega⟩ (by first | assumption | omega) (by first | assumption | omega) (by first | assumption | omega) rfl (by omega)) (cwV 1 hts gv_X2_70 rfl rfl rfl hd_X2_readSum ⟨Nat.le_trans (show 6 * 8 + 14 + 1 ≤ 71 by omega) hR1, Nat.le_trans (show 8 + (4 + 11) + (90 * 8 + 250) ≤ 1093 by omega) hR2⟩) (tf_preV hk hW ha0 (ci := 2) rfl rfl ⟨hs28, hs29, hs30, hs31, hs32, hs33, hXQ_0, hXQ_1, hs34, hXQ_2⟩) rfl rfl hl.1 rfl (lv_room (Nat.le_of_ble_eq_true rfl)) dX2_readClause_37 ⟨Nat.zero_le _, Nat.zero_le _⟩) hW (by decide) (fun zA HA locsA hW hFA hpA => ?_)
        have hs37 := tf_keepF hFA ha0 rfl rfl (by decide) hs28
        have hs38 := tf_keepF hFA ht0 rfl rfl (by decide) hs29
        have hs39 := tf_keepF hFA ht0 rfl rfl (by decide) hs30
        have hs40 := tf_keepF hFA ht0 rfl rfl (by decide) hs31
        have hs41 := tf_keepC hFA hso rfl (by decide) hs32
        have hs42 := tf_keepC hFA hpo rfl (by decide) hs33
        have hs43 := tf_keepF hFA ha0 rfl rfl (by decide) hs35
        obtain ⟨hpA_0, hpA_1⟩ := hpA
        obtain ⟨k1_A, t1_A, lv1_A, fp1_A, hXA_0, hXA_1, hXA_2, hXA_3, hBA_0, hBA_1, hBA_2, hBA_3, hRA_0, hRA_1, hRA_2, hRA_3, hRA_4, hRA_5⟩ := hpA_1
        refine tf_if_ne (tgt := 45) hx hb ⟨by omega, by omega⟩ dX2_readClause_40 (by decide) (fun h44 => ?_) (fun h44 => ?_)
        · refine lv_aload_n hx hb dX2_readClause_45 rfl (lv_at hl 0 rfl) ?_
          refine tf_get hx hb hts inlX2 hown hK (ci := 2) rfl hW ha0 rfl 2 rfl (by decide) (hts _ fl_X2_19) dX2_readClause_46 (fun v45 hv45 hsv45 => ?_)
          obtain rfl : v45 = .ref ad13 := Option.some.inj (hsv45.symm.trans hs43)
          refine tf_iconst hx hb dX2_readClause_49 ?_
          refine lv_iload_n hx hb dX2_readClause_50 rfl (lv_at hl 1 rfl) ?_
          refine tf_imul hx hb dX2_readClause_51 ?_
          refine tf_iconst hx hb dX2_readClause_52 ?_
          refine tf_iadd hx hb dX2_readClause_53 ?_
          refine lv_aload_n hx hb dX2_readClause_54 rfl (lv_at hl 0 rfl) ?_
          refine tf_get hx hb hts inlX2 hown hK (ci := 2) rfl hW ha0 rfl 1 rfl (by decide) (hts _ fl_X2_15) dX2_readClause_55 (fun v46 hv46 hsv46 => ?_)
          obtain ⟨z47, rfl, hz47⟩ := tf_v0 hv46
          refine tf_iast (t0 := 0) hx hb hK hW had13 rfl rfl (by omega) (by omega) (by decide) (tf_u0 (by omega) (by omega)) dX2_readClause_58 (fun H48 locs48 hW hs48 ht48 hq48 => ?_)
          have hs49 := tf_keepQ hs37 (hq48 _ (tf_ne ha0 had13 (by decide)))
          have hs50 := tf_keepQ hs38 (hq48 _ (tf_ne ht0 had13 (by decide)))
          have hs51 := tf_keepQ hs39 (hq48 _ (tf_ne ht0 had13 (by decide)))
          have hs52 := tf_keepQ hs40 (hq48 _ (tf_ne ht0 had13 (by decide)))
          have hs53 := tf_keepCQ hs41 (hq48 _ (tf_ne hso had13 (by decide)))
          have hs54 := tf_keepCQ hs42 (hq48 _ (tf_ne hpo had13 (by decide)))
          have hs55 := tf_keepQ hs43 (hq48 _ (tf_ne ha0 had13 (by decide)))
          have hs56 := tf_keepQ hXA_0 (hq48 _ (tf_ne ha0 had13 (by decide)))
          have hs57 := tf_keepQ hXA_1 (hq48 _ (tf_ne ha0 had13 (by decide)))
          have hs58 := tf_keepQ hXA_2 (hq48 _ (tf_ne ha0 had13 (by decide)))
          have hs59 := tf_keepQ hXA_3 (hq48 _ (tf_ne ha0 had13 (by decide)))
          refine lv_aload_n hx hb dX2_readClause_59 rfl (lv_at hl 0 rfl) ?_
          refine tf_get hx hb hts inlX2 hown hK (ci := 2) rfl hW ha0 rfl 5 rfl (by decide) (hts _ fl_X2_32) dX2_readClause_60 (fun v60 hv60 hsv60 => ?_)
          obtain rfl : v60 = .int (Int32.ofInt t1_A) := Option.some.inj (hsv60.symm.trans hs57)
          refine tf_iconst hx hb dX2_readClause_63 ?_
          refine tf_icmp_ne (tgt := 81) hx hb ⟨by omega, by omega⟩ ⟨by decide, by decide⟩ dX2_readClause_64 (by decide) (fun h61 => ?_) (fun h61 => ?_)
          · exact j_81 ⟨by omega, by omega⟩ (k1_A) ⟨by omega, by omega⟩ (t1_A) ⟨by omega, by omega⟩ (lv1_A) ⟨by omega, by omega⟩ (fp1_A) ⟨by omega, by omega⟩ (by first | assumption | omega) (by first | assumption | omega) (by first | assumption | omega) (by first | exact tf_Re_st (tf_c_quick (by omega) (by omega) (by omega) rfl) ((tf_RD_yes hRA_3 (by omega)).trans (tf_Re_st (tf_s_over (by omega) rfl) (tf_Re_st (tf_c_if (by omega) rfl hRN_0) ((tf_RD_yes hRB_3 (by omega)).trans (tf_Re_st (tf_t_over (by omega)) (tf_Re_1 (tf_c_no (by omega)))))))) | exact tf_Re_st (tf_c_quick (by omega) (by omega) (by omega) rfl) ((tf_RD_yes hRA_3 (by omega)).trans (tf_Re_st (tf_s_over (by omega) rfl) (tf_Re_1 (tf_c_no (by omega)))))) (by first | assumption | omega) _ _ hW hs56 hs57 hs58 hs59 _ (lv_sub hl [0, 1] rfl)
          · refine lv_aload_n hx hb dX2_readClause_67 rfl (lv_at hl 0 rfl) ?_
            refine tf_callv (va_runV (As := []) (rest := []) ⟨hx, hb, hml, hown, hts⟩ (c_X2_next l g T a0 ha0 t0 ht0 so hso (mm) ⟨by omega, by omega⟩ ss (k1_A) ⟨by omega, by omega⟩ (by first | assumption | omega) (by first | assumption | omega)) (cwV 0 hts gv_X2_73 rfl rfl rfl hd_X2_next ⟨Nat.le_trans (by decide) hR1, Nat.le_trans (by decide) hR2⟩) (tf_preV hk hW ha0 (ci := 2) rfl rfl ⟨hs49, hs50, hs51, hs53, hs56⟩) rfl rfl hl.1 rfl (lv_room (Nat.le_of_ble_eq_true rfl)) dX2_readClause_68 ⟨Nat.zero_le _, Nat.zero_le _⟩) hW (by decide) (fun HN locsN hW hFN hpN => ?_)
            have hs62 := tf_keepF hFN ha0 rfl rfl (by decide) hs49
            have hs63 := tf_keepF hFN ht0 rfl rfl (by decide) hs50
            have hs64 := tf_keepF hFN ht0 rfl rfl (by decide) hs51
            have hs65 := tf_keepF hFN ht0 rfl rfl (by decide) hs52
            have hs66 := tf_keepC hFN hso rfl (by decide) hs53
            have hs67 := tf_keepC hFN hpo rfl (by decide) hs54
            have hs68 := tf_keepF hFN ha0 rfl rfl (by decide) hs55
            have hs69 := tf_keepF hFN ha0 rfl rfl (by decide) hs58
            have hs70 := tf_keepF hFN ha0 rfl rfl (by decide) hs59
            obtain ⟨k1_N, t1_N, hXN_0, hXN_1, hBN_0, hBN_1, hRN_0, hRN_1, hRN_2, hRN_3⟩ := hpN
            refine lv_aload_n hx hb dX2_readClause_71 rfl (lv_at hl 0 rfl) ?_
            refine tf_iconst hx hb dX2_readClause_72 ?_
            refine tf_calli (va_runV (As := [.int (Int32.ofInt 0)]) (rest := []) ⟨hx, hb, hml, hown, hts⟩ (all_X2_readTest l g T 8 a0 ha0 (0) ⟨by omega, by omega⟩ ([]) (1) ((x1 + 1)) t0 ht0 so hso po hpo (mm) ⟨by omega, by omega⟩ ss pp (k1_N) ⟨by omega, by omega⟩ (t1_N) ⟨by omega, by omega⟩ (lv1_A) ⟨by omega, by omega⟩ (fp1_A) ⟨by omega, by omega⟩ (by first | assumption | omega) (by first | assumption | omega) (by first | assumption | omega) rfl (show (1 : Int) ≠ 0 by decide) (by omega)) (cwV 1 hts gv_X2_76 rfl rfl rfl hd_X2_readTest ⟨Nat.le_trans (show 6 * 8 + 22 + 1 ≤ 71 by omega) hR1, Nat.le_trans (show 8 + (4 + 11) + (90 * 8 + 350) ≤ 1093 by omega) hR2⟩) (tf_preV hk hW ha0 (ci := 2) rfl rfl ⟨hs62, hs63, hs64, hs65, hs66, hs67, hXN_0, hXN_1, hs69, hs70⟩) rfl rfl hl.1 rfl (lv_room (Nat.le_of_ble_eq_true rfl)) dX2_readClause_73 ⟨Nat.zero_le _, Nat.zero_le _⟩) hW (by decide) (fun zB HB locsB hW hFB hpB => ?_)
            have hs71 := tf_keepF hFB ha0 rfl rfl (by decide) hs62
            have hs72 := tf_keepF hFB ht0 rfl rfl (by decide) hs63
            have hs73 := tf_keepF hFB ht0 rfl rfl (by decide) hs64
            have hs74 := tf_keepF hFB ht0 rfl rfl (by decide) hs65
            have hs75 := tf_keepC hFB hso rfl (by decide) hs66
            have hs76 := tf_keepC hFB hpo rfl (by decide) hs67
            have hs77 := tf_keepF hFB ha0 rfl rfl (by decide) hs68
            obtain ⟨hpB_0, hpB_1⟩ := hpB
            obtain ⟨k1_B, t1_B, lv1_B, fp1_B, hXB_0, hXB_1, hXB_2, hXB_3, hBB_0, hBB_1, hBB_2, hBB_3, hRB_0, hRB_1, hRB_2, hRB_3, hRB_4, hRB_5⟩ := hpB_1
            refine tf_if_ne (tgt := 81) hx hb ⟨by omega, by omega⟩ dX2_readClause_76 (by decide) (fun h78 => ?_) (fun h78 => ?_)
            · exact j_81 ⟨by omega, by omega⟩ (k1_B) ⟨by omega, by omega⟩ (t1_B) ⟨by omega, by omega⟩ (lv1_B) ⟨by omega, by omega⟩ (fp1_B) ⟨by omega, by omega⟩ (by first | assumption | omega) (by first | assumption | omega) (by first | assumption | omega) (by first | exact tf_Re_st (tf_c_quick (by omega) (by omega) (by omega) rfl) ((tf_RD_yes hRA_3 (by omega)).trans (tf_Re_st (tf_s_over (by omega) rfl) (tf_Re_st (tf_c_if (by omega) rfl hRN_0) ((tf_RD_yes hRB_3 (by omega)).trans (tf_Re_st (tf_t_over (by omega)) (tf_Re_1 (tf_c_no (by omega)))))))) | exact tf_Re_st (tf_c_quick (by omega) (by omega) (by omega) rfl) ((tf_RD_yes hRA_3 (by omega)).trans (tf_Re_st (tf_s_over (by omega) rfl) (tf_Re_1 (tf_c_no (by omega)))))) (by first | assumption | omega) _ _ hW hXB_0 hXB_1 hXB_2 hXB_3 _ (lv_sub hl [0, 1] rfl)
            · refine tf_iconst hx hb dX2_readClause_79 ?_
              exact tf_retz (z := 0) hx hb hr hlocks hQ hW (by omega) ⟨by omega, ⟨(k1_B), (t1_B), (lv1_B), (fp1_B), hXB_0, hXB_1, hXB_2, hXB_3, ⟨by omega, by omega⟩, ⟨by omega, by omega⟩, ⟨by omega, by omega⟩, ⟨by omega, by omega⟩, (by first | assumption | omega), (by first | assumption | omega), (by first | assumption | omega), (tf_RD_st (tf_c_quick (by omega) (by omega) (by omega) rfl) (tf_RD_re (tf_RD_yes hRA_3 (by omega)) (tf_RD_st (tf_s_over (by omega) rfl) (tf_RD_st (tf_c_if (by omega) rfl hRN_0) (tf_RD_bad hRB_3 (by omega) (by omega)))))), (by first | assumption | omega), (by first | assumption | omega)⟩⟩ dX2_readClause_80
        · refine tf_iconst hx hb dX2_readClause_43 ?_
          exact tf_retz (z := 0) hx hb hr hlocks hQ hW (by omega) ⟨by omega, ⟨(k1_A), (t1_A), (lv1_A), (fp1_A), hXA_0, hXA_1, hXA_2, hXA_3, ⟨by omega, by omega⟩, ⟨by omega, by omega⟩, ⟨by omega, by omega⟩, ⟨by omega, by omega⟩, (by first | assumption | omega), (by first | assumption | omega), (by first | assumption | omega), (by first | exact (tf_RD_n (by omega) (tf_c_nq (by omega)) (by decide) (by omega)) | exact (tf_RD_st (tf_c_quick (by omega) (by omega) (by omega) rfl) (tf_RD_bad hRA_3 (by omega) (by omega)))), (by first | assumption | omega), (by first | assumption | omega)⟩⟩ dX2_readClause_44
    · exfalso; omega

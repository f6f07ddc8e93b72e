
abbrev M_X10_law : List (Nat × Nat) := [(40, 0), (41, 0), (45, 0), (46, 0), (47, 0), (48, 0), (49, 0), (63, 0), (63, 1), (63, 8), (63, 9), (63, 10), (63, 11), (63, 12), (63, 13), (63, 14), (63, 15), (63, 17), (63, 20), (63, 23), (63, 24)]
set_option maxHeartbeats 4000000 in
set_option maxRecDepth 100000 in
theorem c_X10_law (l : Launch) (g : tf_G) (T : tf_T) (a0 : Nat) (ha0 : T a0 = some (63, 0)) (ss : Int → Int) (pp : Int → Int) (mm : Int) (b0 : Nat) (hb0 : T b0 = some (41, 5830)) (tm : Nat) (htm : T tm = some (44, 400)) (wd : Nat) (hwd : T wd = some (50, 9)) (r0 : Int → Int) (t0 : Int) (ht0 : 0 ≤ t0 ∧ t0 ≤ 400) (tp : Int → Int) (gW : Int → Int) (gx : Int) (hgx : (-2147483648) ≤ gx ∧ gx ≤ 2147483647) (hq0 : (r0 1 < 6 → tf_TOK tp t0 ss pp mm)) (hq1 : (tf_WW gW)) : Met l yX10_law (cd_X10_law :: wsL_law) ({ frames := 9, cells := 0, slots := 0, locals := 194 }) (tf_P g T [.ref a0] (fun H => tf_s H a0 (g.1.2 10 3) = some (.ref b0) ∧ tf_rw H b0 = r0 ∧ tf_s H a0 (g.1.2 10 8) = some (.int (Int32.ofInt t0)) ∧ tf_s H a0 (g.1.2 10 7) = some (.ref tm) ∧ tf_rw H tm = tp ∧ tf_s H a0 (g.1.2 10 25) = some (.ref wd) ∧ tf_rw H wd = gW ∧ tf_s H a0 (g.1.2 10 13) = some (.int (Int32.ofInt gx)))) (tf_Qi g M_X10_law T (fun z _ H => (-2147483648) ≤ z ∧ z ≤ 2147483647 ∧ (∃ (t1 gx1 : Int) (r1 : Int → Int) , tf_rw H b0 = r1 ∧ tf_s H a0 (g.1.2 10 8) = some (.int (Int32.ofInt t1)) ∧ tf_s H a0 (g.1.2 10 13) = some (.int (Int32.ofInt gx1)) ∧ (0 ≤ t1 ∧ t1 ≤ 400) ∧ ((-2147483648) ≤ gx1 ∧ gx1 ≤ 2147483647) ∧ (t1 = 0) ∧ (tf_kl r0 r1) ∧ (tf_LR (r0 1) (r1 1) gx gx1 z t0 tp ss pp mm)))) 0 0 (fun q => tf_B g ≤ q) := by
  refine Met.ofW (cc := cX10_law) (maxL := 3) (ret := (some .int)) (by decide) rfl ?_
  intro p e s m args below meth c s₁ B hml hv
  obtain ⟨hargs, hk, hW0, hB, hpre⟩ := hv
  obtain ⟨he0, he1, he2, he3, he4, he5, he6, he7⟩ := hpre
  have hx := B.exec
  have hb := B.bytes
  have hr := B.returns
  have hts : ∀ w ∈ wsL_law, w.before args s = true := fun w h => atoms_spec (ws := cd_X10_law :: wsL_law) B.pre w (List.mem_cons_of_mem _ h)
  have hown : s.vm.findClass RX10 = some m.cls := findClass_of_methodNamed B.named
  have hlocks := B.notSynchronized
  have hK := hk.1
  have hW := tf_n.start (M := M_X10_law) hW0 hB
  obtain ⟨Q, hQ⟩ : ∃ q, q = MQ below (tf_Qi g M_X10_law T (fun z _ H => (-2147483648) ≤ z ∧ z ≤ 2147483647 ∧ (∃ (t1 gx1 : Int) (r1 : Int → Int) , tf_rw H b0 = r1 ∧ tf_s H a0 (g.1.2 10 8) = some (.int (Int32.ofInt t1)) ∧ tf_s H a0 (g.1.2 10 13) = some (.int (Int32.ofInt gx1)) ∧ (0 ≤ t1 ∧ t1 ≤ 400) ∧ ((-2147483648) ≤ gx1 ∧ gx1 ≤ 2147483647) ∧ (t1 = 0) ∧ (tf_kl r0 r1) ∧ (tf_LR (r0 1) (r1 1) gx gx1 z t0 tp ss pp mm)))) args s 0 0 (fun q => tf_B g ≤ q) := ⟨_, rfl⟩
  rw [← hQ]
  obtain ⟨R, hR⟩ : ∃ q, q = (headSpec (cd_X10_law :: wsL_law) ({ frames := 9, cells := 0, slots := 0, locals := 194 })).room := ⟨_, rfl⟩
  rw [← hR]
  have hR1 : 9 ≤ R.frames := by rw [hR]; exact Nat.le_refl _
  have hR2 : 194 ≤ R.locals := by rw [hR]; exact Nat.le_refl _
  have hR3 : 0 ≤ R.cells := by rw [hR]; exact Nat.le_refl _
  have hR4 : 0 ≤ R.slots := by rw [hR]; exact Nat.le_refl _
  have hin := (name_of_methodNamed B.named B.method).1
  clear hR B
  obtain ⟨vqop, hfqop, hokqop⟩ := tf_peek hW ha0 (ci := 10) rfl 18 rfl
  obtain ⟨qop, rfl, hqop⟩ := tf_v1 hokqop
  obtain ⟨rop, hrop⟩ := tf_rname hW qop
  obtain ⟨vqar, hfqar, hokqar⟩ := tf_peek hW ha0 (ci := 10) rfl 19 rfl
  obtain ⟨qar, rfl, hqar⟩ := tf_v1 hokqar
  obtain ⟨rar, hrar⟩ := tf_rname hW qar
  obtain ⟨vqcl, hfqcl, hokqcl⟩ := tf_peek hW ha0 (ci := 10) rfl 16 rfl
  obtain ⟨qcl, rfl, hqcl⟩ := tf_v1 hokqcl
  obtain ⟨rcl, hrcl⟩ := tf_rname hW qcl
  have hror0 : tf_RO r0 := he1 ▸ tf_ROof hW hb0
  have hby : ∀ j, 0 ≤ tp j ∧ tp j ≤ 255 := he4 ▸ tf_rwb hW htm rfl (by decide) (by decide) (by decide) (by decide)
  have hr1 := hror0.2.1
  have j_180 : ∀ (n_180 : Nat), ∀ (x1_180 : Int), 430 ≤ x1_180 ∧ x1_180 ≤ 4930 → ∀ (x2_180 : Int), 0 ≤ x2_180 ∧ x2_180 ≤ 400 → ∀ (f17_180 : Int), 0 ≤ f17_180 ∧ f17_180 ≤ 400 → ∀ (f15_180 : Int), 0 ≤ f15_180 ∧ f15_180 ≤ 12 → ∀ (f13_180 : Int), (-2147483648) ≤ f13_180 ∧ f13_180 ≤ 2147483647 → ∀ (rNOP_180 : Int → Int), (True) → ∀ (rNAR_180 : Int → Int), (True) → ∀ (rNCL_180 : Int → Int), (True) → ∀ (f8_180 : Int), 0 ≤ f8_180 ∧ f8_180 ≤ 0 → ∀ (rROW_180 : Int → Int), (tf_l2 r0 rNCL_180 rNOP_180 rNAR_180 x1_180 f15_180 x2_180 rROW_180) → (tf_CL rNCL_180 rNOP_180 rNAR_180 f15_180 f17_180) → (x1_180 = 430 + 900 * r0 1) → (r0 1 ≤ 5) → (x2_180 ≤ f17_180) → (f13_180 = -1) → (tf_FIN ss pp mm 1 (-1)) → (f17_180 - x2_180 + 1 ≤ (n_180 : Int)) → ∀ (H : Heap) (locs : List Loc), tf_n tf_ktw g M_X10_law T s.heap T H locs → tf_s H a0 (g.1.2 10 3) = some (.ref b0) → tf_s H a0 (g.1.2 10 18) = some (.ref qop) → tf_s H a0 (g.1.2 10 19) = some (.ref qar) → tf_s H a0 (g.1.2 10 17) = some (.int (Int32.ofInt f17_180)) → tf_s H a0 (g.1.2 10 15) = some (.int (Int32.ofInt f15_180)) → tf_s H a0 (g.1.2 10 13) = some (.int (Int32.ofInt f13_180)) → tf_rw H qop = rNOP_180 → tf_rw H qar = rNAR_180 → tf_rw H qcl = rNCL_180 → tf_s H a0 (g.1.2 10 8) = some (.int (Int32.ofInt f8_180)) → tf_rw H b0 = rROW_180 → tf_zz g T b0 H → ∀ (ls : Array Slot), lv_has ls 3 [(0, .ref a0), (1, .int (Int32.ofInt x1_180)), (2, .int (Int32.ofInt x2_180))] → W p l e R s m args below meth c H locs 0 0 Q (F0 m 180 ls []) := by
    intro n_180
    induction n_180 with
    | zero =>
      intro x1_180 hx1_180 x2_180 hx2_180 f17_180 hf17_180 f15_180 hf15_180 f13_180 hf13_180 rNOP_180 hRNOP_180 rNAR_180 hRNAR_180 rNCL_180 hRNCL_180 f8_180 hf8_180 rROW_180 hRROW_180 hi0_180 hi1_180 hi2_180 hi3_180 hi4_180 hi5_180 hm_180
      exfalso; omega
    | succ n_180 ih_180 =>
      intro x1_180 hx1_180 x2_180 hx2_180 f17_180 hf17_180 f15_180 hf15_180 f13_180 hf13_180 rNOP_180 hRNOP_180 rNAR_180 hRNAR_180 rNCL_180 hRNCL_180 f8_180 hf8_180 rROW_180 hRROW_180 hi0_180 hi1_180 hi2_180 hi3_180 hi4_180 hi5_180 hm_180 H locs hW hs3_180 hs18_180 hs19_180 hs17_180 hs15_180 hs13_180 hcNOP_180 hcNAR_180 hcNCL_180 hs8_180 hcROW_180 hZ ls hl
      refine lv_iload_n hx hb dX10_law_180 rfl (lv_at hl 2 rfl) ?_
      refine lv_aload_n hx hb dX10_law_181 rfl (lv_at hl 0 rfl) ?_
      refine tf_get hx hb hts inlX10 hown hK (ci := 10) rfl hW ha0 rfl 17 rfl (by decide) (hts _ fl_X10_239) dX10_law_182 (fun v1 hv1 hsv1 => ?_)
      obtain rfl : v1 = .int (Int32.ofInt f17_180) := Option.some.inj (hsv1.symm.trans hs17_180)
      refine tf_icmp_ge (tgt := 234) hx hb ⟨by omega, by omega⟩ ⟨by omega, by omega⟩ dX10_law_185 (by decide) (fun h2 => ?_) (fun h2 => ?_)
      · have hO1 := hRROW_180.1.1 1 (by omega)
        have hW := tf_strongR hW hZ hb0 (by rw [hcROW_180]; exact tf_law_RO hror0 hRROW_180 (show x2_180 = f17_180 by omega) (by omega) (by have := hror0.2.1; omega) (by omega) (by omega) (by omega) hi0_180)
        refine lv_aload_n hx hb dX10_law_234 rfl (lv_at hl 0 rfl) ?_
        refine tf_get hx hb hts inlX10 hown hK (ci := 10) rfl hW ha0 rfl 3 rfl (by decide) (hts _ fl_X10_13) dX10_law_235 (fun v3 hv3 hsv3 => ?_)
        obtain rfl : v3 = .ref b0 := Option.some.inj (hsv3.symm.trans hs3_180)
        refine tf_iconst hx hb dX10_law_238 ?_
        refine lv_dup2_11 hx hb dX10_law_239 rfl rfl ?_
        refine tf_iald (t0 := 0) hx hb hK hW hb0 rfl rfl (by omega) (by omega) dX10_law_240 (fun v4 hv4 hsv4 => ?_)
        obtain ⟨z5, rfl, hz5⟩ := tf_v0 hv4
        have er6 : rROW_180 1 = z5 := hcROW_180 ▸ tf_rw_of (by omega) hsv4 ⟨by omega, by omega⟩
        have hg7 := tf_rd1 (tf_ROof hW hb0) hsv4 ⟨by omega, by omega⟩ (by omega)
        refine tf_iconst hx hb dX10_law_241 ?_
        refine tf_iadd hx hb dX10_law_242 ?_
        refine tf_rowst hx hb hK hW hb0 rfl (by omega) (by omega) (by decide) ⟨by omega, by omega⟩ (tf_RO_any (tf_ROof hW hb0) (by omega)) dX10_law_243 (fun H8 locs8 hW hu8 hq8 => ?_)
        have hs9 := tf_keepQ hs3_180 (hq8 _ (tf_ne ha0 hb0 (by decide)))
        have hs10 := tf_keepQ hs18_180 (hq8 _ (tf_ne ha0 hb0 (by decide)))
        have hs11 := tf_keepQ hs19_180 (hq8 _ (tf_ne ha0 hb0 (by decide)))
        have hs12 := tf_keepQ hs17_180 (hq8 _ (tf_ne ha0 hb0 (by decide)))
        have hs13 := tf_keepQ hs15_180 (hq8 _ (tf_ne ha0 hb0 (by decide)))
        have hs14 := tf_keepQ hs13_180 (hq8 _ (tf_ne ha0 hb0 (by decide)))
        have hs15 := tf_keepCQ hcNOP_180 (hq8 _ (tf_ne hqop hb0 (by decide)))
        have hs16 := tf_keepCQ hcNAR_180 (hq8 _ (tf_ne hqar hb0 (by decide)))
        have hs17 := tf_keepCQ hcNCL_180 (hq8 _ (tf_ne hqcl hb0 (by decide)))
        have hs18 := tf_keepQ hs8_180 (hq8 _ (tf_ne ha0 hb0 (by decide)))
        have hu8 := hu8.trans (congrArg (fun w => tf_up w (1) ((z5 + 1))) hcROW_180)
        refine lv_aload_n hx hb dX10_law_244 rfl (lv_at hl 0 rfl) ?_
        refine lv_aload_n hx hb dX10_law_245 rfl (lv_at hl 0 rfl) ?_
        refine tf_get hx hb hts inlX10 hown hK (ci := 10) rfl hW ha0 rfl 3 rfl (by decide) (hts _ fl_X10_13) dX10_law_246 (fun v19 hv19 hsv19 => ?_)
        obtain rfl : v19 = .ref b0 := Option.some.inj (hsv19.symm.trans hs9)
        refine tf_iconst hx hb dX10_law_249 ?_
        refine tf_iald (t0 := 0) hx hb hK hW hb0 rfl rfl (by omega) (by omega) dX10_law_250 (fun v20 hv20 hsv20 => ?_)
        obtain ⟨z21, rfl, hz21⟩ := tf_v0 hv20
        have er22 : (tf_up rROW_180 (1) ((z5 + 1))) 1 = z21 := hu8 ▸ tf_rw_of (by omega) hsv20 ⟨by omega, by omega⟩
        have hg23 := tf_rd1 (tf_ROof hW hb0) hsv20 ⟨by omega, by omega⟩ (by omega)
        refine tf_iconst hx hb dX10_law_251 ?_
        refine tf_isub hx hb dX10_law_252 ?_
        refine tf_calli (va_runV (As := [.int (Int32.ofInt ((z21 - 1)))]) (rest := []) ⟨hx, hb, hml, hown, hts⟩ (c_X10_tell l g T a0 ha0 ((z21 - 1)) ⟨by omega, by omega⟩) (cwV 1 hts gv_X10_117 rfl rfl rfl hd_X10_tell ⟨Nat.le_trans (by decide) hR1, Nat.le_trans (by decide) hR2⟩) (tf_preV hk hW ha0 (ci := 10) rfl rfl trivial) rfl rfl hl.1 rfl (lv_room (Nat.le_of_ble_eq_true rfl)) dX10_law_253 ⟨Nat.zero_le _, Nat.zero_le _⟩) hW (by decide) (fun z24 H24 locs24 hW hF24 hp24 => ?_)
        have hs25 := tf_keepF hF24 ha0 rfl rfl (by decide) hs9
        have hs26 := tf_keepF hF24 ha0 rfl rfl (by decide) hs10
        have hs27 := tf_keepF hF24 ha0 rfl rfl (by decide) hs11
        have hs28 := tf_keepF hF24 ha0 rfl rfl (by decide) hs12
        have hs29 := tf_keepF hF24 ha0 rfl rfl (by decide) hs13
        have hs30 := tf_keepF hF24 ha0 rfl rfl (by decide) hs14
        have hs31 := tf_keepC hF24 hqop rfl (by decide) hs15
        have hs32 := tf_keepC hF24 hqar rfl (by decide) hs16
        have hs33 := tf_keepC hF24 hqcl rfl (by decide) hs17
        have hs34 := tf_keepF hF24 ha0 rfl rfl (by decide) hs18
        have hs35 := tf_keepC hF24 hb0 rfl (by decide) hu8
        obtain ⟨hp24_0, hp24_1, hp24_2⟩ := hp24
        exact tf_reti (z := z24) hx hb hr hlocks hQ hW ⟨by omega, by omega, ⟨(f8_180), (f13_180), (tf_up rROW_180 (1) ((z5 + 1))), hs35, hs34, hs30, ⟨by omega, by omega⟩, ⟨by omega, by omega⟩, (by first | assumption | omega), (by first | exact tf_kl_rf | exact tf_kl_up1 (tf_kp_l2 hRROW_180 (by omega))), (Or.inr ⟨by omega, hq0 (by omega), Or.inl ⟨(by have e1 := er22; rw [tf_up_at] at e1; omega), (by rw [tf_up_at]; omega), (by rw [show f13_180 = -1 by omega]; exact hi5_180)⟩⟩)⟩⟩ dX10_law_256
      · refine lv_aload_n hx hb dX10_law_188 rfl (lv_at hl 0 rfl) ?_
        refine tf_get hx hb hts inlX10 hown hK (ci := 10) rfl hW ha0 rfl 3 rfl (by decide) (hts _ fl_X10_13) dX10_law_189 (fun v36 hv36 hsv36 => ?_)
        obtain rfl : v36 = .ref b0 := Option.some.inj (hsv36.symm.trans hs3_180)
        refine lv_iload_n hx hb dX10_law_192 rfl (lv_at hl 1 rfl) ?_
        refine tf_bipush hx hb dX10_law_193 (by decide) ?_
        refine tf_iadd hx hb dX10_law_195 ?_
        refine tf_iconst hx hb dX10_law_196 ?_
        refine lv_iload_n hx hb dX10_law_197 rfl (lv_at hl 2 rfl) ?_
        refine tf_imul hx hb dX10_law_198 ?_
        refine tf_iadd hx hb dX10_law_199 ?_
        refine lv_aload_n hx hb dX10_law_200 rfl (lv_at hl 0 rfl) ?_
        refine tf_get hx hb hts inlX10 hown hK (ci := 10) rfl hW ha0 rfl 18 rfl (by decide) (hts _ fl_X10_33) dX10_law_201 (fun v37 hv37 hsv37 => ?_)
        obtain rfl : v37 = .ref qop := Option.some.inj (hsv37.symm.trans hs18_180)
        refine lv_iload_n hx hb dX10_law_204 rfl (lv_at hl 2 rfl) ?_
        refine tf_iald (t0 := 0) hx hb hK hW hqop rfl rfl (by omega) (by omega) dX10_law_205 (fun v38 hv38 hsv38 => ?_)
        obtain ⟨z39, rfl, hz39⟩ := tf_v0 hv38
        have er40 : rNOP_180 x2_180 = z39 := hcNOP_180 ▸ tf_rw_of (by omega) hsv38 ⟨by omega, by omega⟩
        refine tf_rwst (t0 := 0) hx hb hK hW hb0 rfl rfl (by omega) (by omega) (by decide) (tf_u0 (by omega) (by omega)) ⟨by omega, by omega⟩ trivial dX10_law_206 (fun H41 locs41 hW hu41 hq41 => ?_)
        have hZ := tf_zz_st hZ hq41
        have hs42 := tf_keepQ hs3_180 (hq41 _ (tf_ne ha0 hb0 (by decide)))
        have hs43 := tf_keepQ hs18_180 (hq41 _ (tf_ne ha0 hb0 (by decide)))
        have hs44 := tf_keepQ hs19_180 (hq41 _ (tf_ne ha0 hb0 (by decide)))
        have hs45 := tf_keepQ hs17_180 (hq41 _ (tf_ne ha0 hb0 (by decide)))
        have hs46 := tf_keepQ hs15_180 (hq41 _ (tf_ne ha0 hb0 (by decide)))
        have hs47 := tf_keepQ hs13_180 (hq41 _ (tf_ne ha0 hb0 (by decide)))
        have hs48 := tf_keepCQ hcNOP_180 (hq41 _ (tf_ne hqop hb0 (by decide)))
        have hs49 := tf_keepCQ hcNAR_180 (hq41 _ (tf_ne hqar hb0 (by decide)))
        have hs50 := tf_keepCQ hcNCL_180 (hq41 _ (tf_ne hqcl hb0 (by decide)))
        have hs51 := tf_keepQ hs8_180 (hq41 _ (tf_ne ha0 hb0 (by decide)))
        have hu41 := hu41.trans (congrArg (fun w => tf_up w (((x1_180 + 98) + (2 * x2_180))) (z39)) hcROW_180)
        refine lv_aload_n hx hb dX10_law_207 rfl (lv_at hl 0 rfl) ?_
        refine tf_get hx hb hts inlX10 hown hK (ci := 10) rfl hW ha0 rfl 3 rfl (by decide) (hts _ fl_X10_13) dX10_law_208 (fun v52 hv52 hsv52 => ?_)
        obtain rfl : v52 = .ref b0 := Option.some.inj (hsv52.symm.trans hs42)
        refine lv_iload_n hx hb dX10_law_211 rfl (lv_at hl 1 rfl) ?_
        refine tf_bipush hx hb dX10_law_212 (by decide) ?_
        refine tf_iadd hx hb dX10_law_214 ?_
        refine tf_iconst hx hb dX10_law_215 ?_
        refine lv_iload_n hx hb dX10_law_216 rfl (lv_at hl 2 rfl) ?_
        refine tf_imul hx hb dX10_law_217 ?_
        refine tf_iadd hx hb dX10_law_218 ?_
        refine tf_iconst hx hb dX10_law_219 ?_
        refine tf_iadd hx hb dX10_law_220 ?_
        refine lv_aload_n hx hb dX10_law_221 rfl (lv_at hl 0 rfl) ?_
        refine tf_get hx hb hts inlX10 hown hK (ci := 10) rfl hW ha0 rfl 19 rfl (by decide) (hts _ fl_X10_36) dX10_law_222 (fun v53 hv53 hsv53 => ?_)
        obtain rfl : v53 = .ref qar := Option.some.inj (hsv53.symm.trans hs44)
        refine lv_iload_n hx hb dX10_law_225 rfl (lv_at hl 2 rfl) ?_
        refine tf_iald (t0 := 0) hx hb hK hW hqar rfl rfl (by omega) (by omega) dX10_law_226 (fun v54 hv54 hsv54 => ?_)
        obtain ⟨z55, rfl, hz55⟩ := tf_v0 hv54
        have er56 : rNAR_180 x2_180 = z55 := hs49 ▸ tf_rw_of (by omega) hsv54 ⟨by omega, by omega⟩
        refine tf_rwst (t0 := 0) hx hb hK hW hb0 rfl rfl (by omega) (by omega) (by decide) (tf_u0 (by omega) (by omega)) ⟨by omega, by omega⟩ trivial dX10_law_227 (fun H57 locs57 hW hu57 hq57 => ?_)
        have hZ := tf_zz_st hZ hq57
        have hs58 := tf_keepQ hs42 (hq57 _ (tf_ne ha0 hb0 (by decide)))
        have hs59 := tf_keepQ hs43 (hq57 _ (tf_ne ha0 hb0 (by decide)))
        have hs60 := tf_keepQ hs44 (hq57 _ (tf_ne ha0 hb0 (by decide)))
        have hs61 := tf_keepQ hs45 (hq57 _ (tf_ne ha0 hb0 (by decide)))
        have hs62 := tf_keepQ hs46 (hq57 _ (tf_ne ha0 hb0 (by decide)))
        have hs63 := tf_keepQ hs47 (hq57 _ (tf_ne ha0 hb0 (by decide)))
        have hs64 := tf_keepCQ hs48 (hq57 _ (tf_ne hqop hb0 (by decide)))
        have hs65 := tf_keepCQ hs49 (hq57 _ (tf_ne hqar hb0 (by decide)))
        have hs66 := tf_keepCQ hs50 (hq57 _ (tf_ne hqcl hb0 (by decide)))
        have hs67 := tf_keepQ hs51 (hq57 _ (tf_ne ha0 hb0 (by decide)))
        have hu57 := hu57.trans (congrArg (fun w => tf_up w ((((x1_180 + 98) + (2 * x2_180)) + 1)) (z55)) hu41)
        refine lv_iinc (v := Int32.ofInt ((x2_180 + 1))) (lv' := [(2, .int (Int32.ofInt ((x2_180 + 1)))), (0, .ref a0), (1, .int (Int32.ofInt x1_180))]) hx hb dX10_law_228 hl (k := 2) rfl (Int32.ofInt_add _ _).symm (by decide) rfl (fun ls hl => ?_)
        refine lv_goto (tgt := 180) hx hb dX10_law_231 (by decide) ?_
        exact ih_180 (x1_180) ⟨by omega, by omega⟩ ((x2_180 + 1)) ⟨by omega, by omega⟩ (f17_180) ⟨by omega, by omega⟩ (f15_180) ⟨by omega, by omega⟩ (f13_180) ⟨by omega, by omega⟩ rNOP_180 (trivial) rNAR_180 (trivial) rNCL_180 (trivial) (f8_180) ⟨by omega, by omega⟩ (tf_up (tf_up rROW_180 (((x1_180 + 98) + (2 * x2_180))) (z39)) ((((x1_180 + 98) + (2 * x2_180)) + 1)) (z55)) (by first | exact tf_l2_0 hRROW_145 (by omega) | exact tf_l2_st hRROW_180 (by omega) (by omega) (by omega) er40 er56) (by first | assumption | omega) (by first | assumption | omega) (by first | assumption | omega) (by first | assumption | omega) (by first | assumption | omega) (by first | assumption | omega) (by omega) _ _ hW hs58 hs59 hs60 hs61 hs62 hs63 hs64 hs65 hs66 hs67 hu57 hZ _ (lv_sub hl [1, 2, 0] rfl)
  have j_145 : ∀ (n_145 : Nat), ∀ (x1_145 : Int), 430 ≤ x1_145 ∧ x1_145 ≤ 4930 → ∀ (x2_145 : Int), 0 ≤ x2_145 ∧ x2_145 ≤ 96 → ∀ (f17_145 : Int), 0 ≤ f17_145 ∧ f17_145 ≤ 400 → ∀ (f15_145 : Int), 0 ≤ f15_145 ∧ f15_145 ≤ 12 → ∀ (f13_145 : Int), (-2147483648) ≤ f13_145 ∧ f13_145 ≤ 2147483647 → ∀ (rNOP_145 : Int → Int), (True) → ∀ (rNAR_145 : Int → Int), (True) → ∀ (rNCL_145 : Int → Int), (True) → ∀ (f8_145 : Int), 0 ≤ f8_145 ∧ f8_145 ≤ 0 → ∀ (rROW_145 : Int → Int), (tf_l1 r0 rNCL_145 x1_145 f15_145 x2_145 rROW_145) → (tf_CL rNCL_145 rNOP_145 rNAR_145 f15_145 f17_145) → (x1_145 = 430 + 900 * r0 1) → (r0 1 ≤ 5) → (x2_145 ≤ 8 * f15_145) → (f13_145 = -1) → (tf_FIN ss pp mm 1 (-1)) → (8 * f15_145 - x2_145 + 1 ≤ (n_145 : Int)) → ∀ (H : Heap) (locs : List Loc), tf_n tf_ktw g M_X10_law T s.heap T H locs → tf_s H a0 (g.1.2 10 3) = some (.ref b0) → tf_s H a0 (g.1.2 10 18) = some (.ref qop) → tf_s H a0 (g.1.2 10 19) = some (.ref qar) → tf_s H a0 (g.1.2 10 16) = some (.ref qcl) → tf_s H a0 (g.1.2 10 17) = some (.int (Int32.ofInt f17_145)) → tf_s H a0 (g.1.2 10 15) = some (.int (Int32.ofInt f15_145)) → tf_s H a0 (g.1.2 10 13) = some (.int (Int32.ofInt f13_145)) → tf_rw H qop = rNOP_145 → tf_rw H qar = rNAR_145 → tf_rw H qcl = rNCL_145 → tf_s H a0 (g.1.2 10 8) = some (.int (Int32.ofInt f8_145)) → tf_rw H b0 = rROW_145 → tf_zz g T b0 H → ∀ (ls : Array Slot), lv_has ls 3 [(0, .ref a0), (1, .int (Int32.ofInt x1_145)), (2, .int (Int32.ofInt x2_145))] → W p l e R s m args below meth c H locs 0 0 Q (F0 m 145 ls []) := by
    intro n_145
    induction n_145 with
    | zero =>
      intro x1_145 hx1_145 x2_145 hx2_145 f17_145 hf17_145 f15_145 hf15_145 f13_145 hf13_145 rNOP_145 hRNOP_145 rNAR_145 hRNAR_145 rNCL_145 hRNCL_145 f8_145 hf8_145 rROW_145 hRROW_145 hi0_145 hi1_145 hi2_145 hi3_145 hi4_145 hi5_145 hm_145
      exfalso; omega
    | succ n_145 ih_145 =>
      intro x1_145 hx1_145 x2_145 hx2_145 f17_145 hf17_145 f15_145 hf15_145 f13_145 hf13_145 rNOP_145 hRNOP_145 rNAR_145 hRNAR_145 rNCL_145 hRNCL_145 f8_145 hf8_145 rROW_145 hRROW_145 hi0_145 hi1_145 hi2_145 hi3_145 hi4_145 hi5_145 hm_145 H locs hW hs3_145 hs18_145 hs19_145 hs16_145 hs17_145 hs15_145 hs13_145 hcNOP_145 hcNAR_145 hcNCL_145 hs8_145 hcROW_145 hZ ls hl
      refine lv_iload_n hx hb dX10_law_145 rfl (lv_at hl 2 rfl) ?_
      refine tf_bipush hx hb dX10_law_146 (by decide) ?_
      refine lv_aload_n hx hb dX10_law_148 rfl (lv_at hl 0 rfl) ?_
      refine tf_get hx hb hts inlX10 hown hK (ci := 10) rfl hW ha0 rfl 15 rfl (by decide) (hts _ fl_X10_317) dX10_law_149 (fun v68 hv68 hsv68 => ?_)
      obtain rfl : v68 = .int (Int32.ofInt f15_145) := Option.some.inj (hsv68.symm.trans hs15_145)
      refine tf_imul hx hb dX10_law_152 ?_
      refine tf_icmp_ge (tgt := 178) hx hb ⟨by omega, by omega⟩ ⟨by omega, by omega⟩ dX10_law_153 (by decide) (fun h69 => ?_) (fun h69 => ?_)
      · refine tf_iconst hx hb dX10_law_178 ?_
        refine lv_istore_n (lv' := [(2, .int (Int32.ofInt 0)), (0, .ref a0), (1, .int (Int32.ofInt x1_145))]) hx hb dX10_law_179 rfl hl (by decide) rfl (fun ls hl => ?_)
        exact j_180 ((f17_145 - 0 + 1 : Int)).toNat (x1_145) ⟨by omega, by omega⟩ (0) ⟨by omega, by omega⟩ (f17_145) ⟨by omega, by omega⟩ (f15_145) ⟨by omega, by omega⟩ (f13_145) ⟨by omega, by omega⟩ rNOP_145 (trivial) rNAR_145 (trivial) rNCL_145 (trivial) (f8_145) ⟨by omega, by omega⟩ rROW_145 (by first | exact tf_l2_0 hRROW_145 (by omega) | exact tf_l2_st hRROW_180 (by omega) (by omega) (by omega) hno_ hno_) (by first | assumption | omega) (by first | assumption | omega) (by first | assumption | omega) (by first | assumption | omega) (by first | assumption | omega) (by first | assumption | omega) (by omega) _ _ hW hs3_145 hs18_145 hs19_145 hs17_145 hs15_145 hs13_145 hcNOP_145 hcNAR_145 hcNCL_145 hs8_145 hcROW_145 hZ _ (lv_sub hl [1, 2, 0] rfl)
      · refine lv_aload_n hx hb dX10_law_156 rfl (lv_at hl 0 rfl) ?_
        refine tf_get hx hb hts inlX10 hown hK (ci := 10) rfl hW ha0 rfl 3 rfl (by decide) (hts _ fl_X10_13) dX10_law_157 (fun v70 hv70 hsv70 => ?_)
        obtain rfl : v70 = .ref b0 := Option.some.inj (hsv70.symm.trans hs3_145)
        refine lv_iload_n hx hb dX10_law_160 rfl (lv_at hl 1 rfl) ?_
        refine tf_iconst hx hb dX10_law_161 ?_
        refine tf_iadd hx hb dX10_law_162 ?_
        refine lv_iload_n hx hb dX10_law_163 rfl (lv_at hl 2 rfl) ?_
        refine tf_iadd hx hb dX10_law_164 ?_
        refine lv_aload_n hx hb dX10_law_165 rfl (lv_at hl 0 rfl) ?_
        refine tf_get hx hb hts inlX10 hown hK (ci := 10) rfl hW ha0 rfl 16 rfl (by decide) (hts _ fl_X10_30) dX10_law_166 (fun v71 hv71 hsv71 => ?_)
        obtain rfl : v71 = .ref qcl := Option.some.inj (hsv71.symm.trans hs16_145)
        refine lv_iload_n hx hb dX10_law_169 rfl (lv_at hl 2 rfl) ?_
        refine tf_iald (t0 := 0) hx hb hK hW hqcl rfl rfl (by omega) (by omega) dX10_law_170 (fun v72 hv72 hsv72 => ?_)
        obtain ⟨z73, rfl, hz73⟩ := tf_v0 hv72
        have er74 : rNCL_145 x2_145 = z73 := hcNCL_145 ▸ tf_rw_of (by omega) hsv72 ⟨by omega, by omega⟩
        refine tf_rwst (t0 := 0) hx hb hK hW hb0 rfl rfl (by omega) (by omega) (by decide) (tf_u0 (by omega) (by omega)) ⟨by omega, by omega⟩ trivial dX10_law_171 (fun H75 locs75 hW hu75 hq75 => ?_)
        have hZ := tf_zz_st hZ hq75
        have hs76 := tf_keepQ hs3_145 (hq75 _ (tf_ne ha0 hb0 (by decide)))
        have hs77 := tf_keepQ hs18_145 (hq75 _ (tf_ne ha0 hb0 (by decide)))
        have hs78 := tf_keepQ hs19_145 (hq75 _ (tf_ne ha0 hb0 (by decide)))
        have hs79 := tf_keepQ hs16_145 (hq75 _ (tf_ne ha0 hb0 (by decide)))
        have hs80 := tf_keepQ hs17_145 (hq75 _ (tf_ne ha0 hb0 (by decide)))
        have hs81 := tf_keepQ hs15_145 (hq75 _ (tf_ne ha0 hb0 (by decide)))
        have hs82 := tf_keepQ hs13_145 (hq75 _ (tf_ne ha0 hb0 (by decide)))
        have hs83 := tf_keepCQ hcNOP_145 (hq75 _ (tf_ne hqop hb0 (by decide)))
        have hs84 := tf_keepCQ hcNAR_145 (hq75 _ (tf_ne hqar hb0 (by decide)))
        have hs85 := tf_keepCQ hcNCL_145 (hq75 _ (tf_ne hqcl hb0 (by decide)))
        have hs86 := tf_keepQ hs8_145 (hq75 _ (tf_ne ha0 hb0 (by decide)))
        have hu75 := hu75.trans (congrArg (fun w => tf_up w (((x1_145 + 2) + x2_145)) (z73)) hcROW_145)
        refine lv_iinc (v := Int32.ofInt ((x2_145 + 1))) (lv' := [(2, .int (Int32.ofInt ((x2_145 + 1)))), (0, .ref a0), (1, .int (Int32.ofInt x1_145))]) hx hb dX10_law_172 hl (k := 2) rfl (Int32.ofInt_add _ _).symm (by decide) rfl (fun ls hl => ?_)
        refine lv_goto (tgt := 145) hx hb dX10_law_175 (by decide) ?_
        exact ih_145 (x1_145) ⟨by omega, by omega⟩ ((x2_145 + 1)) ⟨by omega, by omega⟩ (f17_145) ⟨by omega, by omega⟩ (f15_145) ⟨by omega, by omega⟩ (f13_145) ⟨by omega, by omega⟩ rNOP_145 (trivial) rNAR_145 (trivial) rNCL_145 (trivial) (f8_145) ⟨by omega, by omega⟩ (tf_up rROW_145 (((x1_145 + 2) + x2_145)) (z73)) (by first | exact tf_l1_0 | exact tf_l1_st hRROW_145 (by omega) (by omega) er74) (by first | assumption | exact hi2_51.resolve_left (by omega)) (by first | assumption | omega) (by first | assumption | omega) (by first | assumption | omega) (by first | assumption | omega) (by first | assumption | exact tf_FIN_c hi4_51 (by omega) (by omega) | (exfalso; omega)) (by omega) _ _ hW hs76 hs77 hs78 hs79 hs80 hs81 hs82 hs83 hs84 hs85 hs86 hu75 hZ _ (lv_sub hl [1, 2, 0] rfl)
  have j_51 : ∀ (n_51 : Nat), ∀ (f14_51 : Int), 0 ≤ f14_51 ∧ f14_51 ≤ 1 → ∀ (f9_51 : Int), 0 ≤ f9_51 ∧ f9_51 ≤ 400 → ∀ (f10_51 : Int), 0 ≤ f10_51 ∧ f10_51 ≤ 400 → ∀ (f11_51 : Int), 0 ≤ f11_51 ∧ f11_51 ≤ 3 → ∀ (f12_51 : Int), (-9223372036854775808) ≤ f12_51 ∧ f12_51 ≤ 9223372036854775807 → ∀ (f17_51 : Int), 0 ≤ f17_51 ∧ f17_51 ≤ 400 → ∀ (f15_51 : Int), 0 ≤ f15_51 ∧ f15_51 ≤ 12 → ∀ (f13_51 : Int), (-2147483648) ≤ f13_51 ∧ f13_51 ≤ 2147483647 → ∀ (f20_51 : Int), 0 ≤ f20_51 ∧ f20_51 ≤ 50 → ∀ (rNOP_51 : Int → Int), (True) → ∀ (rNAR_51 : Int → Int), (True) → ∀ (rNCL_51 : Int → Int), (True) → (f9_51 ≤ f10_51 ∧ f10_51 ≤ t0 ∧ (f11_51 = 0 → f9_51 = t0) ∧ (f11_51 ≠ 0 → f9_51 < f10_51) ∧ (f11_51 = 1 → 26 < f12_51 → f9_51 + 2 ≤ f10_51)) → (f17_51 ≤ f9_51) → (f14_51 = 1 ∨ tf_CL rNCL_51 rNOP_51 rNAR_51 f15_51 f17_51) → (r0 1 ≤ 5) → (tf_CE tp t0 ss pp mm (0, 5, 0, [], 0, 0, 0) f14_51 f13_51 f9_51 f10_51 f11_51 f12_51 f20_51 f15_51) → (f14_51 = 1 ∨ f13_51 = -1) → (tf_CX tp t0 ss pp mm gW) → (401 - f9_51 + 1 ≤ (n_51 : Int)) → ∀ (H : Heap) (locs : List Loc), tf_n tf_kt g M_X10_law T s.heap T H locs → tf_s H a0 (g.1.2 10 3) = some (.ref b0) → tf_rw H b0 = r0 → tf_s H a0 (g.1.2 10 8) = some (.int (Int32.ofInt t0)) → tf_s H a0 (g.1.2 10 7) = some (.ref tm) → tf_rw H tm = tp → tf_s H a0 (g.1.2 10 25) = some (.ref wd) → tf_rw H wd = gW → tf_s H a0 (g.1.2 10 18) = some (.ref qop) → tf_s H a0 (g.1.2 10 19) = some (.ref qar) → tf_s H a0 (g.1.2 10 16) = some (.ref qcl) → tf_s H a0 (g.1.2 10 14) = some (.int (Int32.ofInt f14_51)) → tf_s H a0 (g.1.2 10 9) = some (.int (Int32.ofInt f9_51)) → tf_s H a0 (g.1.2 10 10) = some (.int (Int32.ofInt f10_51)) → tf_s H a0 (g.1.2 10 11) = some (.int (Int32.ofInt f11_51)) → tf_s H a0 (g.1.2 10 12) = some (.long (Int64.ofInt f12_51)) → tf_s H a0 (g.1.2 10 17) = some (.int (Int32.ofInt f17_51)) → tf_s H a0 (g.1.2 10 15) = some (.int (Int32.ofInt f15_51)) → tf_s H a0 (g.1.2 10 13) = some (.int (Int32.ofInt f13_51)) → tf_s H a0 (g.1.2 10 20) = some (.int (Int32.ofInt f20_51)) → tf_rw H qop = rNOP_51 → tf_rw H qar = rNAR_51 → tf_rw H qcl = rNCL_51 → ∀ (ls : Array Slot), lv_has ls 3 [(0, .ref a0)] → W p l e R s m args below meth c H locs 0 0 Q (F0 m 51 ls []) := by
    intro n_51
    induction n_51 with
    | zero =>
      intro f14_51 hf14_51 f9_51 hf9_51 f10_51 hf10_51 f11_51 hf11_51 f12_51 hf12_51 f17_51 hf17_51 f15_51 hf15_51 f13_51 hf13_51 f20_51 hf20_51 rNOP_51 hRNOP_51 rNAR_51 hRNAR_51 rNCL_51 hRNCL_51 hi0_51 hi1_51 hi2_51 hi3_51 hi4_51 hi5_51 hi6_51 hm_51
      exfalso; omega
    | succ n_51 ih_51 =>
      intro f14_51 hf14_51 f9_51 hf9_51 f10_51 hf10_51 f11_51 hf11_51 f12_51 hf12_51 f17_51 hf17_51 f15_51 hf15_51 f13_51 hf13_51 f20_51 hf20_51 rNOP_51 hRNOP_51 rNAR_51 hRNAR_51 rNCL_51 hRNCL_51 hi0_51 hi1_51 hi2_51 hi3_51 hi4_51 hi5_51 hi6_51 hm_51 H locs hW hs3_51 hcROW_51 hs8_51 hs7_51 hcTPM_51 hs25_51 hcLWD_51 hs18_51 hs19_51 hs16_51 hs14_51 hs9_51 hs10_51 hs11_51 hs12_51 hs17_51 hs15_51 hs13_51 hs20_51 hcNOP_51 hcNAR_51 hcNCL_51 ls hl
      refine lv_aload_n hx hb dX10_law_51 rfl (lv_at hl 0 rfl) ?_
      refine tf_get hx hb hts inlX10 hown hK (ci := 10) rfl hW ha0 rfl 14 rfl (by decide) (hts _ fl_X10_200) dX10_law_52 (fun v87 hv87 hsv87 => ?_)
      obtain rfl : v87 = .int (Int32.ofInt f14_51) := Option.some.inj (hsv87.symm.trans hs14_51)
      refine tf_if_ne (tgt := 78) hx hb ⟨by omega, by omega⟩ dX10_law_55 (by decide) (fun h88 => ?_) (fun h88 => ?_)
      · refine lv_aload_n hx hb dX10_law_78 rfl (lv_at hl 0 rfl) ?_
        refine tf_get hx hb hts inlX10 hown hK (ci := 10) rfl hW ha0 rfl 14 rfl (by decide) (hts _ fl_X10_200) dX10_law_79 (fun v89 hv89 hsv89 => ?_)
        obtain rfl : v89 = .int (Int32.ofInt f14_51) := Option.some.inj (hsv89.symm.trans hs14_51)
        refine tf_if_ne (tgt := 97) hx hb ⟨by omega, by omega⟩ dX10_law_82 (by decide) (fun h90 => ?_) (fun h90 => ?_)
        · refine lv_aload_n hx hb dX10_law_97 rfl (lv_at hl 0 rfl) ?_
          refine tf_iconst hx hb dX10_law_98 ?_
          refine tf_put hx hb hts inlX10 tyX10 tyX10_ok nmX10 hown hK (ci := 10) rfl hW ha0 rfl rfl 8 rfl (by decide) (by decide) (hts _ fl_X10_183) rfl (tf_u0 (by omega) (by omega)) rfl rfl dX10_law_99 (fun H91 locs91 hW hs91 ht91 hq91 => ?_)
          have hs92 := (ht91 3 (by decide) (by decide)).trans hs3_51
          have hs93 := tf_keepCQ hcROW_51 (hq91 _ (tf_ne hb0 ha0 (by decide)))
          have hs94 := (ht91 7 (by decide) (by decide)).trans hs7_51
          have hs95 := tf_keepCQ hcTPM_51 (hq91 _ (tf_ne htm ha0 (by decide)))
          have hs96 := (ht91 25 (by decide) (by decide)).trans hs25_51
          have hs97 := tf_keepCQ hcLWD_51 (hq91 _ (tf_ne hwd ha0 (by decide)))
          have hs98 := (ht91 18 (by decide) (by decide)).trans hs18_51
          have hs99 := (ht91 19 (by decide) (by decide)).trans hs19_51
          have hs100 := (ht91 16 (by decide) (by decide)).trans hs16_51
          have hs101 := (ht91 14 (by decide) (by decide)).trans hs14_51
          have hs102 := (ht91 9 (by decide) (by decide)).trans hs9_51
          have hs103 := (ht91 10 (by decide) (by decide)).trans hs10_51
          have hs104 := (ht91 11 (by decide) (by decide)).trans hs11_51
          have hs105 := (ht91 12 (by decide) (by decide)).trans hs12_51
          have hs106 := (ht91 17 (by decide) (by decide)).trans hs17_51
          have hs107 := (ht91 15 (by decide) (by decide)).trans hs15_51
          have hs108 := (ht91 13 (by decide) (by decide)).trans hs13_51
          have hs109 := (ht91 20 (by decide) (by decide)).trans hs20_51
          have hs110 := tf_keepCQ hcNOP_51 (hq91 _ (tf_ne hqop ha0 (by decide)))
          have hs111 := tf_keepCQ hcNAR_51 (hq91 _ (tf_ne hqar ha0 (by decide)))
          have hs112 := tf_keepCQ hcNCL_51 (hq91 _ (tf_ne hqcl ha0 (by decide)))
          refine lv_aload_n hx hb dX10_law_102 rfl (lv_at hl 0 rfl) ?_
          refine tf_get hx hb hts inlX10 hown hK (ci := 10) rfl hW ha0 rfl 14 rfl (by decide) (hts _ fl_X10_200) dX10_law_103 (fun v113 hv113 hsv113 => ?_)
          obtain rfl : v113 = .int (Int32.ofInt f14_51) := Option.some.inj (hsv113.symm.trans hs101)
          refine tf_if_eq (tgt := 116) hx hb ⟨by omega, by omega⟩ dX10_law_106 (by decide) (fun h114 => ?_) (fun h114 => ?_)
          · exfalso; omega
          · refine lv_aload_n hx hb dX10_law_109 rfl (lv_at hl 0 rfl) ?_
            refine tf_bipush hx hb dX10_law_110 (by decide) ?_
            refine tf_calli (va_runV (As := [.int (Int32.ofInt ((-6)))]) (rest := []) ⟨hx, hb, hml, hown, hts⟩ (c_X10_tell l g T a0 ha0 ((-6)) ⟨by omega, by omega⟩) (cwV 1 hts gv_X10_117 rfl rfl rfl hd_X10_tell ⟨Nat.le_trans (by decide) hR1, Nat.le_trans (by decide) hR2⟩) (tf_preV hk hW ha0 (ci := 10) rfl rfl trivial) rfl rfl hl.1 rfl (lv_room (Nat.le_of_ble_eq_true rfl)) dX10_law_112 ⟨Nat.zero_le _, Nat.zero_le _⟩) hW (by decide) (fun z115 H115 locs115 hW hF115 hp115 => ?_)
            have hs116 := tf_keepF hF115 ha0 rfl rfl (by decide) hs92
            have hs117 := tf_keepC hF115 hb0 rfl (by decide) hs93
            have hs118 := tf_keepF hF115 ha0 rfl rfl (by decide) hs94
            have hs119 := tf_keepC hF115 htm rfl (by decide) hs95
            have hs120 := tf_keepF hF115 ha0 rfl rfl (by decide) hs96
            have hs121 := tf_keepC hF115 hwd rfl (by decide) hs97
            have hs122 := tf_keepF hF115 ha0 rfl rfl (by decide) hs98
            have hs123 := tf_keepF hF115 ha0 rfl rfl (by decide) hs99
            have hs124 := tf_keepF hF115 ha0 rfl rfl (by decide) hs100
            have hs125 := tf_keepF hF115 ha0 rfl rfl (by decide) hs101
            have hs126 := tf_keepF hF115 ha0 rfl rfl (by decide) hs102
            have hs127 := tf_keepF hF115 ha0 rfl rfl (by decide) hs103
            have hs128 := tf_keepF hF115 ha0 rfl rfl (by decide) hs104
            have hs129 := tf_keepF hF115 ha0 rfl rfl (by decide) hs105
            have hs130 := tf_keepF hF115 ha0 rfl rfl (by decide) hs106
            have hs131 := tf_keepF hF115 ha0 rfl rfl (by decide) hs107
            have hs132 := tf_keepF hF115 ha0 rfl rfl (by decide) hs108
            have hs133 := tf_keepF hF115 ha0 rfl rfl (by decide) hs109
            have hs134 := tf_keepC hF115 hqop rfl (by decide) hs110
            have hs135 := tf_keepC hF115 hqar rfl (by decide) hs111
            have hs136 := tf_keepC hF115 hqcl rfl (by decide) hs112
            have hs137 := tf_keepF hF115 ha0 rfl rfl (by decide) hs91
            obtain ⟨hp115_0, hp115_1, hp115_2⟩ := hp115
            exact tf_reti (z := z115) hx hb hr hlocks hQ hW ⟨by omega, by omega, ⟨(0), (f13_51), r0, hs117, hs137, hs132, ⟨by omega, by omega⟩, ⟨by omega, by omega⟩, (by first | assumption | omega), (by first | exact tf_kl_rf | exact tf_kl_up1 (tf_kp_l2 hRROW_180 (by omega))), (by first | exact Or.inr ⟨by omega, hi6_51.1, Or.inr ⟨by omega, rfl, tf_FIN_b hi4_51 (by omega) rfl⟩⟩ | exact Or.inr ⟨by omega, hi6_51.1, Or.inr ⟨by omega, rfl, tf_FIN_cm hi4_51 (by omega) (by omega) hn59 (by omega)⟩⟩)⟩⟩ dX10_law_115
        · exfalso; omega
      · refine lv_aload_n hx hb dX10_law_58 rfl (lv_at hl 0 rfl) ?_
        refine tf_bipush hx hb dX10_law_59 (by decide) ?_
        refine tf_calli (va_runV (As := [.int (Int32.ofInt 59)]) (rest := []) ⟨hx, hb, hml, hown, hts⟩ (c_X10_isSign l g T a0 ha0 (59) ⟨by omega, by omega⟩ (f11_51) ⟨by omega, by omega⟩ (f12_51) ⟨by omega, by omega⟩) (cwV 1 hts gv_X10_271 rfl rfl rfl hd_X10_isSign ⟨Nat.le_trans (by decide) hR1, Nat.le_trans (by decide) hR2⟩) (tf_preV hk hW ha0 (ci := 10) rfl rfl ⟨hs11_51, hs12_51⟩) rfl rfl hl.1 rfl (lv_room (Nat.le_of_ble_eq_true rfl)) dX10_law_61 ⟨Nat.zero_le _, Nat.zero_le _⟩) hW (by decide) (fun z138 H138 locs138 hW hF138 hp138 => ?_)
        have hs139 := tf_keepF hF138 ha0 rfl rfl (by decide) hs3_51
        have hs140 := tf_keepC hF138 hb0 rfl (by decide) hcROW_51
        have hs141 := tf_keepF hF138 ha0 rfl rfl (by decide) hs8_51
        have hs142 := tf_keepF hF138 ha0 rfl rfl (by decide) hs7_51
        have hs143 := tf_keepC hF138 htm rfl (by decide) hcTPM_51
        have hs144 := tf_keepF hF138 ha0 rfl rfl (by decide) hs25_51
        have hs145 := tf_keepC hF138 hwd rfl (by decide) hcLWD_51
        have hs146 := tf_keepF hF138 ha0 rfl rfl (by decide) hs18_51
        have hs147 := tf_keepF hF138 ha0 rfl rfl (by decide) hs19_51
        have hs148 := tf_keepF hF138 ha0 rfl rfl (by decide) hs16_51
        have hs149 := tf_keepF hF138 ha0 rfl rfl (by decide) hs14_51
        have hs150 := tf_keepF hF138 ha0 rfl rfl (by decide) hs9_51
        have hs151 := tf_keepF hF138 ha0 rfl rfl (by decide) hs10_51
        have hs152 := tf_keepF hF138 ha0 rfl rfl (by decide) hs11_51
        have hs153 := tf_keepF hF138 ha0 rfl rfl (by decide) hs12_51
        have hs154 := tf_keepF hF138 ha0 rfl rfl (by decide) hs17_51
        have hs155 := tf_keepF hF138 ha0 rfl rfl (by decide) hs15_51
        have hs156 := tf_keepF hF138 ha0 rfl rfl (by decide) hs13_51
        have hs157 := tf_keepF hF138 ha0 rfl rfl (by decide) hs20_51
        have hs158 := tf_keepC hF138 hqop rfl (by decide) hcNOP_51
        have hs159 := tf_keepC hF138 hqar rfl (by decide) hcNAR_51
        have hs160 := tf_keepC hF138 hqcl rfl (by decide) hcNCL_51
        rcases hp138 with ⟨rfl, h161⟩ | ⟨rfl, hn59⟩
        · refine tf_if_eq (tgt := 78) hx hb ⟨by decide, by decide⟩ dX10_law_64 (by decide) (fun h162 => ?_) (fun h162 => ?_)
          · exfalso; omega
          · obtain ⟨k8, hRe8, hL8⟩ := tf_CE_go hi4_51 (by omega)
            refine lv_aload_n hx hb dX10_law_67 rfl (lv_at hl 0 rfl) ?_
            refine tf_callv (va_runV (As := []) (rest := []) ⟨hx, hb, hml, hown, hts⟩ (c_X10_next l g T a0 ha0 tm htm (t0) ⟨by omega, by omega⟩ (f10_51) ⟨by omega, by omega⟩ tp (by first | assumption | omega)) (cwV 0 hts gv_X10_204 rfl rfl rfl hd_X10_next ⟨Nat.le_trans (by decide) hR1, Nat.le_trans (by decide) hR2⟩) (tf_preV hk hW ha0 (ci := 10) rfl rfl ⟨hs141, hs151, hs142, hs143⟩) rfl rfl hl.1 rfl (lv_room (Nat.le_of_ble_eq_true rfl)) dX10_law_68 ⟨Nat.zero_le _, Nat.zero_le _⟩) hW (by decide) (fun HN locsN hW hFN hpN => ?_)
            have hs163 := tf_keepF hFN ha0 rfl rfl (by decide) hs139
            have hs164 := tf_keepC hFN hb0 rfl (by decide) hs140
            have hs165 := tf_keepF hFN ha0 rfl rfl (by decide) hs141
            have hs166 := tf_keepF hFN ha0 rfl rfl (by decide) hs142
            have hs167 := tf_keepC hFN htm rfl (by decide) hs143
            have hs168 := tf_keepF hFN ha0 rfl rfl (by decide) hs144
            have hs169 := tf_keepC hFN hwd rfl (by decide) hs145
            have hs170 := tf_keepF hFN ha0 rfl rfl (by decide) hs146
            have hs171 := tf_keepF hFN ha0 rfl rfl (by decide) hs147
            have hs172 := tf_keepF hFN ha0 rfl rfl (by decide) hs148
            have hs173 := tf_keepF hFN ha0 rfl rfl (by decide) hs149
            have hs174 := tf_keepF hFN ha0 rfl rfl (by decide) hs154
            have hs175 := tf_keepF hFN ha0 rfl rfl (by decide) hs155
            have hs176 := tf_keepF hFN ha0 rfl rfl (by decide) hs156
            have hs177 := tf_keepF hFN ha0 rfl rfl (by decide) hs157
            have hs178 := tf_keepC hFN hqop rfl (by decide) hs158
            have hs179 := tf_keepC hFN hqar rfl (by decide) hs159
            have hs180 := tf_keepC hFN hqcl rfl (by decide) hs160
            obtain ⟨gf1_N, gt1_N, gs1_N, gw1_N, hXN_0, hXN_1, hXN_2, hXN_3, hBN_0, hBN_1, hBN_2, hBN_3, hRN_0, hRN_1, hRN_2⟩ := hpN
            refine lv_aload_n hx hb dX10_law_71 rfl (lv_at hl 0 rfl) ?_
            have hL1x := tf_LX_next hi6_51.1 hi6_51.2.1 hL8 hRN_2
            refine tf_callv (va_runV (As := []) (rest := []) ⟨hx, hb, hml, hown, hts⟩ (c_X10_readClause l g T a0 ha0 (ss) (pp) (mm) (tf_nx mm k8) qop hqop qar hqar qcl hqcl tm htm wd hwd (t0) ⟨by omega, by omega⟩ (gf1_N) ⟨by omega, by omega⟩ (gt1_N) ⟨by omega, by omega⟩ (gs1_N) ⟨by omega, by omega⟩ (gw1_N) ⟨by omega, by omega⟩ (f14_51) ⟨by omega, by omega⟩ (f17_51) ⟨by omega, by omega⟩ (f15_51) ⟨by omega, by omega⟩ (f13_51) ⟨by omega, by omega⟩ (f20_51) ⟨by omega, by omega⟩ rNOP_51 rNAR_51 rNCL_51 tp gW (by first | assumption | omega) (by first | assumption | omega) (by first | assumption | omega) (hi2_51.resolve_left (by omega)) (by first | assumption | omega) hL1x) (cwV 0 hts gv_X10_328 rfl rfl rfl hd_X10_readClause ⟨Nat.le_trans (by decide) hR1, Nat.le_trans (by decide) hR2⟩) (tf_preV hk hW ha0 (ci := 10) rfl rfl ⟨hs170, hs171, hs172, hs165, hXN_0, hXN_1, hXN_2, hXN_3, hs173, hs174, hs175, hs176, hs177, hs178, hs179, hs180, hs166, hs167, hs168, hs169⟩) rfl rfl hl.1 rfl (lv_room (Nat.le_of_ble_eq_true rfl)) dX10_law_72 ⟨Nat.zero_le _, Nat.zero_le _⟩) hW (by decide) (fun HD locsD hW hFD hpD => ?_)
            have hs181 := tf_keepF hFD ha0 rfl rfl (by decide) hs163
            have hs182 := tf_keepC hFD hb0 rfl (by decide) hs164
            have hs183 := tf_keepF hFD ha0 rfl rfl (by decide) hs165
            have hs184 := tf_keepF hFD ha0 rfl rfl (by decide) hs166
            have hs185 := tf_keepC hFD htm rfl (by decide) hs167
            have hs186 := tf_keepF hFD ha0 rfl rfl (by decide) hs168
            have hs187 := tf_keepC hFD hwd rfl (by decide) hs169
            have hs188 := tf_keepF hFD ha0 rfl rfl (by decide) hs170
            have hs189 := tf_keepF hFD ha0 rfl rfl (by decide) hs171
            have hs190 := tf_keepF hFD ha0 rfl rfl (by decide) hs172
            obtain ⟨gb1_D, gf1_D, gt1_D, gs1_D, gw1_D, gc1_D, gk1_D, gx1_D, gl1_D, rop1_D, rar1_D, rcl1_D, hXD_0, hXD_1, hXD_2, hXD_3, hXD_4, hXD_5, hXD_6, hXD_7, hXD_8, hXD_9, hXD_10, hXD_11, hBD_0, hBD_1, hBD_2, hBD_3, hBD_4, hBD_5, hBD_6, hBD_7, hBD_8, hRD_0, hRD_1, hRD_2, hRD_3, hRD_4, hRD_5⟩ := hpD
            refine lv_goto (tgt := 51) hx hb dX10_law_75 (by decide) ?_
            exact ih_51 (gb1_D) ⟨by omega, by omega⟩ (gf1_D) ⟨by omega, by omega⟩ (gt1_D) ⟨by omega, by omega⟩ (gs1_D) ⟨by omega, by omega⟩ (gw1_D) ⟨by omega, by omega⟩ (gc1_D) ⟨by omega, by omega⟩ (gk1_D) ⟨by omega, by omega⟩ (gx1_D) ⟨by omega, by omega⟩ (gl1_D) ⟨by omega, by omega⟩ rop1_D (trivial) rar1_D (trivial) rcl1_D (trivial) (by first | assumption | omega) (by first | assumption | omega) (by first | assumption | omega) (by first | assumption | omega) (by first | exact hRC_4 | exact tf_CE_tr hRe8 hL8 (by omega) (by omega) hRD_4) (by first | assumption | omega) (by first | assumption | omega) (by omega) _ _ hW hs181 hs182 hs183 hs184 hs185 hs186 hs187 hs188 hs189 hs190 hXD_0 hXD_1 hXD_2 hXD_3 hXD_4 hXD_5 hXD_6 hXD_7 hXD_8 hXD_9 hXD_10 hXD_11 _ (lv_sub hl [0] rfl)
        · refine tf_if_eq (tgt := 78) hx hb ⟨by decide, by decide⟩ dX10_law_64 (by decide) (fun h191 => ?_) (fun h191 => ?_)
          · refine lv_aload_n hx hb dX10_law_78 rfl (lv_at hl 0 rfl) ?_
            refine tf_get hx hb hts inlX10 hown hK (ci := 10) rfl hW ha0 rfl 14 rfl (by decide) (hts _ fl_X10_200) dX10_law_79 (fun v192 hv192 hsv192 => ?_)
            obtain rfl : v192 = .int (Int32.ofInt f14_51) := Option.some.inj (hsv192.symm.trans hs149)
            refine tf_if_ne (tgt := 97) hx hb ⟨by omega, by omega⟩ dX10_law_82 (by decide) (fun h193 => ?_) (fun h193 => ?_)
            · exfalso; omega
            · refine lv_aload_n hx hb dX10_law_85 rfl (lv_at hl 0 rfl) ?_
              refine tf_get hx hb hts inlX10 hown hK (ci := 10) rfl hW ha0 rfl 11 rfl (by decide) (hts _ fl_X10_220) dX10_law_86 (fun v194 hv194 hsv194 => ?_)
              obtain rfl : v194 = .int (Int32.ofInt f11_51) := Option.some.inj (hsv194.symm.trans hs152)
              refine tf_if_eq (tgt := 97) hx hb ⟨by omega, by omega⟩ dX10_law_89 (by decide) (fun h195 => ?_) (fun h195 => ?_)
              · refine lv_aload_n hx hb dX10_law_97 rfl (lv_at hl 0 rfl) ?_
                refine tf_iconst hx hb dX10_law_98 ?_
                refine tf_put hx hb hts inlX10 tyX10 tyX10_ok nmX10 hown hK (ci := 10) rfl hW ha0 rfl rfl 8 rfl (by decide) (by decide) (hts _ fl_X10_183) rfl (tf_u0 (by omega) (by omega)) rfl rfl dX10_law_99 (fun H196 locs196 hW hs196 ht196 hq196 => ?_)
                have hs197 := (ht196 3 (by decide) (by decide)).trans hs139
                have hs198 := tf_keepCQ hs140 (hq196 _ (tf_ne hb0 ha0 (by decide)))
                have hs199 := (ht196 7 (by decide) (by decide)).trans hs142
                have hs200 := tf_keepCQ hs143 (hq196 _ (tf_ne htm ha0 (by decide)))
                have hs201 := (ht196 25 (by decide) (by decide)).trans hs144
                have hs202 := tf_keepCQ hs145 (hq196 _ (tf_ne hwd ha0 (by decide)))
                have hs203 := (ht196 18 (by decide) (by decide)).trans hs146
                have hs204 := (ht196 19 (by decide) (by decide)).trans hs147
                have hs205 := (ht196 16 (by decide) (by decide)).trans hs148
                have hs206 := (ht196 14 (by decide) (by decide)).trans hs149
                have hs207 := (ht196 9 (by decide) (by decide)).trans hs150
                have hs208 := (ht196 10 (by decide) (by decide)).trans hs151
                have hs209 := (ht196 11 (by decide) (by decide)).trans hs152
                have hs210 := (ht196 12 (by decide) (by decide)).trans hs153
                have hs211 := (ht196 17 (by decide) (by decide)).trans hs154
                have hs212 := (ht196 15 (by decide) (by decide)).trans hs155
                have hs213 := (ht196 13 (by decide) (by decide)).trans hs156
                have hs214 := (ht196 20 (by decide) (by decide)).trans hs157
                have hs215 := tf_keepCQ hs158 (hq196 _ (tf_ne hqop ha0 (by decide)))
                have hs216 := tf_keepCQ hs159 (hq196 _ (tf_ne hqar ha0 (by decide)))
                have hs217 := tf_keepCQ hs160 (hq196 _ (tf_ne hqcl ha0 (by decide)))
                refine lv_aload_n hx hb dX10_law_102 rfl (lv_at hl 0 rfl) ?_
                refine tf_get hx hb hts inlX10 hown hK (ci := 10) rfl hW ha0 rfl 14 rfl (by decide) (hts _ fl_X10_200) dX10_law_103 (fun v218 hv218 hsv218 => ?_)
                obtain rfl : v218 = .int (Int32.ofInt f14_51) := Option.some.inj (hsv218.symm.trans hs206)
                refine tf_if_eq (tgt := 116) hx hb ⟨by omega, by omega⟩ dX10_law_106 (by decide) (fun h219 => ?_) (fun h219 => ?_)
                · refine tf_sipush hx hb dX10_law_116 (by decide) ?_
                  refine tf_sipush hx hb dX10_law_119 (by decide) ?_
                  refine lv_aload_n hx hb dX10_law_122 rfl (lv_at hl 0 rfl) ?_
                  refine tf_get hx hb hts inlX10 hown hK (ci := 10) rfl hW ha0 rfl 3 rfl (by decide) (hts _ fl_X10_13) dX10_law_123 (fun v220 hv220 hsv220 => ?_)
                  obtain rfl : v220 = .ref b0 := Option.some.inj (hsv220.symm.trans hs197)
                  refine tf_iconst hx hb dX10_law_126 ?_
                  refine tf_iald (t0 := 0) hx hb hK hW hb0 rfl rfl (by omega) (by omega) dX10_law_127 (fun v221 hv221 hsv221 => ?_)
                  obtain ⟨z222, rfl, hz222⟩ := tf_v0 hv221
                  have er223 : r0 1 = z222 := hs198 ▸ tf_rw_of (by omega) hsv221 ⟨by omega, by omega⟩
                  have hg224 := tf_rd1 (tf_ROof hW hb0) hsv221 ⟨by omega, by omega⟩ (by omega)
                  refine tf_imul hx hb dX10_law_128 ?_
                  refine tf_iadd hx hb dX10_law_129 ?_
                  refine lv_istore_n (lv' := [(1, .int (Int32.ofInt ((430 + (900 * z222))))), (0, .ref a0)]) hx hb dX10_law_130 rfl hl (by decide) rfl (fun ls hl => ?_)
                  have hZ := tf_zz_in hW b0
                  have hW := tf_weak hW
                  refine lv_aload_n hx hb dX10_law_131 rfl (lv_at hl 1 rfl) ?_
                  refine tf_get hx hb hts inlX10 hown hK (ci := 10) rfl hW ha0 rfl 3 rfl (by decide) (hts _ fl_X10_13) dX10_law_132 (fun v225 hv225 hsv225 => ?_)
                  obtain rfl : v225 = .ref b0 := Option.some.inj (hsv225.symm.trans hs197)
                  refine lv_iload_n hx hb dX10_law_135 rfl (lv_at hl 0 rfl) ?_
                  refine tf_iconst hx hb dX10_law_136 ?_
                  refine tf_iadd hx hb dX10_law_137 ?_
                  refine lv_aload_n hx hb dX10_law_138 rfl (lv_at hl 1 rfl) ?_
                  refine tf_get hx hb hts inlX10 hown hK (ci := 10) rfl hW ha0 rfl 15 rfl (by decide) (hts _ fl_X10_317) dX10_law_139 (fun v226 hv226 hsv226 => ?_)
                  obtain rfl : v226 = .int (Int32.ofInt f15_51) := Option.some.inj (hsv226.symm.trans hs212)
                  refine tf_rwst (t0 := 0) hx hb hK hW hb0 rfl rfl (by omega) (by omega) (by decide) (tf_u0 (by omega) (by omega)) ⟨by omega, by omega⟩ trivial dX10_law_142 (fun H227 locs227 hW hu227 hq227 => ?_)
                  have hZ := tf_zz_st hZ hq227
                  have hs228 := tf_keepQ hs197 (hq227 _ (tf_ne ha0 hb0 (by decide)))
                  have hs229 := tf_keepQ hs199 (hq227 _ (tf_ne ha0 hb0 (by decide)))
                  have hs230 := tf_keepCQ hs200 (hq227 _ (tf_ne htm hb0 (by decide)))
                  have hs231 := tf_keepQ hs201 (hq227 _ (tf_ne ha0 hb0 (by decide)))
                  have hs232 := tf_keepCQ hs202 (hq227 _ (tf_ne hwd hb0 (by decide)))
                  have hs233 := tf_keepQ hs203 (hq227 _ (tf_ne ha0 hb0 (by decide)))
                  have hs234 := tf_keepQ hs204 (hq227 _ (tf_ne ha0 hb0 (by decide)))
                  have hs235 := tf_keepQ hs205 (hq227 _ (tf_ne ha0 hb0 (by decide)))
                  have hs236 := tf_keepQ hs206 (hq227 _ (tf_ne ha0 hb0 (by decide)))
                  have hs237 := tf_keepQ hs207 (hq227 _ (tf_ne ha0 hb0 (by decide)))
                  have hs238 := tf_keepQ hs208 (hq227 _ (tf_ne ha0 hb0 (by decide)))
                  have hs239 := tf_keepQ hs209 (hq227 _ (tf_ne ha0 hb0 (by decide)))
                  have hs240 := tf_keepQ hs210 (hq227 _ (tf_ne ha0 hb0 (by decide)))
                  have hs241 := tf_keepQ hs211 (hq227 _ (tf_ne ha0 hb0 (by decide)))
                  have hs242 := tf_keepQ hs212 (hq227 _ (tf_ne ha0 hb0 (by decide)))
                  have hs243 := tf_keepQ hs213 (hq227 _ (tf_ne ha0 hb0 (by decide)))
                  have hs244 := tf_keepQ hs214 (hq227 _ (tf_ne ha0 hb0 (by decide)))
                  have hs245 := tf_keepCQ hs215 (hq227 _ (tf_ne hqop hb0 (by decide)))
                  have hs246 := tf_keepCQ hs216 (hq227 _ (tf_ne hqar hb0 (by decide)))
                  have hs247 := tf_keepCQ hs217 (hq227 _ (tf_ne hqcl hb0 (by decide)))
                  have hs248 := tf_keepQ hs196 (hq227 _ (tf_ne ha0 hb0 (by decide)))
                  have hu227 := hu227.trans (congrArg (fun w => tf_up w (((430 + (900 * z222)) + 1)) (f15_51)) hs198)
                  refine tf_iconst hx hb dX10_law_143 ?_
                  refine lv_istore_n (lv' := [(2, .int (Int32.ofInt 0)), (1, .int (Int32.ofInt ((430 + (900 * z222))))), (0, .ref a0)]) hx hb dX10_law_144 rfl hl (by decide) rfl (fun ls hl => ?_)
                  exact j_145 ((8 * f15_51 - 0 + 1 : Int)).toNat ((430 + (900 * z222))) ⟨by omega, by omega⟩ (0) ⟨by omega, by omega⟩ (f17_51) ⟨by omega, by omega⟩ (f15_51) ⟨by omega, by omega⟩ (f13_51) ⟨by omega, by omega⟩ rNOP_51 (trivial) rNAR_51 (trivial) rNCL_51 (trivial) (0) ⟨by omega, by omega⟩ (tf_up r0 (((430 + (900 * z222)) + 1)) (f15_51)) (by first | exact tf_l1_0 | exact tf_l1_st hRROW_145 (by omega) (by omega) er223) (by first | assumption | exact hi2_51.resolve_left (by omega)) (by first | assumption | omega) (by first | assumption | omega) (by first | assumption | omega) (by first | assumption | omega) (by first | assumption | exact tf_FIN_c hi4_51 (by omega) (by omega) | (exfalso; omega)) (by omega) _ _ hW hs228 hs233 hs234 hs235 hs241 hs242 hs243 hs245 hs246 hs247 hs248 hu227 hZ _ (lv_sub hl [2, 1, 0] rfl)
                · exfalso; omega
              · refine lv_aload_n hx hb dX10_law_92 rfl (lv_at hl 0 rfl) ?_
                refine tf_iconst hx hb dX10_law_93 ?_
                refine tf_callv (va_runV (As := [.int (Int32.ofInt 0)]) (rest := []) ⟨hx, hb, hml, hown, hts⟩ (c_X10_must l g T a0 ha0 (0) ⟨by omega, by omega⟩ tm htm (t0) ⟨by omega, by omega⟩ (f9_51) ⟨by omega, by omega⟩ (f10_51) ⟨by omega, by omega⟩ (f11_51) ⟨by omega, by omega⟩ (f12_51) ⟨by omega, by omega⟩ (f14_51) ⟨by omega, by omega⟩ (f13_51) ⟨by omega, by omega⟩ tp (by first | assumption | omega)) (cwV 1 hts gv_X10_235 rfl rfl rfl hd_X10_must ⟨Nat.le_trans (by decide) hR1, Nat.le_trans (by decide) hR2⟩) (tf_preV hk hW ha0 (ci := 10) rfl rfl ⟨hs141, hs150, hs151, hs152, hs153, hs149, hs156, hs142, hs143⟩) rfl rfl hl.1 rfl (lv_room (Nat.le_of_ble_eq_true rfl)) dX10_law_94 ⟨Nat.zero_le _, Nat.zero_le _⟩) hW (by decide) (fun HM locsM hW hFM hpM => ?_)
                have hs249 := tf_keepF hFM ha0 rfl rfl (by decide) hs139
                have hs250 := tf_keepC hFM hb0 rfl (by decide) hs140
                have hs251 := tf_keepF hFM ha0 rfl rfl (by decide) hs141
                have hs252 := tf_keepF hFM ha0 rfl rfl (by decide) hs142
                have hs253 := tf_keepC hFM htm rfl (by decide) hs143
                have hs254 := tf_keepF hFM ha0 rfl rfl (by decide) hs144
                have hs255 := tf_keepC hFM hwd rfl (by decide) hs145
                have hs256 := tf_keepF hFM ha0 rfl rfl (by decide) hs146
                have hs257 := tf_keepF hFM ha0 rfl rfl (by decide) hs147
                have hs258 := tf_keepF hFM ha0 rfl rfl (by decide) hs148
                have hs259 := tf_keepF hFM ha0 rfl rfl (by decide) hs154
                have hs260 := tf_keepF hFM ha0 rfl rfl (by decide) hs155
                have hs261 := tf_keepF hFM ha0 rfl rfl (by decide) hs157
                have hs262 := tf_keepC hFM hqop rfl (by decide) hs158
                have hs263 := tf_keepC hFM hqar rfl (by decide) hs159
                have hs264 := tf_keepC hFM hqcl rfl (by decide) hs160
                obtain ⟨gb1_M, gf1_M, gt1_M, gs1_M, gw1_M, gx1_M, hXM_0, hXM_1, hXM_2, hXM_3, hXM_4, hXM_5, hBM_0, hBM_1, hBM_2, hBM_3, hBM_4, hBM_5, hRM_0, hRM_1, hRM_2, hRM_3⟩ := hpM
                refine lv_aload_n hx hb dX10_law_97 rfl (lv_at hl 0 rfl) ?_
                refine tf_iconst hx hb dX10_law_98 ?_
                refine tf_put hx hb hts inlX10 tyX10 tyX10_ok nmX10 hown hK (ci := 10) rfl hW ha0 rfl rfl 8 rfl (by decide) (by decide) (hts _ fl_X10_183) rfl (tf_u0 (by omega) (by omega)) rfl rfl dX10_law_99 (fun H265 locs265 hW hs265 ht265 hq265 => ?_)
                have hs266 := (ht265 3 (by decide) (by decide)).trans hs249
                have hs267 := tf_keepCQ hs250 (hq265 _ (tf_ne hb0 ha0 (by decide)))
                have hs268 := (ht265 7 (by decide) (by decide)).trans hs252
                have hs269 := tf_keepCQ hs253 (hq265 _ (tf_ne htm ha0 (by decide)))
                have hs270 := (ht265 25 (by decide) (by decide)).trans hs254
                have hs271 := tf_keepCQ hs255 (hq265 _ (tf_ne hwd ha0 (by decide)))
                have hs272 := (ht265 18 (by decide) (by decide)).trans hs256
                have hs273 := (ht265 19 (by decide) (by decide)).trans hs257
                have hs274 := (ht265 16 (by decide) (by decide)).trans hs258
                have hs275 := (ht265 17 (by decide) (by decide)).trans hs259
                have hs276 := (ht265 15 (by decide) (by decide)).trans hs260
                have hs277 := (ht265 20 (by decide) (by decide)).trans hs261
                have hs278 := tf_keepCQ hs262 (hq265 _ (tf_ne hqop ha0 (by decide)))
                have hs279 := tf_keepCQ hs263 (hq265 _ (tf_ne hqar ha0 (by decide)))
                have hs280 := tf_keepCQ hs264 (hq265 _ (tf_ne hqcl ha0 (by decide)))
                have hs281 := (ht265 14 (by decide) (by decide)).trans hXM_0
                have hs282 := (ht265 13 (by decide) (by decide)).trans hXM_5
                refine lv_aload_n hx hb dX10_law_102 rfl (lv_at hl 0 rfl) ?_
                refine tf_get hx hb hts inlX10 hown hK (ci := 10) rfl hW ha0 rfl 14 rfl (by decide) (hts _ fl_X10_200) dX10_law_103 (fun v283 hv283 hsv283 => ?_)
                obtain rfl : v283 = .int (Int32.ofInt gb1_M) := Option.some.inj (hsv283.symm.trans hs281)
                refine tf_if_eq (tgt := 116) hx hb ⟨by omega, by omega⟩ dX10_law_106 (by decide) (fun h284 => ?_) (fun h284 => ?_)
                · refine tf_sipush hx hb dX10_law_116 (by decide) ?_
                  refine tf_sipush hx hb dX10_law_119 (by decide) ?_
                  refine lv_aload_n hx hb dX10_law_122 rfl (lv_at hl 0 rfl) ?_
                  refine tf_get hx hb hts inlX10 hown hK (ci := 10) rfl hW ha0 rfl 3 rfl (by decide) (hts _ fl_X10_13) dX10_law_123 (fun v285 hv285 hsv285 => ?_)
                  obtain rfl : v285 = .ref b0 := Option.some.inj (hsv285.symm.trans hs266)
                  refine tf_iconst hx hb dX10_law_126 ?_
                  refine tf_iald (t0 := 0) hx hb hK hW hb0 rfl rfl (by omega) (by omega) dX10_law_127 (fun v286 hv286 hsv286 => ?_)
                  obtain ⟨z287, rfl, hz287⟩ := tf_v0 hv286
                  have er288 : r0 1 = z287 := hs267 ▸ tf_rw_of (by omega) hsv286 ⟨by omega, by omega⟩
                  have hg289 := tf_rd1 (tf_ROof hW hb0) hsv286 ⟨by omega, by omega⟩ (by omega)
                  refine tf_imul hx hb dX10_law_128 ?_
                  refine tf_iadd hx hb dX10_law_129 ?_
                  refine lv_istore_n (lv' := [(1, .int (Int32.ofInt ((430 + (900 * z287))))), (0, .ref a0)]) hx hb dX10_law_130 rfl hl (by decide) rfl (fun ls hl => ?_)
                  have hZ := tf_zz_in hW b0
                  have hW := tf_weak hW
                  refine lv_aload_n hx hb dX10_law_131 rfl (lv_at hl 1 rfl) ?_
                  refine tf_get hx hb hts inlX10 hown hK (ci := 10) rfl hW ha0 rfl 3 rfl (by decide) (hts _ fl_X10_13) dX10_law_132 (fun v290 hv290 hsv290 => ?_)
                  obtain rfl : v290 = .ref b0 := Option.some.inj (hsv290.symm.trans hs266)
                  refine lv_iload_n hx hb dX10_law_135 rfl (lv_at hl 0 rfl) ?_
                  refine tf_iconst hx hb dX10_law_136 ?_
                  refine tf_iadd hx hb dX10_law_137 ?_
                  refine lv_aload_n hx hb dX10_law_138 rfl (lv_at hl 1 rfl) ?_
                  refine tf_get hx hb hts inlX10 hown hK (ci := 10) rfl hW ha0 rfl 15 rfl (by decide) (hts _ fl_X10_317) dX10_law_139 (fun v291 hv291 hsv291 => ?_)
                  obtain rfl : v291 = .int (Int32.ofInt f15_51) := Option.some.inj (hsv291.symm.trans hs276)
                  refine tf_rwst (t0 := 0) hx hb hK hW hb0 rfl rfl (by omega) (by omega) (by decide) (tf_u0 (by omega) (by omega)) ⟨by omega, by omega⟩ trivial dX10_law_142 (fun H292 locs292 hW hu292 hq292 => ?_)
                  have hZ := tf_zz_st hZ hq292
                  have hs293 := tf_keepQ hs266 (hq292 _ (tf_ne ha0 hb0 (by decide)))
                  have hs294 := tf_keepQ hs268 (hq292 _ (tf_ne ha0 hb0 (by decide)))
                  have hs295 := tf_keepCQ hs269 (hq292 _ (tf_ne htm hb0 (by decide)))
                  have hs296 := tf_keepQ hs270 (hq292 _ (tf_ne ha0 hb0 (by decide)))
                  have hs297 := tf_keepCQ hs271 (hq292 _ (tf_ne hwd hb0 (by decide)))
                  have hs298 := tf_keepQ hs272 (hq292 _ (tf_ne ha0 hb0 (by decide)))
                  have hs299 := tf_keepQ hs273 (hq292 _ (tf_ne ha0 hb0 (by decide)))
                  have hs300 := tf_keepQ hs274 (hq292 _ (tf_ne ha0 hb0 (by decide)))
                  have hs301 := tf_keepQ hs275 (hq292 _ (tf_ne ha0 hb0 (by decide)))
                  have hs302 := tf_keepQ hs276 (hq292 _ (tf_ne ha0 hb0 (by decide)))
                  have hs303 := tf_keepQ hs277 (hq292 _ (tf_ne ha0 hb0 (by decide)))
                  have hs304 := tf_keepCQ hs278 (hq292 _ (tf_ne hqop hb0 (by decide)))
                  have hs305 := tf_keepCQ hs279 (hq292 _ (tf_ne hqar hb0 (by decide)))
                  have hs306 := tf_keepCQ hs280 (hq292 _ (tf_ne hqcl hb0 (by decide)))
                  have hs307 := tf_keepQ hs281 (hq292 _ (tf_ne ha0 hb0 (by decide)))
                  have hs308 := tf_keepQ hs282 (hq292 _ (tf_ne ha0 hb0 (by decide)))
                  have hs309 := tf_keepQ hs265 (hq292 _ (tf_ne ha0 hb0 (by decide)))
                  have hu292 := hu292.trans (congrArg (fun w => tf_up w (((430 + (900 * z287)) + 1)) (f15_51)) hs267)
                  refine tf_iconst hx hb dX10_law_143 ?_
                  refine lv_istore_n (lv' := [(2, .int (Int32.ofInt 0)), (1, .int (Int32.ofInt ((430 + (900 * z287))))), (0, .ref a0)]) hx hb dX10_law_144 rfl hl (by decide) rfl (fun ls hl => ?_)
                  exact j_145 ((8 * f15_51 - 0 + 1 : Int)).toNat ((430 + (900 * z287))) ⟨by omega, by omega⟩ (0) ⟨by omega, by omega⟩ (f17_51) ⟨by omega, by omega⟩ (f15_51) ⟨by omega, by omega⟩ (gx1_M) ⟨by omega, by omega⟩ rNOP_51 (trivial) rNAR_51 (trivial) rNCL_51 (trivial) (0) ⟨by omega, by omega⟩ (tf_up r0 (((430 + (900 * z287)) + 1)) (f15_51)) (by first | exact tf_l1_0 | exact tf_l1_st hRROW_145 (by omega) (by omega) er288) (by first | assumption | exact hi2_51.resolve_left (by omega)) (by first | assumption | omega) (by first | assumption | omega) (by first | assumption | omega) (by first | assumption | omega) (by first | assumption | exact tf_FIN_c hi4_51 (by omega) (by omega) | (exfalso; omega)) (by omega) _ _ hW hs293 hs298 hs299 hs300 hs301 hs302 hs308 hs304 hs305 hs306 hs309 hu292 hZ _ (lv_sub hl [2, 1, 0] rfl)
                · refine lv_aload_n hx hb dX10_law_109 rfl (lv_at hl 0 rfl) ?_
                  refine tf_bipush hx hb dX10_law_110 (by decide) ?_
                  refine tf_calli (va_runV (As := [.int (Int32.ofInt ((-6)))]) (rest := []) ⟨hx, hb, hml, hown, hts⟩ (c_X10_tell l g T a0 ha0 ((-6)) ⟨by omega, by omega⟩) (cwV 1 hts gv_X10_117 rfl rfl rfl hd_X10_tell ⟨Nat.le_trans (by decide) hR1, Nat.le_trans (by decide) hR2⟩) (tf_preV hk hW ha0 (ci := 10) rfl rfl trivial) rfl rfl hl.1 rfl (lv_room (Nat.le_of_ble_eq_true rfl)) dX10_law_112 ⟨Nat.zero_le _, Nat.zero_le _⟩) hW (by decide) (fun z310 H310 locs310 hW hF310 hp310 => ?_)
                  have hs311 := tf_keepF hF310 ha0 rfl rfl (by decide) hs266
                  have hs312 := tf_keepC hF310 hb0 rfl (by decide) hs267
                  have hs313 := tf_keepF hF310 ha0 rfl rfl (by decide) hs268
                  have hs314 := tf_keepC hF310 htm rfl (by decide) hs269
                  have hs315 := tf_keepF hF310 ha0 rfl rfl (by decide) hs270
                  have hs316 := tf_keepC hF310 hwd rfl (by decide) hs271
                  have hs317 := tf_keepF hF310 ha0 rfl rfl (by decide) hs272
                  have hs318 := tf_keepF hF310 ha0 rfl rfl (by decide) hs273
                  have hs319 := tf_keepF hF310 ha0 rfl rfl (by decide) hs274
                  have hs320 := tf_keepF hF310 ha0 rfl rfl (by decide) hs275
                  have hs321 := tf_keepF hF310 ha0 rfl rfl (by decide) hs276
                  have hs322 := tf_keepF hF310 ha0 rfl rfl (by decide) hs277
                  have hs323 := tf_keepC hF310 hqop rfl (by decide) hs278
                  have hs324 := tf_keepC hF310 hqar rfl (by decide) hs279
                  have hs325 := tf_keepC hF310 hqcl rfl (by decide) hs280
                  have hs326 := tf_keepF hF310 ha0 rfl rfl (by decide) hs281
                  have hs327 := tf_keepF hF310 ha0 rfl rfl (by decide) hs282
                  have hs328 := tf_keepF hF310 ha0 rfl rfl (by decide) hs265
                  obtain ⟨hp310_0, hp310_1, hp310_2⟩ := hp310
                  exact tf_reti (z := z310) hx hb hr hlocks hQ hW ⟨by omega, by omega, ⟨(0), (gx1_M), r0, hs312, hs328, hs327, ⟨by omega, by omega⟩, ⟨by omega, by omega⟩, (by first | assumption | omega), (by first | exact tf_kl_rf | exact tf_kl_up1 (tf_kp_l2 hRROW_180 (by omega))), (by first | exact Or.inr ⟨by omega, hi6_51.1, Or.inr ⟨by omega, rfl, tf_FIN_b hi4_51 (by omega) rfl⟩⟩ | exact Or.inr ⟨by omega, hi6_51.1, Or.inr ⟨by omega, rfl, tf_FIN_cm hi4_51 (by omega) (by omega) hn59 (by omega)⟩⟩)⟩⟩ dX10_law_115
          · exfalso; omega
  refine tf_enter (As := [.ref a0]) hargs (Nat.le_of_ble_eq_true rfl) (fun ls hl => ?_)
  have hl : lv_has ls 3 [(0, .ref a0)] := hl
  refine lv_aload_n hx hb dX10_law_0 rfl (lv_at hl 0 rfl) ?_
  refine tf_iconst hx hb dX10_law_1 ?_
  refine tf_put hx hb hts inlX10 tyX10 tyX10_ok nmX10 hown hK (ci := 10) rfl hW ha0 rfl rfl 0 rfl (by decide) (by decide) (hts _ fl_X10_103) rfl (tf_u0 (by omega) (by omega)) rfl rfl dX10_law_2 (fun H329 locs329 hW hs329 ht329 hq329 => ?_)
  have hs330 := (ht329 3 (by decide) (by decide)).trans he0
  have hs331 := tf_keepCQ he1 (hq329 _ (tf_ne hb0 ha0 (by decide)))
  have hs332 := (ht329 8 (by decide) (by decide)).trans he2
  have hs333 := (ht329 7 (by decide) (by decide)).trans he3
  have hs334 := tf_keepCQ he4 (hq329 _ (tf_ne htm ha0 (by decide)))
  have hs335 := (ht329 25 (by decide) (by decide)).trans he5
  have hs336 := tf_keepCQ he6 (hq329 _ (tf_ne hwd ha0 (by decide)))
  have hs337 := (ht329 13 (by decide) (by decide)).trans he7
  have hs338 := (ht329 18 (by decide) (by decide)).trans hfqop
  have hs339 := tf_keepCQ hrop (hq329 _ (tf_ne hqop ha0 (by decide)))
  have hs340 := (ht329 19 (by decide) (by decide)).trans hfqar
  have hs341 := tf_keepCQ hrar (hq329 _ (tf_ne hqar ha0 (by decide)))
  have hs342 := (ht329 16 (by decide) (by decide)).trans hfqcl
  have hs343 := tf_keepCQ hrcl (hq329 _ (tf_ne hqcl ha0 (by decide)))
  refine lv_aload_n hx hb dX10_law_5 rfl (lv_at hl 0 rfl) ?_
  refine tf_get hx hb hts inlX10 hown hK (ci := 10) rfl hW ha0 rfl 3 rfl (by decide) (hts _ fl_X10_13) dX10_law_6 (fun v344 hv344 hsv344 => ?_)
  obtain rfl : v344 = .ref b0 := Option.some.inj (hsv344.symm.trans hs330)
  refine tf_iconst hx hb dX10_law_9 ?_
  refine tf_iald (t0 := 0) hx hb hK hW hb0 rfl rfl (by omega) (by omega) dX10_law_10 (fun v345 hv345 hsv345 => ?_)
  obtain ⟨z346, rfl, hz346⟩ := tf_v0 hv345
  have er347 : r0 1 = z346 := hs331 ▸ tf_rw_of (by omega) hsv345 ⟨by omega, by omega⟩
  have hg348 := tf_rd1 (tf_ROof hW hb0) hsv345 ⟨by omega, by omega⟩ (by omega)
  refine tf_bipush hx hb dX10_law_11 (by decide) ?_
  refine tf_icmp_ne (tgt := 28) hx hb ⟨by omega, by omega⟩ ⟨by decide, by decide⟩ dX10_law_13 (by decide) (fun h349 => ?_) (fun h349 => ?_)
  · have hCX : tf_CX tp t0 ss pp mm gW := ⟨hq0 (by omega), hby, hq1⟩
    refine lv_aload_n hx hb dX10_law_28 rfl (lv_at hl 0 rfl) ?_
    refine tf_callv (va_runV (As := []) (rest := []) ⟨hx, hb, hml, hown, hts⟩ (c_X10_begin l g T a0 ha0 tm htm (t0) ⟨by omega, by omega⟩ tp) (cwV 0 hts gv_X10_325 rfl rfl rfl hd_X10_begin ⟨Nat.le_trans (by decide) hR1, Nat.le_trans (by decide) hR2⟩) (tf_preV hk hW ha0 (ci := 10) rfl rfl ⟨hs332, hs333, hs334⟩) rfl rfl hl.1 rfl (lv_room (Nat.le_of_ble_eq_true rfl)) dX10_law_29 ⟨Nat.zero_le _, Nat.zero_le _⟩) hW (by decide) (fun HB locsB hW hFB hpB => ?_)
    have hs350 := tf_keepF hFB ha0 rfl rfl (by decide) hs330
    have hs351 := tf_keepC hFB hb0 rfl (by decide) hs331
    have hs352 := tf_keepF hFB ha0 rfl rfl (by decide) hs332
    have hs353 := tf_keepF hFB ha0 rfl rfl (by decide) hs333
    have hs354 := tf_keepC hFB htm rfl (by decide) hs334
    have hs355 := tf_keepF hFB ha0 rfl rfl (by decide) hs335
    have hs356 := tf_keepC hFB hwd rfl (by decide) hs336
    have hs357 := tf_keepF hFB ha0 rfl rfl (by decide) hs338
    have hs358 := tf_keepC hFB hqop rfl (by decide) hs339
    have hs359 := tf_keepF hFB ha0 rfl rfl (by decide) hs340
    have hs360 := tf_keepC hFB hqar rfl (by decide) hs341
    have hs361 := tf_keepF hFB ha0 rfl rfl (by decide) hs342
    have hs362 := tf_keepC hFB hqcl rfl (by decide) hs343
    obtain ⟨gb1_B, gf1_B, gt1_B, gs1_B, gw1_B, gx1_B, hXB_0, hXB_1, hXB_2, hXB_3, hXB_4, hXB_5, hBB_0, hBB_1, hBB_2, hBB_3, hBB_4, hBB_5, hRB_0, hRB_1, hRB_2, hRB_3⟩ := hpB
    refine lv_aload_n hx hb dX10_law_32 rfl (lv_at hl 0 rfl) ?_
    refine tf_iconst hx hb dX10_law_33 ?_
    refine tf_put hx hb hts inlX10 tyX10 tyX10_ok nmX10 hown hK (ci := 10) rfl hW ha0 rfl rfl 15 rfl (by decide) (by decide) (hts _ fl_X10_317) rfl (tf_u0 (by omega) (by omega)) rfl rfl dX10_law_34 (fun H363 locs363 hW hs363 ht363 hq363 => ?_)
    have hs364 := (ht363 3 (by decide) (by decide)).trans hs350
    have hs365 := tf_keepCQ hs351 (hq363 _ (tf_ne hb0 ha0 (by decide)))
    have hs366 := (ht363 8 (by decide) (by decide)).trans hs352
    have hs367 := (ht363 7 (by decide) (by decide)).trans hs353
    have hs368 := tf_keepCQ hs354 (hq363 _ (tf_ne htm ha0 (by decide)))
    have hs369 := (ht363 25 (by decide) (by decide)).trans hs355
    have hs370 := tf_keepCQ hs356 (hq363 _ (tf_ne hwd ha0 (by decide)))
    have hs371 := (ht363 18 (by decide) (by decide)).trans hs357
    have hs372 := tf_keepCQ hs358 (hq363 _ (tf_ne hqop ha0 (by decide)))
    have hs373 := (ht363 19 (by decide) (by decide)).trans hs359
    have hs374 := tf_keepCQ hs360 (hq363 _ (tf_ne hqar ha0 (by decide)))
    have hs375 := (ht363 16 (by decide) (by decide)).trans hs361
    have hs376 := tf_keepCQ hs362 (hq363 _ (tf_ne hqcl ha0 (by decide)))
    have hs377 := (ht363 14 (by decide) (by decide)).trans hXB_0
    have hs378 := (ht363 9 (by decide) (by decide)).trans hXB_1
    have hs379 := (ht363 10 (by decide) (by decide)).trans hXB_2
    have hs380 := (ht363 11 (by decide) (by decide)).trans hXB_3
    have hs381 := (ht363 12 (by decide) (by decide)).trans hXB_4
    have hs382 := (ht363 13 (by decide) (by decide)).trans hXB_5
    refine lv_aload_n hx hb dX10_law_37 rfl (lv_at hl 0 rfl) ?_
    refine tf_iconst hx hb dX10_law_38 ?_
    refine tf_put hx hb hts inlX10 tyX10 tyX10_ok nmX10 hown hK (ci := 10) rfl hW ha0 rfl rfl 17 rfl (by decide) (by decide) (hts _ fl_X10_239) rfl (tf_u0 (by omega) (by omega)) rfl rfl dX10_law_39 (fun H383 locs383 hW hs383 ht383 hq383 => ?_)
    have hs384 := (ht383 3 (by decide) (by decide)).trans hs364
    have hs385 := tf_keepCQ hs365 (hq383 _ (tf_ne hb0 ha0 (by decide)))
    have hs386 := (ht383 8 (by decide) (by decide)).trans hs366
    have hs387 := (ht383 7 (by decide) (by decide)).trans hs367
    have hs388 := tf_keepCQ hs368 (hq383 _ (tf_ne htm ha0 (by decide)))
    have hs389 := (ht383 25 (by decide) (by decide)).trans hs369
    have hs390 := tf_keepCQ hs370 (hq383 _ (tf_ne hwd ha0 (by decide)))
    have hs391 := (ht383 18 (by decide) (by decide)).trans hs371
    have hs392 := tf_keepCQ hs372 (hq383 _ (tf_ne hqop ha0 (by decide)))
    have hs393 := (ht383 19 (by decide) (by decide)).trans hs373
    have hs394 := tf_keepCQ hs374 (hq383 _ (tf_ne hqar ha0 (by decide)))
    have hs395 := (ht383 16 (by decide) (by decide)).trans hs375
    have hs396 := tf_keepCQ hs376 (hq383 _ (tf_ne hqcl ha0 (by decide)))
    have hs397 := (ht383 14 (by decide) (by decide)).trans hs377
    have hs398 := (ht383 9 (by decide) (by decide)).trans hs378
    have hs399 := (ht383 10 (by decide) (by decide)).trans hs379
    have hs400 := (ht383 11 (by decide) (by decide)).trans hs380
    have hs401 := (ht383 12 (by decide) (by decide)).trans hs381
    have hs402 := (ht383 13 (by decide) (by decide)).trans hs382
    have hs403 := (ht383 15 (by decide) (by decide)).trans hs363
    refine lv_aload_n hx hb dX10_law_42 rfl (lv_at hl 0 rfl) ?_
    refine tf_iconst hx hb dX10_law_43 ?_
    refine tf_put hx hb hts inlX10 tyX10 tyX10_ok nmX10 hown hK (ci := 10) rfl hW ha0 rfl rfl 20 rfl (by decide) (by decide) (hts _ fl_X10_268) rfl (tf_u0 (by omega) (by omega)) rfl rfl dX10_law_44 (fun H404 locs404 hW hs404 ht404 hq404 => ?_)
    have hs405 := (ht404 3 (by decide) (by decide)).trans hs384
    have hs406 := tf_keepCQ hs385 (hq404 _ (tf_ne hb0 ha0 (by decide)))
    have hs407 := (ht404 8 (by decide) (by decide)).trans hs386
    have hs408 := (ht404 7 (by decide) (by decide)).trans hs387
    have hs409 := tf_keepCQ hs388 (hq404 _ (tf_ne htm ha0 (by decide)))
    have hs410 := (ht404 25 (by decide) (by decide)).trans hs389
    have hs411 := tf_keepCQ hs390 (hq404 _ (tf_ne hwd ha0 (by decide)))
    have hs412 := (ht404 18 (by decide) (by decide)).trans hs391
    have hs413 := tf_keepCQ hs392 (hq404 _ (tf_ne hqop ha0 (by decide)))
    have hs414 := (ht404 19 (by decide) (by decide)).trans hs393
    have hs415 := tf_keepCQ hs394 (hq404 _ (tf_ne hqar ha0 (by decide)))
    have hs416 := (ht404 16 (by decide) (by decide)).trans hs395
    have hs417 := tf_keepCQ hs396 (hq404 _ (tf_ne hqcl ha0 (by decide)))
    have hs418 := (ht404 14 (by decide) (by decide)).trans hs397
    have hs419 := (ht404 9 (by decide) (by decide)).trans hs398
    have hs420 := (ht404 10 (by decide) (by decide)).trans hs399
    have hs421 := (ht404 11 (by decide) (by decide)).trans hs400
    have hs422 := (ht404 12 (by decide) (by decide)).trans hs401
    have hs423 := (ht404 13 (by decide) (by decide)).trans hs402
    have hs424 := (ht404 15 (by decide) (by decide)).trans hs403
    have hs425 := (ht404 17 (by decide) (by decide)).trans hs383
    refine lv_aload_n hx hb dX10_law_47 rfl (lv_at hl 0 rfl) ?_
    have hL0x := tf_LX_begin hCX.1 hCX.2.1 hRB_2
    refine tf_callv (va_runV (As := []) (rest := []) ⟨hx, hb, hml, hown, hts⟩ (c_X10_readClause l g T a0 ha0 (ss) (pp) (mm) (0) qop hqop qar hqar qcl hqcl tm htm wd hwd (t0) ⟨by omega, by omega⟩ (gf1_B) ⟨by omega, by omega⟩ (gt1_B) ⟨by omega, by omega⟩ (gs1_B) ⟨by omega, by omega⟩ (gw1_B) ⟨by omega, by omega⟩ (gb1_B) ⟨by omega, by omega⟩ (0) ⟨by omega, by omega⟩ (0) ⟨by omega, by omega⟩ (gx1_B) ⟨by omega, by omega⟩ (0) ⟨by omega, by omega⟩ rop rar rcl tp gW (by first | assumption | omega) (by first | assumption | omega) (by first | assumption | omega) tf_CL_0 (by first | assumption | omega) hL0x) (cwV 0 hts gv_X10_328 rfl rfl rfl hd_X10_readClause ⟨Nat.le_trans (by decide) hR1, Nat.le_trans (by decide) hR2⟩) (tf_preV hk hW ha0 (ci := 10) rfl rfl ⟨hs412, hs414, hs416, hs407, hs419, hs420, hs421, hs422, hs418, hs425, hs424, hs423, hs404, hs413, hs415, hs417, hs408, hs409, hs410, hs411⟩) rfl rfl hl.1 rfl (lv_room (Nat.le_of_ble_eq_true rfl)) dX10_law_48 ⟨Nat.zero_le _, Nat.zero_le _⟩) hW (by decide) (fun HC locsC hW hFC hpC => ?_)
    have hs426 := tf_keepF hFC ha0 rfl rfl (by decide) hs405
    have hs427 := tf_keepC hFC hb0 rfl (by decide) hs406
    have hs428 := tf_keepF hFC ha0 rfl rfl (by decide) hs407
    have hs429 := tf_keepF hFC ha0 rfl rfl (by decide) hs408
    have hs430 := tf_keepC hFC htm rfl (by decide) hs409
    have hs431 := tf_keepF hFC ha0 rfl rfl (by decide) hs410
    have hs432 := tf_keepC hFC hwd rfl (by decide) hs411
    have hs433 := tf_keepF hFC ha0 rfl rfl (by decide) hs412
    have hs434 := tf_keepF hFC ha0 rfl rfl (by decide) hs414
    have hs435 := tf_keepF hFC ha0 rfl rfl (by decide) hs416
    obtain ⟨gb1_C, gf1_C, gt1_C, gs1_C, gw1_C, gc1_C, gk1_C, gx1_C, gl1_C, rop1_C, rar1_C, rcl1_C, hXC_0, hXC_1, hXC_2, hXC_3, hXC_4, hXC_5, hXC_6, hXC_7, hXC_8, hXC_9, hXC_10, hXC_11, hBC_0, hBC_1, hBC_2, hBC_3, hBC_4, hBC_5, hBC_6, hBC_7, hBC_8, hRC_0, hRC_1, hRC_2, hRC_3, hRC_4, hRC_5⟩ := hpC
    exact j_51 ((401 - gf1_C + 1 : Int)).toNat (gb1_C) ⟨by omega, by omega⟩ (gf1_C) ⟨by omega, by omega⟩ (gt1_C) ⟨by omega, by omega⟩ (gs1_C) ⟨by omega, by omega⟩ (gw1_C) ⟨by omega, by omega⟩ (gc1_C) ⟨by omega, by omega⟩ (gk1_C) ⟨by omega, by omega⟩ (gx1_C) ⟨by omega, by omega⟩ (gl1_C) ⟨by omega, by omega⟩ rop1_C (trivial) rar1_C (trivial) rcl1_C (trivial) (by first | assumption | omega) (by first | assumption | omega) (by first | assumption | omega) (by first | assumption | omega) (by first | exact hRC_4 | exact tf_CE_tr hRe8 hL8 (by omega) (by omega) hRD_4) (by first | assumption | omega) (by first | assumption | omega) (by omega) _ _ hW hs426 hs427 hs428 hs429 hs430 hs431 hs432 hs433 hs434 hs435 hXC_0 hXC_1 hXC_2 hXC_3 hXC_4 hXC_5 hXC_6 hXC_7 hXC_8 hXC_9 hXC_10 hXC_11 _ (lv_sub hl [0] rfl)
  · refine lv_aload_n hx hb dX10_law_16 rfl (lv_at hl 0 rfl) ?_
    refine tf_iconst hx hb dX10_law_17 ?_
    refine tf_put hx hb hts inlX10 tyX10 tyX10_ok nmX10 hown hK (ci := 10) rfl hW ha0 rfl rfl 8 rfl (by decide) (by decide) (hts _ fl_X10_183) rfl (tf_u0 (by omega) (by omega)) rfl rfl dX10_law_18 (fun H436 locs436 hW hs436 ht436 hq436 => ?_)
    have hs437 := (ht436 3 (by decide) (by decide)).trans hs330
    have hs438 := tf_keepCQ hs331 (hq436 _ (tf_ne hb0 ha0 (by decide)))
    have hs439 := (ht436 7 (by decide) (by decide)).trans hs333
    have hs440 := tf_keepCQ hs334 (hq436 _ (tf_ne htm ha0 (by decide)))
    have hs441 := (ht436 25 (by decide) (by decide)).trans hs335
    have hs442 := tf_keepCQ hs336 (hq436 _ (tf_ne hwd ha0 (by decide)))
    have hs443 := (ht436 13 (by decide) (by decide)).trans hs337
    have hs444 := (ht436 18 (by decide) (by decide)).trans hs338
    have hs445 := tf_keepCQ hs339 (hq436 _ (tf_ne hqop ha0 (by decide)))
    have hs446 := (ht436 19 (by decide) (by decide)).trans hs340
    have hs447 := tf_keepCQ hs341 (hq436 _ (tf_ne hqar ha0 (by decide)))
    have hs448 := (ht436 16 (by decide) (by decide)).trans hs342
    have hs449 := tf_keepCQ hs343 (hq436 _ (tf_ne hqcl ha0 (by decide)))
    refine lv_aload_n hx hb dX10_law_21 rfl (lv_at hl 0 rfl) ?_
    refine tf_bipush hx hb dX10_law_22 (by decide) ?_
    refine tf_calli (va_runV (As := [.int (Int32.ofInt ((-5)))]) (rest := []) ⟨hx, hb, hml, hown, hts⟩ (c_X10_tell l g T a0 ha0 ((-5)) ⟨by omega, by omega⟩) (cwV 1 hts gv_X10_117 rfl rfl rfl hd_X10_tell ⟨Nat.le_trans (by decide) hR1, Nat.le_trans (by decide) hR2⟩) (tf_preV hk hW ha0 (ci := 10) rfl rfl trivial) rfl rfl hl.1 rfl (lv_room (Nat.le_of_ble_eq_true rfl)) dX10_law_24 ⟨Nat.zero_le _, Nat.zero_le _⟩) hW (by decide) (fun z450 H450 locs450 hW hF450 hp450 => ?_)
    have hs451 := tf_keepF hF450 ha0 rfl rfl (by decide) hs437
    have hs452 := tf_keepC hF450 hb0 rfl (by decide) hs438
    have hs453 := tf_keepF hF450 ha0 rfl rfl (by decide) hs439
    have hs454 := tf_keepC hF450 htm rfl (by decide) hs440
    have hs455 := tf_keepF hF450 ha0 rfl rfl (by decide) hs441
    have hs456 := tf_keepC hF450 hwd rfl (by decide) hs442
    have hs457 := tf_keepF hF450 ha0 rfl rfl (by decide) hs443
    have hs458 := tf_keepF hF450 ha0 rfl rfl (by decide) hs444
    have hs459 := tf_keepC hF450 hqop rfl (by decide) hs445
    have hs460 := tf_keepF hF450 ha0 rfl rfl (by decide) hs446
    have hs461 := tf_keepC hF450 hqar rfl (by decide) hs447
    have hs462 := tf_keepF hF450 ha0 rfl rfl (by decide) hs448
    have hs463 := tf_keepC hF450 hqcl rfl (by decide) hs449
    have hs464 := tf_keepF hF450 ha0 rfl rfl (by decide) hs436
    obtain ⟨hp450_0, hp450_1, hp450_2⟩ := hp450
    exact tf_reti (z := z450) hx hb hr hlocks hQ hW ⟨by omega, by omega, ⟨(0), (gx), r0, hs452, hs464, hs457, ⟨by omega, by omega⟩, ⟨by omega, by omega⟩, (by first | assumption | omega), (by first | exact tf_kl_rf | exact tf_kl_up1 (tf_kp_l2 hRROW_180 (by omega))), (Or.inl ⟨by omega, by omega, by omega, rfl⟩)⟩⟩ dX10_law_27


abbrev M_X10_readExpression : List (Nat × Nat) := [(46, 0), (47, 0), (48, 0), (49, 0), (63, 9), (63, 10), (63, 11), (63, 12), (63, 13), (63, 14), (63, 17), (63, 20), (63, 23), (63, 24)]
set_option maxHeartbeats 4000000 in
set_option maxRecDepth 100000 in
theorem c_X10_readExpression (l : Launch) (g : tf_G) (T : tf_T) (a0 : Nat) (ha0 : T a0 = some (63, 0)) (x1 : Int) (hp1 : 0 ≤ x1 ∧ x1 ≤ 1) (ss : Int → Int) (pp : Int → Int) (mm : Int) (k9 : Int) (q9 : Int) (e9 : Int) (i9 : Int) (qop : Nat) (hqop : T qop = some (46, 400)) (qar : Nat) (hqar : T qar = some (47, 400)) (qpi : Nat) (hqpi : T qpi = some (48, 400)) (qpa : Nat) (hqpa : T qpa = some (49, 400)) (tm : Nat) (htm : T tm = some (44, 400)) (wd : Nat) (hwd : T wd = some (50, 9)) (gn : Int) (hgn : 0 ≤ gn ∧ gn ≤ 400) (gf : Int) (hgf : 0 ≤ gf ∧ gf ≤ 400) (gt : Int) (hgt : 0 ≤ gt ∧ gt ≤ 400) (gs : Int) (hgs : 0 ≤ gs ∧ gs ≤ 3) (gw : Int) (hgw : (-9223372036854775808) ≤ gw ∧ gw ≤ 9223372036854775807) (gb : Int) (hgb : 0 ≤ gb ∧ gb ≤ 1) (gc : Int) (hgc : 0 ≤ gc ∧ gc ≤ 400) (gx : Int) (hgx : (-2147483648) ≤ gx ∧ gx ≤ 2147483647) (gl : Int) (hgl : 0 ≤ gl ∧ gl ≤ 50) (rop : Int → Int) (rar : Int → Int) (rpi : Int → Int) (rpa : Int → Int) (tp : Int → Int) (gW : Int → Int) (hq0 : (gb = 0)) (hq1 : (gc ≤ gf)) (hq2 : (gf ≤ gt ∧ gt ≤ gn ∧ (gs = 0 → gf = gn) ∧ (gs ≠ 0 → gf < gt) ∧ (gs = 1 → 26 < gw → gf + 2 ≤ gt))) (hq3 : (tf_CX tp gn ss pp mm gW)) (hq4 : (tf_LX tp gn ss pp mm k9 gf gt gs gw)) (hq5 : (e9 = x1)) (hq6 : ((x1 = 0 ∧ q9 = 1) ∨ (x1 = 1 ∧ q9 = 0))) : Met l yX10_readExpression (cd_X10_readExpression :: wsL_law) ({ frames := 7, cells := 0, slots := 0, locals := 150 }) (tf_P g T [.ref a0, .int (Int32.ofInt x1)] (fun H => tf_s H a0 (g.1.2 10 18) = some (.ref qop) ∧ tf_s H a0 (g.1.2 10 19) = some (.ref qar) ∧ tf_s H a0 (g.1.2 10 21) = some (.ref qpi) ∧ tf_s H a0 (g.1.2 10 22) = some (.ref qpa) ∧ tf_s H a0 (g.1.2 10 8) = some (.int (Int32.ofInt gn)) ∧ tf_s H a0 (g.1.2 10 9) = some (.int (Int32.ofInt gf)) ∧ tf_s H a0 (g.1.2 10 10) = some (.int (Int32.ofInt gt)) ∧ tf_s H a0 (g.1.2 10 11) = some (.int (Int32.ofInt gs)) ∧ tf_s H a0 (g.1.2 10 12) = some (.long (Int64.ofInt gw)) ∧ tf_s H a0 (g.1.2 10 14) = some (.int (Int32.ofInt gb)) ∧ tf_s H a0 (g.1.2 10 17) = some (.int (Int32.ofInt gc)) ∧ tf_s H a0 (g.1.2 10 13) = some (.int (Int32.ofInt gx)) ∧ tf_s H a0 (g.1.2 10 20) = some (.int (Int32.ofInt gl)) ∧ tf_rw H qop = rop ∧ tf_rw H qar = rar ∧ tf_rw H qpi = rpi ∧ tf_rw H qpa = rpa ∧ tf_s H a0 (g.1.2 10 7) = some (.ref tm) ∧ tf_rw H tm = tp ∧ tf_s H a0 (g.1.2 10 25) = some (.ref wd) ∧ tf_rw H wd = gW)) (tf_Qv g M_X10_readExpression T (fun _ H => (∃ (gb1 gf1 gt1 gs1 gw1 gc1 gx1 gl1 : Int) (rop1 rar1 : Int → Int) , tf_s H a0 (g.1.2 10 14) = some (.int (Int32.ofInt gb1)) ∧ tf_s H a0 (g.1.2 10 9) = some (.int (Int32.ofInt gf1)) ∧ tf_s H a0 (g.1.2 10 10) = some (.int (Int32.ofInt gt1)) ∧ tf_s H a0 (g.1.2 10 11) = some (.int (Int32.ofInt gs1)) ∧ tf_s H a0 (g.1.2 10 12) = some (.long (Int64.ofInt gw1)) ∧ tf_s H a0 (g.1.2 10 17) = some (.int (Int32.ofInt gc1)) ∧ tf_s H a0 (g.1.2 10 13) = some (.int (Int32.ofInt gx1)) ∧ tf_s H a0 (g.1.2 10 20) = some (.int (Int32.ofInt gl1)) ∧ tf_rw H qop = rop1 ∧ tf_rw H qar = rar1 ∧ (0 ≤ gb1 ∧ gb1 ≤ 1) ∧ (0 ≤ gf1 ∧ gf1 ≤ 400) ∧ (0 ≤ gt1 ∧ gt1 ≤ 400) ∧ (0 ≤ gs1 ∧ gs1 ≤ 3) ∧ ((-9223372036854775808) ≤ gw1 ∧ gw1 ≤ 9223372036854775807) ∧ (0 ≤ gc1 ∧ gc1 ≤ 400) ∧ ((-2147483648) ≤ gx1 ∧ gx1 ≤ 2147483647) ∧ (0 ≤ gl1 ∧ gl1 ≤ 50) ∧ (gf1 ≤ gt1 ∧ gt1 ≤ gn ∧ (gs1 = 0 → gf1 = gn) ∧ (gs1 ≠ 0 → gf1 < gt1) ∧ (gs1 = 1 → 26 < gw1 → gf1 + 2 ≤ gt1)) ∧ (gc1 ≤ gf1) ∧ (gf ≤ gf1) ∧ (gb1 = 1 ∨ (tf_sg rop1 rar1 gc gc1 ∧ ∀ k, k < gc → rop1 k = rop k ∧ rar1 k = rar k)) ∧ (tf_EX tp gn ss pp mm (k9, q9, 0, [], gl, e9, i9) gb1 gx1 gf1 gt1 gs1 gw1 gl1 e9 i9) ∧ (gb1 = 1 ∨ gx1 = gx)))) 0 0 (fun q => tf_B g ≤ q) := by
  refine Met.ofW (cc := cX10_readExpression) (maxL := 3) (ret := none) (by decide) rfl ?_
  intro p e s m args below meth c s₁ B hml hv
  obtain ⟨hargs, hk, hW0, hB, hpre⟩ := hv
  obtain ⟨he0, he1, he2, he3, he4, he5, he6, he7, he8, he9, he10, he11, he12, he13, he14, he15, he16, he17, he18, he19, he20⟩ := hpre
  have hx := B.exec
  have hb := B.bytes
  have hr := B.returns
  have hts : ∀ w ∈ wsL_law, w.before args s = true := fun w h => atoms_spec (ws := cd_X10_readExpression :: wsL_law) B.pre w (List.mem_cons_of_mem _ h)
  have hown : s.vm.findClass RX10 = some m.cls := findClass_of_methodNamed B.named
  have hlocks := B.notSynchronized
  have hK := hk.1
  have hW := tf_n.start (M := M_X10_readExpression) hW0 hB
  obtain ⟨Q, hQ⟩ : ∃ q, q = MQ below (tf_Qv g M_X10_readExpression T (fun _ H => (∃ (gb1 gf1 gt1 gs1 gw1 gc1 gx1 gl1 : Int) (rop1 rar1 : Int → Int) , tf_s H a0 (g.1.2 10 14) = some (.int (Int32.ofInt gb1)) ∧ tf_s H a0 (g.1.2 10 9) = some (.int (Int32.ofInt gf1)) ∧ tf_s H a0 (g.1.2 10 10) = some (.int (Int32.ofInt gt1)) ∧ tf_s H a0 (g.1.2 10 11) = some (.int (Int32.ofInt gs1)) ∧ tf_s H a0 (g.1.2 10 12) = some (.long (Int64.ofInt gw1)) ∧ tf_s H a0 (g.1.2 10 17) = some (.int (Int32.ofInt gc1)) ∧ tf_s H a0 (g.1.2 10 13) = some (.int (Int32.ofInt gx1)) ∧ tf_s H a0 (g.1.2 10 20) = some (.int (Int32.ofInt gl1)) ∧ tf_rw H qop = rop1 ∧ tf_rw H qar = rar1 ∧ (0 ≤ gb1 ∧ gb1 ≤ 1) ∧ (0 ≤ gf1 ∧ gf1 ≤ 400) ∧ (0 ≤ gt1 ∧ gt1 ≤ 400) ∧ (0 ≤ gs1 ∧ gs1 ≤ 3) ∧ ((-9223372036854775808) ≤ gw1 ∧ gw1 ≤ 9223372036854775807) ∧ (0 ≤ gc1 ∧ gc1 ≤ 400) ∧ ((-2147483648) ≤ gx1 ∧ gx1 ≤ 2147483647) ∧ (0 ≤ gl1 ∧ gl1 ≤ 50) ∧ (gf1 ≤ gt1 ∧ gt1 ≤ gn ∧ (gs1 = 0 → gf1 = gn) ∧ (gs1 ≠ 0 → gf1 < gt1) ∧ (gs1 = 1 → 26 < gw1 → gf1 + 2 ≤ gt1)) ∧ (gc1 ≤ gf1) ∧ (gf ≤ gf1) ∧ (gb1 = 1 ∨ (tf_sg rop1 rar1 gc gc1 ∧ ∀ k, k < gc → rop1 k = rop k ∧ rar1 k = rar k)) ∧ (tf_EX tp gn ss pp mm (k9, q9, 0, [], gl, e9, i9) gb1 gx1 gf1 gt1 gs1 gw1 gl1 e9 i9) ∧ (gb1 = 1 ∨ gx1 = gx)))) args s 0 0 (fun q => tf_B g ≤ q) := ⟨_, rfl⟩
  rw [← hQ]
  obtain ⟨R, hR⟩ : ∃ q, q = (headSpec (cd_X10_readExpression :: wsL_law) ({ frames := 7, cells := 0, slots := 0, locals := 150 })).room := ⟨_, rfl⟩
  rw [← hR]
  have hR1 : 7 ≤ R.frames := by rw [hR]; exact Nat.le_refl _
  have hR2 : 150 ≤ R.locals := by rw [hR]; exact Nat.le_refl _
  have hR3 : 0 ≤ R.cells := by rw [hR]; exact Nat.le_refl _
  have hR4 : 0 ≤ R.slots := by rw [hR]; exact Nat.le_refl _
  have hin := (name_of_methodNamed B.named B.method).1
  clear hR B
  have j_20 : ∀ (n_20 : Nat), 0 ≤ x1 ∧ x1 ≤ 1 → ∀ (x2_20 : Int), 0 ≤ x2_20 ∧ x2_20 ≤ 4 → ∀ (f9_20 : Int), 0 ≤ f9_20 ∧ f9_20 ≤ 400 → ∀ (f10_20 : Int), 0 ≤ f10_20 ∧ f10_20 ≤ 400 → ∀ (f11_20 : Int), 0 ≤ f11_20 ∧ f11_20 ≤ 3 → ∀ (f12_20 : Int), (-9223372036854775808) ≤ f12_20 ∧ f12_20 ≤ 9223372036854775807 → ∀ (f14_20 : Int), 0 ≤ f14_20 ∧ f14_20 ≤ 1 → ∀ (f17_20 : Int), 0 ≤ f17_20 ∧ f17_20 ≤ 400 → ∀ (f13_20 : Int), (-2147483648) ≤ f13_20 ∧ f13_20 ≤ 2147483647 → ∀ (f20_20 : Int), 0 ≤ f20_20 ∧ f20_20 ≤ 50 → ∀ (rNOP_20 : Int → Int), (True) → ∀ (rNAR_20 : Int → Int), (True) → ∀ (rPIL_20 : Int → Int), (True) → ∀ (rPAT_20 : Int → Int), (True) → ∀ (f23_20 : Int), 0 ≤ f23_20 ∧ f23_20 ≤ 400 → ∀ (f24_20 : Int), 0 ≤ f24_20 ∧ f24_20 ≤ 8 → (f9_20 ≤ f10_20 ∧ f10_20 ≤ gn ∧ (f11_20 = 0 → f9_20 = gn) ∧ (f11_20 ≠ 0 → f9_20 < f10_20) ∧ (f11_20 = 1 → 26 < f12_20 → f9_20 + 2 ≤ f10_20)) → (f17_20 + f23_20 ≤ f9_20) → (tf_PB rPIL_20 rPAT_20 f23_20) → (f14_20 = 1 ∨ tf_ST x2_20 rop rar rNOP_20 rNAR_20 rPIL_20 rPAT_20 gc f17_20 f23_20) → (0 ≤ x2_20 ∧ x2_20 ≤ 4) → (gf ≤ f9_20) → (tf_LI tp gn ss pp mm (k9, q9, 0, [], gl, e9, i9) f14_20 f13_20 rPIL_20 f9_20 f10_20 f11_20 f12_20 f23_20 f20_20 f24_20 x2_20 e9 i9) → (f14_20 = 1 ∨ f13_20 = gx) → ((tf_mu f9_20 f14_20 x2_20 : Int) + 1 ≤ (n_20 : Int)) → ∀ (H : Heap) (locs : List Loc), tf_n tf_kt g M_X10_readExpression T s.heap T H locs → tf_s H a0 (g.1.2 10 18) = some (.ref qop) → tf_s H a0 (g.1.2 10 19) = some (.ref qar) → tf_s H a0 (g.1.2 10 21) = some (.ref qpi) → tf_s H a0 (g.1.2 10 22) = some (.ref qpa) → tf_s H a0 (g.1.2 10 8) = some (.int (Int32.ofInt gn)) → tf_s H a0 (g.1.2 10 9) = some (.int (Int32.ofInt f9_20)) → tf_s H a0 (g.1.2 10 10) = some (.int (Int32.ofInt f10_20)) → tf_s H a0 (g.1.2 10 11) = some (.int (Int32.ofInt f11_20)) → tf_s H a0 (g.1.2 10 12) = some (.long (Int64.ofInt f12_20)) → tf_s H a0 (g.1.2 10 14) = some (.int (Int32.ofInt f14_20)) → tf_s H a0 (g.1.2 10 17) = some (.int (Int32.ofInt f17_20)) → tf_s H a0 (g.1.2 10 13) = some (.int (Int32.ofInt f13_20)) → tf_s H a0 (g.1.2 10 20) = some (.int (Int32.ofInt f20_20)) → tf_rw H qop = rNOP_20 → tf_rw H qar = rNAR_20 → tf_rw H qpi = rPIL_20 → tf_rw H qpa = rPAT_20 → tf_s H a0 (g.1.2 10 7) = some (.ref tm) → tf_rw H tm = tp → tf_s H a0 (g.1.2 10 25) = some (.ref wd) → tf_rw H wd = gW → tf_s H a0 (g.1.2 10 23) = some (.int (Int32.ofInt f23_20)) → tf_s H a0 (g.1.2 10 24) = some (.int (Int32.ofInt f24_20)) → ∀ (ls : Array Slot), lv_has ls 3 [(0, .ref a0), (1, .int (Int32.ofInt x1)), (2, .int (Int32.ofInt x2_20))] → W p l e R s m args below meth c H locs 0 0 Q (F0 m 20 ls []) := by
    intro n_20
    induction n_20 with
    | zero =>
      intro hx1_20 x2_20 hx2_20 f9_20 hf9_20 f10_20 hf10_20 f11_20 hf11_20 f12_20 hf12_20 f14_20 hf14_20 f17_20 hf17_20 f13_20 hf13_20 f20_20 hf20_20 rNOP_20 hRNOP_20 rNAR_20 hRNAR_20 rPIL_20 hRPIL_20 rPAT_20 hRPAT_20 f23_20 hf23_20 f24_20 hf24_20 hi0_20 hi1_20 hi2_20 hi3_20 hi4_20 hi5_20 hi6_20 hi7_20 hm_20
      exfalso; omega
    | succ n_20 ih_20 =>
      intro hx1_20 x2_20 hx2_20 f9_20 hf9_20 f10_20 hf10_20 f11_20 hf11_20 f12_20 hf12_20 f14_20 hf14_20 f17_20 hf17_20 f13_20 hf13_20 f20_20 hf20_20 rNOP_20 hRNOP_20 rNAR_20 hRNAR_20 rPIL_20 hRPIL_20 rPAT_20 hRPAT_20 f23_20 hf23_20 f24_20 hf24_20 hi0_20 hi1_20 hi2_20 hi3_20 hi4_20 hi5_20 hi6_20 hi7_20 hm_20 H locs hW hs18_20 hs19_20 hs21_20 hs22_20 hs8_20 hs9_20 hs10_20 hs11_20 hs12_20 hs14_20 hs17_20 hs13_20 hs20_20 hcNOP_20 hcNAR_20 hcPIL_20 hcPAT_20 hs7_20 hcTPM_20 hs25_20 hcLWD_20 hs23_20 hs24_20 ls hl
      refine lv_aload_n hx hb dX10_readExpression_20 rfl (lv_at hl 0 rfl) ?_
      refine tf_get hx hb hts inlX10 hown hK (ci := 10) rfl hW ha0 rfl 14 rfl (by decide) (hts _ fl_X10_200) dX10_readExpression_21 (fun v1 hv1 hsv1 => ?_)
      obtain rfl : v1 = .int (Int32.ofInt f14_20) := Option.some.inj (hsv1.symm.trans hs14_20)
      refine tf_if_ne (tgt := 76) hx hb ⟨by omega, by omega⟩ dX10_readExpression_24 (by decide) (fun h2 => ?_) (fun h2 => ?_)
      · refine lv_aload_n hx hb dX10_readExpression_76 rfl (lv_at hl 0 rfl) ?_
        refine tf_iconst hx hb dX10_readExpression_77 ?_
        refine tf_callv (va_runV (As := [.int (Int32.ofInt 1)]) (rest := []) ⟨hx, hb, hml, hown, hts⟩ (c_X10_settle l g T a0 ha0 (1) ⟨by omega, by omega⟩ qop hqop qar hqar qpi hqpi qpa hqpa (f17_20) ⟨by omega, by omega⟩ (f23_20) ⟨by omega, by omega⟩ rNOP_20 rNAR_20 rPIL_20 rPAT_20 (by first | assumption | omega) (by first | assumption | omega)) (cwV 1 hts gv_X10_291 rfl rfl rfl hd_X10_settle ⟨Nat.le_trans (by decide) hR1, Nat.le_trans (by decide) hR2⟩) (tf_preV hk hW ha0 (ci := 10) rfl rfl ⟨hs18_20, hs19_20, hs21_20, hs22_20, hs17_20, hs23_20, hcNOP_20, hcNAR_20, hcPIL_20, hcPAT_20⟩) rfl rfl hl.1 rfl (lv_room (Nat.le_of_ble_eq_true rfl)) dX10_readExpression_78 ⟨Nat.zero_le _, Nat.zero_le _⟩) hW (by decide) (fun HS locsS hW hFS hpS => ?_)
        have hs3 := tf_keepF hFS ha0 rfl rfl (by decide) hs18_20
        have hs4 := tf_keepF hFS ha0 rfl rfl (by decide) hs19_20
        have hs5 := tf_keepF hFS ha0 rfl rfl (by decide) hs21_20
        have hs6 := tf_keepF hFS ha0 rfl rfl (by decide) hs22_20
        have hs7 := tf_keepF hFS ha0 rfl rfl (by decide) hs8_20
        have hs8 := tf_keepF hFS ha0 rfl rfl (by decide) hs9_20
        have hs9 := tf_keepF hFS ha0 rfl rfl (by decide) hs10_20
        have hs10 := tf_keepF hFS ha0 rfl rfl (by decide) hs11_20
        have hs11 := tf_keepF hFS ha0 rfl rfl (by decide) hs12_20
        have hs12 := tf_keepF hFS ha0 rfl rfl (by decide) hs14_20
        have hs13 := tf_keepF hFS ha0 rfl rfl (by decide) hs13_20
        have hs14 := tf_keepF hFS ha0 rfl rfl (by decide) hs20_20
        have hs15 := tf_keepC hFS hqpi rfl (by decide) hcPIL_20
        have hs16 := tf_keepC hFS hqpa rfl (by decide) hcPAT_20
        have hs17 := tf_keepF hFS ha0 rfl rfl (by decide) hs7_20
        have hs18 := tf_keepC hFS htm rfl (by decide) hcTPM_20
        have hs19 := tf_keepF hFS ha0 rfl rfl (by decide) hs25_20
        have hs20 := tf_keepC hFS hwd rfl (by decide) hcLWD_20
        have hs21 := tf_keepF hFS ha0 rfl rfl (by decide) hs24_20
        obtain ⟨gc1_S, gp1_S, rop1_S, rar1_S, hXS_0, hXS_1, hXS_2, hXS_3, hBS_0, hBS_1, hRS_0, hRS_1, hRS_2, hRS_3, hRS_4, hRS_5, hRS_6⟩ := hpS
        exact tf_retv hx hb hr hlocks hQ hW ⟨(f14_20), (f9_20), (f10_20), (f11_20), (f12_20), (gc1_S), (f13_20), (f20_20), rop1_S, rar1_S, hs12, hs8, hs9, hs10, hs11, hXS_0, hs13, hs14, hXS_2, hXS_3, ⟨by omega, by omega⟩, ⟨by omega, by omega⟩, ⟨by omega, by omega⟩, ⟨by omega, by omega⟩, ⟨by omega, by omega⟩, ⟨by omega, by omega⟩, ⟨by omega, by omega⟩, ⟨by omega, by omega⟩, (by first | assumption | omega), (by first | assumption | omega), (by first | assumption | omega), (by first | exact Or.inl (by omega) | exact Or.inr (tf_fin hi3_20 (by omega) (by omega) (by omega) (by omega) (by omega) hRS_5 (by omega))), (tf_EX_of hi6_20 (by omega)), (by first | assumption | omega)⟩ dX10_readExpression_81
      · refine lv_iload_n hx hb dX10_readExpression_27 rfl (lv_at hl 2 rfl) ?_
        refine tf_iconst hx hb dX10_readExpression_28 ?_
        refine tf_icmp_eq (tgt := 76) hx hb ⟨by omega, by omega⟩ ⟨by decide, by decide⟩ dX10_readExpression_29 (by decide) (fun h22 => ?_) (fun h22 => ?_)
        · refine lv_aload_n hx hb dX10_readExpression_76 rfl (lv_at hl 0 rfl) ?_
          refine tf_iconst hx hb dX10_readExpression_77 ?_
          refine tf_callv (va_runV (As := [.int (Int32.ofInt 1)]) (rest := []) ⟨hx, hb, hml, hown, hts⟩ (c_X10_settle l g T a0 ha0 (1) ⟨by omega, by omega⟩ qop hqop qar hqar qpi hqpi qpa hqpa (f17_20) ⟨by omega, by omega⟩ (f23_20) ⟨by omega, by omega⟩ rNOP_20 rNAR_20 rPIL_20 rPAT_20 (by first | assumption | omega) (by first | assumption | omega)) (cwV 1 hts gv_X10_291 rfl rfl rfl hd_X10_settle ⟨Nat.le_trans (by decide) hR1, Nat.le_trans (by decide) hR2⟩) (tf_preV hk hW ha0 (ci := 10) rfl rfl ⟨hs18_20, hs19_20, hs21_20, hs22_20, hs17_20, hs23_20, hcNOP_20, hcNAR_20, hcPIL_20, hcPAT_20⟩) rfl rfl hl.1 rfl (lv_room (Nat.le_of_ble_eq_true rfl)) dX10_readExpression_78 ⟨Nat.zero_le _, Nat.zero_le _⟩) hW (by decide) (fun HS locsS hW hFS hpS => ?_)
          have hs23 := tf_keepF hFS ha0 rfl rfl (by decide) hs18_20
          have hs24 := tf_keepF hFS ha0 rfl rfl (by decide) hs19_20
          have hs25 := tf_keepF hFS ha0 rfl rfl (by decide) hs21_20
          have hs26 := tf_keepF hFS ha0 rfl rfl (by decide) hs22_20
          have hs27 := tf_keepF hFS ha0 rfl rfl (by decide) hs8_20
          have hs28 := tf_keepF hFS ha0 rfl rfl (by decide) hs9_20
          have hs29 := tf_keepF hFS ha0 rfl rfl (by decide) hs10_20
          have hs30 := tf_keepF hFS ha0 rfl rfl (by decide) hs11_20
          have hs31 := tf_keepF hFS ha0 rfl rfl (by decide) hs12_20
          have hs32 := tf_keepF hFS ha0 rfl rfl (by decide) hs14_20
          have hs33 := tf_keepF hFS ha0 rfl rfl (by decide) hs13_20
          have hs34 := tf_keepF hFS ha0 rfl rfl (by decide) hs20_20
          have hs35 := tf_keepC hFS hqpi rfl (by decide) hcPIL_20
          have hs36 := tf_keepC hFS hqpa rfl (by decide) hcPAT_20
          have hs37 := tf_keepF hFS ha0 rfl rfl (by decide) hs7_20
          have hs38 := tf_keepC hFS htm rfl (by decide) hcTPM_20
          have hs39 := tf_keepF hFS ha0 rfl rfl (by decide) hs25_20
          have hs40 := tf_keepC hFS hwd rfl (by decide) hcLWD_20
          have hs41 := tf_keepF hFS ha0 rfl rfl (by decide) hs24_20
          obtain ⟨gc1_S, gp1_S, rop1_S, rar1_S, hXS_0, hXS_1, hXS_2, hXS_3, hBS_0, hBS_1, hRS_0, hRS_1, hRS_2, hRS_3, hRS_4, hRS_5, hRS_6⟩ := hpS
          exact tf_retv hx hb hr hlocks hQ hW ⟨(f14_20), (f9_20), (f10_20), (f11_20), (f12_20), (gc1_S), (f13_20), (f20_20), rop1_S, rar1_S, hs32, hs28, hs29, hs30, hs31, hXS_0, hs33, hs34, hXS_2, hXS_3, ⟨by omega, by omega⟩, ⟨by omega, by omega⟩, ⟨by omega, by omega⟩, ⟨by omega, by omega⟩, ⟨by omega, by omega⟩, ⟨by omega, by omega⟩, ⟨by omega, by omega⟩, ⟨by omega, by omega⟩, (by first | assumption | omega), (by first | assumption | omega), (by first | assumption | omega), (by first | exact Or.inl (by omega) | exact Or.inr (tf_fin hi3_20 (by omega) (by omega) (by omega) (by omega) (by omega) hRS_5 (by omega))), (tf_EX_of hi6_20 (by omega)), (by first | assumption | omega)⟩ dX10_readExpression_81
        · have hST := hi3_20.resolve_left (by omega)
          obtain ⟨k8, c8, S8, hRe8, hRR8⟩ := tf_LI_go hi6_20 (by omega)
          refine lv_iload_n hx hb dX10_readExpression_32 rfl (lv_at hl 2 rfl) ?_
          refine tf_if_ne (tgt := 43) hx hb ⟨by omega, by omega⟩ dX10_readExpression_33 (by decide) (fun h42 => ?_) (fun h42 => ?_)
          · refine lv_iload_n hx hb dX10_readExpression_43 rfl (lv_at hl 2 rfl) ?_
            refine tf_iconst hx hb dX10_readExpression_44 ?_
            refine tf_icmp_ne (tgt := 55) hx hb ⟨by omega, by omega⟩ ⟨by decide, by decide⟩ dX10_readExpression_45 (by decide) (fun h43 => ?_) (fun h43 => ?_)
            · refine lv_iload_n hx hb dX10_readExpression_55 rfl (lv_at hl 2 rfl) ?_
              refine tf_iconst hx hb dX10_readExpression_56 ?_
              refine tf_icmp_ne (tgt := 68) hx hb ⟨by omega, by omega⟩ ⟨by decide, by decide⟩ dX10_readExpression_57 (by decide) (fun h44 => ?_) (fun h44 => ?_)
              · refine lv_aload_n hx hb dX10_readExpression_68 rfl (lv_at hl 0 rfl) ?_
                refine tf_calli (va_runV (As := []) (rest := []) ⟨hx, hb, hml, hown, hts⟩ (c_X10_behindTest l g T a0 ha0 (gc) (rop) (rar) (ss) (pp) (mm) (k8) (c8) (S8) (e9) (i9) qop hqop qar hqar qpi hqpi qpa hqpa tm htm wd hwd (gn) ⟨by omega, by omega⟩ (f9_20) ⟨by omega, by omega⟩ (f10_20) ⟨by omega, by omega⟩ (f11_20) ⟨by omega, by omega⟩ (f12_20) ⟨by omega, by omega⟩ (f14_20) ⟨by omega, by omega⟩ (f17_20) ⟨by omega, by omega⟩ (f23_20) ⟨by omega, by omega⟩ (f13_20) ⟨by omega, by omega⟩ (f20_20) ⟨by omega, by omega⟩ (f24_20) ⟨by omega, by omega⟩ rNOP_20 rNAR_20 rPIL_20 rPAT_20 tp gW (by first | assumption | omega) (by first | assumption | omega) (by first | assumption | omega) (hST.hi (by omega)) (hST.2.2.1 (by omega)) (by first | assumption | omega) (tf_RR_to hRR8 (by omega))) (cwV 0 hts gv_X10_312 rfl rfl rfl hd_X10_behindTest ⟨Nat.le_trans (by decide) hR1, Nat.le_trans (by decide) hR2⟩) (tf_preV hk hW ha0 (ci := 10) rfl rfl ⟨hs18_20, hs19_20, hs21_20, hs22_20, hs8_20, hs9_20, hs10_20, hs11_20, hs12_20, hs14_20, hs17_20, hs23_20, hs13_20, hs20_20, hs24_20, hcNOP_20, hcNAR_20, hcPIL_20, hcPAT_20, hs7_20, hcTPM_20, hs25_20, hcLWD_20⟩) rfl rfl hl.1 rfl (lv_room (Nat.le_of_ble_eq_true rfl)) dX10_readExpression_69 ⟨Nat.zero_le _, Nat.zero_le _⟩) hW (by decide) (fun zP HP locsP hW hFP hpP => ?_)
                have hs45 := tf_keepF hFP ha0 rfl rfl (by decide) hs18_20
                have hs46 := tf_keepF hFP ha0 rfl rfl (by decide) hs19_20
                have hs47 := tf_keepF hFP ha0 rfl rfl (by decide) hs21_20
                have hs48 := tf_keepF hFP ha0 rfl rfl (by decide) hs22_20
                have hs49 := tf_keepF hFP ha0 rfl rfl (by decide) hs8_20
                have hs50 := tf_keepF hFP ha0 rfl rfl (by decide) hs20_20
                have hs51 := tf_keepF hFP ha0 rfl rfl (by decide) hs7_20
                have hs52 := tf_keepC hFP htm rfl (by decide) hcTPM_20
                have hs53 := tf_keepF hFP ha0 rfl rfl (by decide) hs25_20
                have hs54 := tf_keepC hFP hwd rfl (by decide) hcLWD_20
                obtain ⟨hpP_0, hpP_1, hpP_2⟩ := hpP
                obtain ⟨gb1_P, gf1_P, gt1_P, gs1_P, gw1_P, gc1_P, gp1_P, gx1_P, gl1_P, go1_P, rop1_P, rar1_P, rpi1_P, rpa1_P, hXP_0, hXP_1, hXP_2, hXP_3, hXP_4, hXP_5, hXP_6, hXP_7, hXP_8, hXP_9, hXP_10, hXP_11, hXP_12, hXP_13, hBP_0, hBP_1, hBP_2, hBP_3, hBP_4, hBP_5, hBP_6, hBP_7, hBP_8, hBP_9, hRP_0, hRP_1, hRP_2, hRP_3, hRP_4, hRP_5, hRP_6⟩ := hpP_2
                refine lv_istore_n (lv' := [(2, .int (Int32.ofInt zP)), (0, .ref a0), (1, .int (Int32.ofInt x1))]) hx hb dX10_readExpression_72 rfl hl (by decide) rfl (fun ls hl => ?_)
                have hmu := tf_mu_dec (f := f9_20) (b := f14_20) (z := x2_20) (f1 := gf1_P) (b1 := gb1_P) (z1 := zP) (by omega) (by omega) (by omega) (by omega) (by omega)
                refine lv_goto (tgt := 20) hx hb dX10_readExpression_73 (by decide) ?_
                exact ih_20 ⟨by omega, by omega⟩ (zP) ⟨by omega, by omega⟩ (gf1_P) ⟨by omega, by omega⟩ (gt1_P) ⟨by omega, by omega⟩ (gs1_P) ⟨by omega, by omega⟩ (gw1_P) ⟨by omega, by omega⟩ (gb1_P) ⟨by omega, by omega⟩ (gc1_P) ⟨by omega, by omega⟩ (gx1_P) ⟨by omega, by omega⟩ (gl1_P) ⟨by omega, by omega⟩ rop1_P (trivial) rar1_P (trivial) rpi1_P (trivial) rpa1_P (trivial) (gp1_P) ⟨by omega, by omega⟩ (go1_P) ⟨by omega, by omega⟩ (by first | assumption | omega) (by first | assumption | omega) (by first | assumption | exact fun j h1 h2 => by omega) (by first | assumption | exact Or.inr (tf_ST0 (tf_PI_0 (by omega)) (fun j h1 h2 => by omega)) | exact Or.inr (tf_ST1 (tf_PI_0 (by omega)) (fun i j h1 h2 h3 => by omega))) (by first | assumption | omega) (by first | assumption | omega) (by first | exact tf_LI_0 hq4 (by omega) (by omega) (by omega) | exact tf_LI_st hRe8 (by omega) (by decide) hRP_5) (by first | assumption | omega) (by omega) _ _ hW hs45 hs46 hs47 hs48 hs49 hXP_1 hXP_2 hXP_3 hXP_4 hXP_0 hXP_5 hXP_7 hXP_8 hXP_10 hXP_11 hXP_12 hXP_13 hs51 hs52 hs53 hs54 hXP_6 hXP_9 _ (lv_sub hl [1, 2, 0] rfl)
              · refine lv_aload_n hx hb dX10_readExpression_60 rfl (lv_at hl 0 rfl) ?_
                refine lv_iload_n hx hb dX10_readExpression_61 rfl (lv_at hl 1 rfl) ?_
                refine tf_calli (va_runV (As := [.int (Int32.ofInt x1)]) (rest := []) ⟨hx, hb, hml, hown, hts⟩ (c_X10_behindSum l g T a0 ha0 (x1) ⟨by omega, by omega⟩ (gc) (rop) (rar) (ss) (pp) (mm) (k8) (c8) (S8) (e9) (i9) qop hqop qar hqar qpi hqpi qpa hqpa tm htm wd hwd (gn) ⟨by omega, by omega⟩ (f9_20) ⟨by omega, by omega⟩ (f10_20) ⟨by omega, by omega⟩ (f11_20) ⟨by omega, by omega⟩ (f12_20) ⟨by omega, by omega⟩ (f14_20) ⟨by omega, by omega⟩ (f17_20) ⟨by omega, by omega⟩ (f23_20) ⟨by omega, by omega⟩ (f13_20) ⟨by omega, by omega⟩ (f20_20) ⟨by omega, by omega⟩ (f24_20) ⟨by omega, by omega⟩ rNOP_20 rNAR_20 rPIL_20 rPAT_20 tp gW (by first | assumption | omega) (by first | assumption | omega) (by first | assumption | omega) (hST.hi (by omega)) hST.2.1 (by first | assumption | omega) (tf_RR_to hRR8 (by omega)) (by first | assumption | omega)) (cwV 1 hts gv_X10_308 rfl rfl rfl hd_X10_behindSum ⟨Nat.le_trans (by decide) hR1, Nat.le_trans (by decide) hR2⟩) (tf_preV hk hW ha0 (ci := 10) rfl rfl ⟨hs18_20, hs19_20, hs21_20, hs22_20, hs8_20, hs9_20, hs10_20, hs11_20, hs12_20, hs14_20, hs17_20, hs23_20, hs13_20, hs20_20, hs24_20, hcNOP_20, hcNAR_20, hcPIL_20, hcPAT_20, hs7_20, hcTPM_20, hs25_20, hcLWD_20⟩) rfl rfl hl.1 rfl (lv_room (Nat.le_of_ble_eq_true rfl)) dX10_readExpression_62 ⟨Nat.zero_le _, Nat.zero_le _⟩) hW (by decide) (fun zP HP locsP hW hFP hpP => ?_)
                have hs55 := tf_keepF hFP ha0 rfl rfl (by decide) hs18_20
                have hs56 := tf_keepF hFP ha0 rfl rfl (by decide) hs19_20
                have hs57 := tf_keepF hFP ha0 rfl rfl (by decide) hs21_20
                have hs58 := tf_keepF hFP ha0 rfl rfl (by decide) hs22_20
                have hs59 := tf_keepF hFP ha0 rfl rfl (by decide) hs8_20
                have hs60 := tf_keepF hFP ha0 rfl rfl (by decide) hs20_20
                have hs61 := tf_keepF hFP ha0 rfl rfl (by decide) hs7_20
                have hs62 := tf_keepC hFP htm rfl (by decide) hcTPM_20
                have hs63 := tf_keepF hFP ha0 rfl rfl (by decide) hs25_20
                have hs64 := tf_keepC hFP hwd rfl (by decide) hcLWD_20
                obtain ⟨hpP_0, hpP_1, hpP_2⟩ := hpP
                obtain ⟨gb1_P, gf1_P, gt1_P, gs1_P, gw1_P, gc1_P, gp1_P, gx1_P, gl1_P, go1_P, rop1_P, rar1_P, rpi1_P, rpa1_P, hXP_0, hXP_1, hXP_2, hXP_3, hXP_4, hXP_5, hXP_6, hXP_7, hXP_8, hXP_9, hXP_10, hXP_11, hXP_12, hXP_13, hBP_0, hBP_1, hBP_2, hBP_3, hBP_4, hBP_5, hBP_6, hBP_7, hBP_8, hBP_9, hRP_0, hRP_1, hRP_2, hRP_3, hRP_4, hRP_5, hRP_6⟩ := hpP_2
                refine lv_goto (tgt := 72) hx hb dX10_readExpression_65 (by decide) ?_
                refine lv_istore_n (lv' := [(2, .int (Int32.ofInt zP)), (0, .ref a0), (1, .int (Int32.ofInt x1))]) hx hb dX10_readExpression_72 rfl hl (by decide) rfl (fun ls hl => ?_)
                have hmu := tf_mu_dec (f := f9_20) (b := f14_20) (z := x2_20) (f1 := gf1_P) (b1 := gb1_P) (z1 := zP) (by omega) (by omega) (by omega) (by omega) (by omega)
                refine lv_goto (tgt := 20) hx hb dX10_readExpression_73 (by decide) ?_
                exact ih_20 ⟨by omega, by omega⟩ (zP) ⟨by omega, by omega⟩ (gf1_P) ⟨by omega, by omega⟩ (gt1_P) ⟨by omega, by omega⟩ (gs1_P) ⟨by omega, by omega⟩ (gw1_P) ⟨by omega, by omega⟩ (gb1_P) ⟨by omega, by omega⟩ (gc1_P) ⟨by omega, by omega⟩ (gx1_P) ⟨by omega, by omega⟩ (gl1_P) ⟨by omega, by omega⟩ rop1_P (trivial) rar1_P (trivial) rpi1_P (trivial) rpa1_P (trivial) (gp1_P) ⟨by omega, by omega⟩ (go1_P) ⟨by omega, by omega⟩ (by first | assumption | omega) (by first | assumption | omega) (by first | assumption | exact fun j h1 h2 => by omega) (by first | assumption | exact Or.inr (tf_ST0 (tf_PI_0 (by omega)) (fun j h1 h2 => by omega)) | exact Or.inr (tf_ST1 (tf_PI_0 (by omega)) (fun i j h1 h2 h3 => by omega))) (by first | assumption | omega) (by first | assumption | omega) (by first | exact tf_LI_0 hq4 (by omega) (by omega) (by omega) | exact tf_LI_st hRe8 (by omega) (by decide) hRP_5) (by first | assumption | omega) (by omega) _ _ hW hs55 hs56 hs57 hs58 hs59 hXP_1 hXP_2 hXP_3 hXP_4 hXP_0 hXP_5 hXP_7 hXP_8 hXP_10 hXP_11 hXP_12 hXP_13 hs61 hs62 hs63 hs64 hXP_6 hXP_9 _ (lv_sub hl [1, 2, 0] rfl)
            · refine lv_aload_n hx hb dX10_readExpression_48 rfl (lv_at hl 0 rfl) ?_
              refine tf_calli (va_runV (As := []) (rest := []) ⟨hx, hb, hml, hown, hts⟩ (c_X10_readPart l g T a0 ha0 (gc) (rop) (rar) (ss) (pp) (mm) (k8) (c8) (S8) (e9) (i9) qop hqop qar hqar qpi hqpi qpa hqpa tm htm wd hwd (gn) ⟨by omega, by omega⟩ (f9_20) ⟨by omega, by omega⟩ (f10_20) ⟨by omega, by omega⟩ (f11_20) ⟨by omega, by omega⟩ (f12_20) ⟨by omega, by omega⟩ (f14_20) ⟨by omega, by omega⟩ (f17_20) ⟨by omega, by omega⟩ (f23_20) ⟨by omega, by omega⟩ (f13_20) ⟨by omega, by omega⟩ (f20_20) ⟨by omega, by omega⟩ (f24_20) ⟨by omega, by omega⟩ rNOP_20 rNAR_20 rPIL_20 rPAT_20 tp gW (by first | assumption | omega) (by first | assumption | omega) (by first | assumption | omega) (hST.lo (by omega)) hST.2.1 (by first | assumption | omega) (tf_RR_to hRR8 (by omega))) (cwV 0 hts gv_X10_288 rfl rfl rfl hd_X10_readPart ⟨Nat.le_trans (by decide) hR1, Nat.le_trans (by decide) hR2⟩) (tf_preV hk hW ha0 (ci := 10) rfl rfl ⟨hs18_20, hs19_20, hs21_20, hs22_20, hs8_20, hs9_20, hs10_20, hs11_20, hs12_20, hs14_20, hs17_20, hs23_20, hs13_20, hs20_20, hs24_20, hcNOP_20, hcNAR_20, hcPIL_20, hcPAT_20, hs7_20, hcTPM_20, hs25_20, hcLWD_20⟩) rfl rfl hl.1 rfl (lv_room (Nat.le_of_ble_eq_true rfl)) dX10_readExpression_49 ⟨Nat.zero_le _, Nat.zero_le _⟩) hW (by decide) (fun zP HP locsP hW hFP hpP => ?_)
              have hs65 := tf_keepF hFP ha0 rfl rfl (by decide) hs18_20
              have hs66 := tf_keepF hFP ha0 rfl rfl (by decide) hs19_20
              have hs67 := tf_keepF hFP ha0 rfl rfl (by decide) hs21_20
              have hs68 := tf_keepF hFP ha0 rfl rfl (by decide) hs22_20
              have hs69 := tf_keepF hFP ha0 rfl rfl (by decide) hs8_20
              have hs70 := tf_keepF hFP ha0 rfl rfl (by decide) hs7_20
              have hs71 := tf_keepC hFP htm rfl (by decide) hcTPM_20
              have hs72 := tf_keepF hFP ha0 rfl rfl (by decide) hs25_20
              have hs73 := tf_keepC hFP hwd rfl (by decide) hcLWD_20
              obtain ⟨hpP_0, hpP_1, hpP_2⟩ := hpP
              obtain ⟨gb1_P, gf1_P, gt1_P, gs1_P, gw1_P, gc1_P, gp1_P, gx1_P, gl1_P, go1_P, rop1_P, rar1_P, rpi1_P, rpa1_P, hXP_0, hXP_1, hXP_2, hXP_3, hXP_4, hXP_5, hXP_6, hXP_7, hXP_8, hXP_9, hXP_10, hXP_11, hXP_12, hXP_13, hBP_0, hBP_1, hBP_2, hBP_3, hBP_4, hBP_5, hBP_6, hBP_7, hBP_8, hBP_9, hRP_0, hRP_1, hRP_2, hRP_3, hRP_4, hRP_5, hRP_6⟩ := hpP_2
              refine lv_goto (tgt := 72) hx hb dX10_readExpression_52 (by decide) ?_
              refine lv_istore_n (lv' := [(2, .int (Int32.ofInt zP)), (0, .ref a0), (1, .int (Int32.ofInt x1))]) hx hb dX10_readExpression_72 rfl hl (by decide) rfl (fun ls hl => ?_)
              have hmu := tf_mu_dec (f := f9_20) (b := f14_20) (z := x2_20) (f1 := gf1_P) (b1 := gb1_P) (z1 := zP) (by omega) (by omega) (by omega) (by omega) (by omega)
              refine lv_goto (tgt := 20) hx hb dX10_readExpression_73 (by decide) ?_
              exact ih_20 ⟨by omega, by omega⟩ (zP) ⟨by omega, by omega⟩ (gf1_P) ⟨by omega, by omega⟩ (gt1_P) ⟨by omega, by omega⟩ (gs1_P) ⟨by omega, by omega⟩ (gw1_P) ⟨by omega, by omega⟩ (gb1_P) ⟨by omega, by omega⟩ (gc1_P) ⟨by omega, by omega⟩ (gx1_P) ⟨by omega, by omega⟩ (gl1_P) ⟨by omega, by omega⟩ rop1_P (trivial) rar1_P (trivial) rpi1_P (trivial) rpa1_P (trivial) (gp1_P) ⟨by omega, by omega⟩ (go1_P) ⟨by omega, by omega⟩ (by first | assumption | omega) (by first | assumption | omega) (by first | assumption | exact fun j h1 h2 => by omega) (by first | assumption | exact Or.inr (tf_ST0 (tf_PI_0 (by omega)) (fun j h1 h2 => by omega)) | exact Or.inr (tf_ST1 (tf_PI_0 (by omega)) (fun i j h1 h2 h3 => by omega))) (by first | assumption | omega) (by first | assumption | omega) (by first | exact tf_LI_0 hq4 (by omega) (by omega) (by omega) | exact tf_LI_st hRe8 (by omega) (by decide) hRP_5) (by first | assumption | omega) (by omega) _ _ hW hs65 hs66 hs67 hs68 hs69 hXP_1 hXP_2 hXP_3 hXP_4 hXP_0 hXP_5 hXP_7 hXP_8 hXP_10 hXP_11 hXP_12 hXP_13 hs70 hs71 hs72 hs73 hXP_6 hXP_9 _ (lv_sub hl [1, 2, 0] rfl)
          · refine lv_aload_n hx hb dX10_readExpression_36 rfl (lv_at hl 0 rfl) ?_
            refine tf_calli (va_runV (As := []) (rest := []) ⟨hx, hb, hml, hown, hts⟩ (c_X10_readPlain l g T a0 ha0 (gc) (rop) (rar) (ss) (pp) (mm) (k8) (c8) (S8) (e9) (i9) qop hqop qar hqar qpi hqpi qpa hqpa tm htm wd hwd (gn) ⟨by omega, by omega⟩ (f9_20) ⟨by omega, by omega⟩ (f10_20) ⟨by omega, by omega⟩ (f11_20) ⟨by omega, by omega⟩ (f12_20) ⟨by omega, by omega⟩ (f14_20) ⟨by omega, by omega⟩ (f17_20) ⟨by omega, by omega⟩ (f23_20) ⟨by omega, by omega⟩ (f13_20) ⟨by omega, by omega⟩ (f20_20) ⟨by omega, by omega⟩ (f24_20) ⟨by omega, by omega⟩ rNOP_20 rNAR_20 rPIL_20 rPAT_20 tp gW (by first | assumption | omega) (by first | assumption | omega) (by first | assumption | omega) (hST.lo (by omega)) (hST.2.2.1 (by omega)) (by first | assumption | omega) (tf_RR_to hRR8 (by omega))) (cwV 0 hts gv_X10_305 rfl rfl rfl hd_X10_readPlain ⟨Nat.le_trans (by decide) hR1, Nat.le_trans (by decide) hR2⟩) (tf_preV hk hW ha0 (ci := 10) rfl rfl ⟨hs18_20, hs19_20, hs21_20, hs22_20, hs8_20, hs9_20, hs10_20, hs11_20, hs12_20, hs14_20, hs17_20, hs23_20, hs13_20, hs20_20, hs24_20, hcNOP_20, hcNAR_20, hcPIL_20, hcPAT_20, hs7_20, hcTPM_20, hs25_20, hcLWD_20⟩) rfl rfl hl.1 rfl (lv_room (Nat.le_of_ble_eq_true rfl)) dX10_readExpression_37 ⟨Nat.zero_le _, Nat.zero_le _⟩) hW (by decide) (fun zP HP locsP hW hFP hpP => ?_)
            have hs74 := tf_keepF hFP ha0 rfl rfl (by decide) hs18_20
            have hs75 := tf_keepF hFP ha0 rfl rfl (by decide) hs19_20
            have hs76 := tf_keepF hFP ha0 rfl rfl (by decide) hs21_20
            have hs77 := tf_keepF hFP ha0 rfl rfl (by decide) hs22_20
            have hs78 := tf_keepF hFP ha0 rfl rfl (by decide) hs8_20
            have hs79 := tf_keepF hFP ha0 rfl rfl (by decide) hs7_20
            have hs80 := tf_keepC hFP htm rfl (by decide) hcTPM_20
            have hs81 := tf_keepF hFP ha0 rfl rfl (by decide) hs25_20
            have hs82 := tf_keepC hFP hwd rfl (by decide) hcLWD_20
            obtain ⟨hpP_0, hpP_1, hpP_2⟩ := hpP
            obtain ⟨gb1_P, gf1_P, gt1_P, gs1_P, gw1_P, gc1_P, gp1_P, gx1_P, gl1_P, go1_P, rop1_P, rar1_P, rpi1_P, rpa1_P, hXP_0, hXP_1, hXP_2, hXP_3, hXP_4, hXP_5, hXP_6, hXP_7, hXP_8, hXP_9, hXP_10, hXP_11, hXP_12, hXP_13, hBP_0, hBP_1, hBP_2, hBP_3, hBP_4, hBP_5, hBP_6, hBP_7, hBP_8, hBP_9, hRP_0, hRP_1, hRP_2, hRP_3, hRP_4, hRP_5, hRP_6⟩ := hpP_2
            refine lv_goto (tgt := 72) hx hb dX10_readExpression_40 (by decide) ?_
            refine lv_istore_n (lv' := [(2, .int (Int32.ofInt zP)), (0, .ref a0), (1, .int (Int32.ofInt x1))]) hx hb dX10_readExpression_72 rfl hl (by decide) rfl (fun ls hl => ?_)
            have hmu := tf_mu_dec (f := f9_20) (b := f14_20) (z := x2_20) (f1 := gf1_P) (b1 := gb1_P) (z1 := zP) (by omega) (by omega) (by omega) (by omega) (by omega)
            refine lv_goto (tgt := 20) hx hb dX10_readExpression_73 (by decide) ?_
            exact ih_20 ⟨by omega, by omega⟩ (zP) ⟨by omega, by omega⟩ (gf1_P) ⟨by omega, by omega⟩ (gt1_P) ⟨by omega, by omega⟩ (gs1_P) ⟨by omega, by omega⟩ (gw1_P) ⟨by omega, by omega⟩ (gb1_P) ⟨by omega, by omega⟩ (gc1_P) ⟨by omega, by omega⟩ (gx1_P) ⟨by omega, by omega⟩ (gl1_P) ⟨by omega, by omega⟩ rop1_P (trivial) rar1_P (trivial) rpi1_P (trivial) rpa1_P (trivial) (gp1_P) ⟨by omega, by omega⟩ (go1_P) ⟨by omega, by omega⟩ (by first | assumption | omega) (by first | assumption | omega) (by first | assumption | exact fun j h1 h2 => by omega) (by first | assumption | exact Or.inr (tf_ST0 (tf_PI_0 (by omega)) (fun j h1 h2 => by omega)) | exact Or.inr (tf_ST1 (tf_PI_0 (by omega)) (fun i j h1 h2 h3 => by omega))) (by first | assumption | omega) (by first | assumption | omega) (by first | exact tf_LI_0 hq4 (by omega) (by omega) (by omega) | exact tf_LI_st hRe8 (by omega) (by decide) hRP_5) (by first | assumption | omega) (by omega) _ _ hW hs74 hs75 hs76 hs77 hs78 hXP_1 hXP_2 hXP_3 hXP_4 hXP_0 hXP_5 hXP_7 hXP_8 hXP_10 hXP_11 hXP_12 hXP_13 hs79 hs80 hs81 hs82 hXP_6 hXP_9 _ (lv_sub hl [1, 2, 0] rfl)
  refine tf_enter (As := [.ref a0, .int (Int32.ofInt x1)]) hargs (Nat.le_of_ble_eq_true rfl) (fun ls hl => ?_)
  have hl : lv_has ls 3 [(0, .ref a0), (1, .int (Int32.ofInt x1))] := hl
  refine lv_aload_n hx hb dX10_readExpression_0 rfl (lv_at hl 0 rfl) ?_
  refine tf_iconst hx hb dX10_readExpression_1 ?_
  refine tf_put hx hb hts inlX10 tyX10 tyX10_ok nmX10 hown hK (ci := 10) rfl hW ha0 rfl rfl 23 rfl (by decide) (by decide) (hts _ fl_X10_242) rfl (tf_u0 (by omega) (by omega)) rfl rfl dX10_readExpression_2 (fun H83 locs83 hW hs83 ht83 hq83 => ?_)
  have hs84 := (ht83 18 (by decide) (by decide)).trans he0
  have hs85 := (ht83 19 (by decide) (by decide)).trans he1
  have hs86 := (ht83 21 (by decide) (by decide)).trans he2
  have hs87 := (ht83 22 (by decide) (by decide)).trans he3
  have hs88 := (ht83 8 (by decide) (by decide)).trans he4
  have hs89 := (ht83 9 (by decide) (by decide)).trans he5
  have hs90 := (ht83 10 (by decide) (by decide)).trans he6
  have hs91 := (ht83 11 (by decide) (by decide)).trans he7
  have hs92 := (ht83 12 (by decide) (by decide)).trans he8
  have hs93 := (ht83 14 (by decide) (by decide)).trans he9
  have hs94 := (ht83 17 (by decide) (by decide)).trans he10
  have hs95 := (ht83 13 (by decide) (by decide)).trans he11
  have hs96 := (ht83 20 (by decide) (by decide)).trans he12
  have hs97 := tf_keepCQ he13 (hq83 _ (tf_ne hqop ha0 (by decide)))
  have hs98 := tf_keepCQ he14 (hq83 _ (tf_ne hqar ha0 (by decide)))
  have hs99 := tf_keepCQ he15 (hq83 _ (tf_ne hqpi ha0 (by decide)))
  have hs100 := tf_keepCQ he16 (hq83 _ (tf_ne hqpa ha0 (by decide)))
  have hs101 := (ht83 7 (by decide) (by decide)).trans he17
  have hs102 := tf_keepCQ he18 (hq83 _ (tf_ne htm ha0 (by decide)))
  have hs103 := (ht83 25 (by decide) (by decide)).trans he19
  have hs104 := tf_keepCQ he20 (hq83 _ (tf_ne hwd ha0 (by decide)))
  refine lv_aload_n hx hb dX10_readExpression_5 rfl (lv_at hl 0 rfl) ?_
  refine tf_iconst hx hb dX10_readExpression_6 ?_
  refine tf_put hx hb hts inlX10 tyX10 tyX10_ok nmX10 hown hK (ci := 10) rfl hW ha0 rfl rfl 24 rfl (by decide) (by decide) (hts _ fl_X10_262) rfl (tf_u0 (by omega) (by omega)) rfl rfl dX10_readExpression_7 (fun H105 locs105 hW hs105 ht105 hq105 => ?_)
  have hs106 := (ht105 18 (by decide) (by decide)).trans hs84
  have hs107 := (ht105 19 (by decide) (by decide)).trans hs85
  have hs108 := (ht105 21 (by decide) (by decide)).trans hs86
  have hs109 := (ht105 22 (by decide) (by decide)).trans hs87
  have hs110 := (ht105 8 (by decide) (by decide)).trans hs88
  have hs111 := (ht105 9 (by decide) (by decide)).trans hs89
  have hs112 := (ht105 10 (by decide) (by decide)).trans hs90
  have hs113 := (ht105 11 (by decide) (by decide)).trans hs91
  have hs114 := (ht105 12 (by decide) (by decide)).trans hs92
  have hs115 := (ht105 14 (by decide) (by decide)).trans hs93
  have hs116 := (ht105 17 (by decide) (by decide)).trans hs94
  have hs117 := (ht105 13 (by decide) (by decide)).trans hs95
  have hs118 := (ht105 20 (by decide) (by decide)).trans hs96
  have hs119 := tf_keepCQ hs97 (hq105 _ (tf_ne hqop ha0 (by decide)))
  have hs120 := tf_keepCQ hs98 (hq105 _ (tf_ne hqar ha0 (by decide)))
  have hs121 := tf_keepCQ hs99 (hq105 _ (tf_ne hqpi ha0 (by decide)))
  have hs122 := tf_keepCQ hs100 (hq105 _ (tf_ne hqpa ha0 (by decide)))
  have hs123 := (ht105 7 (by decide) (by decide)).trans hs101
  have hs124 := tf_keepCQ hs102 (hq105 _ (tf_ne htm ha0 (by decide)))
  have hs125 := (ht105 25 (by decide) (by decide)).trans hs103
  have hs126 := tf_keepCQ hs104 (hq105 _ (tf_ne hwd ha0 (by decide)))
  have hs127 := (ht105 23 (by decide) (by decide)).trans hs83
  refine lv_iload_n hx hb dX10_readExpression_10 rfl (lv_at hl 1 rfl) ?_
  refine tf_if_eq (tgt := 18) hx hb ⟨by omega, by omega⟩ dX10_readExpression_11 (by decide) (fun h128 => ?_) (fun h128 => ?_)
  · refine tf_iconst hx hb dX10_readExpression_18 ?_
    refine lv_istore_n (lv' := [(2, .int (Int32.ofInt 1)), (0, .ref a0), (1, .int (Int32.ofInt x1))]) hx hb dX10_readExpression_19 rfl hl (by decide) rfl (fun ls hl => ?_)
    exact j_20 (((tf_mu gf gb 1 : Int) + 1 : Int)).toNat ⟨by omega, by omega⟩ (1) ⟨by omega, by omega⟩ (gf) ⟨by omega, by omega⟩ (gt) ⟨by omega, by omega⟩ (gs) ⟨by omega, by omega⟩ (gw) ⟨by omega, by omega⟩ (gb) ⟨by omega, by omega⟩ (gc) ⟨by omega, by omega⟩ (gx) ⟨by omega, by omega⟩ (gl) ⟨by omega, by omega⟩ rop (trivial) rar (trivial) rpi (trivial) rpa (trivial) (0) ⟨by omega, by omega⟩ (0) ⟨by omega, by omega⟩ (by first | assumption | omega) (by first | assumption | omega) (by first | assumption | exact fun j h1 h2 => by omega) (by first | assumption | exact Or.inr (tf_ST0 (tf_PI_0 (by omega)) (fun j h1 h2 => by omega)) | exact Or.inr (tf_ST1 (tf_PI_0 (by omega)) (fun i j h1 h2 h3 => by omega))) (by first | assumption | omega) (by first | assumption | omega) (by first | exact tf_LI_0 hq4 (by omega) (by omega) (by omega) | exact tf_LI_st hRe8 (by omega) (by decide) hRP_5) (by first | assumption | omega) (by omega) _ _ hW hs106 hs107 hs108 hs109 hs110 hs111 hs112 hs113 hs114 hs115 hs116 hs117 hs118 hs119 hs120 hs121 hs122 hs123 hs124 hs125 hs126 hs127 hs105 _ (lv_sub hl [1, 2, 0] rfl)
  · refine tf_iconst hx hb dX10_readExpression_14 ?_
    refine lv_goto (tgt := 19) hx hb dX10_readExpression_15 (by decide) ?_
    refine lv_istore_n (lv' := [(2, .int (Int32.ofInt 0)), (0, .ref a0), (1, .int (Int32.ofInt x1))]) hx hb dX10_readExpression_19 rfl hl (by decide) rfl (fun ls hl => ?_)
    exact j_20 (((tf_mu gf gb 0 : Int) + 1 : Int)).toNat ⟨by omega, by omega⟩ (0) ⟨by omega, by omega⟩ (gf) ⟨by omega, by omega⟩ (gt) ⟨by omega, by omega⟩ (gs) ⟨by omega, by omega⟩ (gw) ⟨by omega, by omega⟩ (gb) ⟨by omega, by omega⟩ (gc) ⟨by omega, by omega⟩ (gx) ⟨by omega, by omega⟩ (gl) ⟨by omega, by omega⟩ rop (trivial) rar (trivial) rpi (trivial) rpa (trivial) (0) ⟨by omega, by omega⟩ (0) ⟨by omega, by omega⟩ (by first | assumption | omega) (by first | assumption | omega) (by first | assumption | exact fun j h1 h2 => by omega) (by first | assumption | exact Or.inr (tf_ST0 (tf_PI_0 (by omega)) (fun j h1 h2 => by omega)) | exact Or.inr (tf_ST1 (tf_PI_0 (by omega)) (fun i j h1 h2 h3 => by omega))) (by first | assumption | omega) (by first | assumption | omega) (by first | exact tf_LI_0 hq4 (by omega) (by omega) (by omega) | exact tf_LI_st hRe8 (by omega) (by decide) hRP_5) (by first | assumption | omega) (by omega) _ _ hW hs106 hs107 hs108 hs109 hs110 hs111 hs112 hs113 hs114 hs115 hs116 hs117 hs118 hs119 hs120 hs121 hs122 hs123 hs124 hs125 hs126 hs127 hs105 _ (lv_sub hl [1, 2, 0] rfl)

abbrev M_X10_readClause : List (Nat × Nat) := [(45, 0), (46, 0), (47, 0), (48, 0), (49, 0), (63, 9), (63, 10), (63, 11), (63, 12), (63, 13), (63, 14), (63, 15), (63, 17), (63, 20), (63, 23), (63, 24)]
set_option maxHeartbeats 4000000 in
set_option maxRecDepth 100000 in
theorem c_X10_readClause (l : Launch) (g : tf_G) (T : tf_T) (a0 : Nat) (ha0 : T a0 = some (63, 0)) (ss : Int → Int) (pp : Int → Int) (mm : Int) (k9 : Int) (qop : Nat) (hqop : T qop = some (46, 400)) (qar : Nat) (hqar : T qar = some (47, 400)) (qcl : Nat) (hqcl : T qcl = some (45, 96)) (tm : Nat) (htm : T tm = some (44, 400)) (wd : Nat) (hwd : T wd = some (50, 9)) (gn : Int) (hgn : 0 ≤ gn ∧ gn ≤ 400) (gf : Int) (hgf : 0 ≤ gf ∧ gf ≤ 400) (gt : Int) (hgt : 0 ≤ gt ∧ gt ≤ 400) (gs : Int) (hgs : 0 ≤ gs ∧ gs ≤ 3) (gw : Int) (hgw : (-9223372036854775808) ≤ gw ∧ gw ≤ 9223372036854775807) (gb : Int) (hgb : 0 ≤ gb ∧ gb ≤ 1) (gc : Int) (hgc : 0 ≤ gc ∧ gc ≤ 400) (gk : Int) (hgk : 0 ≤ gk ∧ gk ≤ 12) (gx : Int) (hgx : (-2147483648) ≤ gx ∧ gx ≤ 2147483647) (gl : Int) (hgl : 0 ≤ gl ∧ gl ≤ 50) (rop : Int → Int) (rar : Int → Int) (rcl : Int → Int) (tp : Int → Int) (gW : Int → Int) (hq0 : (gb = 0)) (hq1 : (gc ≤ gf)) (hq2 : (gf ≤ gt ∧ gt ≤ gn ∧ (gs = 0 → gf = gn) ∧ (gs ≠ 0 → gf < gt) ∧ (gs = 1 → 26 < gw → gf + 2 ≤ gt))) (hq3 : (tf_CL rcl rop rar gk gc)) (hq4 : (tf_CX tp gn ss pp mm gW)) (hq5 : (tf_LX tp gn ss pp mm k9 gf gt gs gw)) : Met l yX10_readClause (cd_X10_readClause :: wsL_law) ({ frames := 8, cells := 0, slots := 0, locals := 172 }) (tf_P g T [.ref a0] (fun H => tf_s H a0 (g.1.2 10 18) = some (.ref qop) ∧ tf_s H a0 (g.1.2 10 19) = some (.ref qar) ∧ tf_s H a0 (g.1.2 10 16) = some (.ref qcl) ∧ tf_s H a0 (g.1.2 10 8) = some (.int (Int32.ofInt gn)) ∧ tf_s H a0 (g.1.2 10 9) = some (.int (Int32.ofInt gf)) ∧ tf_s H a0 (g.1.2 10 10) = some (.int (Int32.ofInt gt)) ∧ tf_s H a0 (g.1.2 10 11) = some (.int (Int32.ofInt gs)) ∧ tf_s H a0 (g.1.2 10 12) = some (.long (Int64.ofInt gw)) ∧ tf_s H a0 (g.1.2 10 14) = some (.int (Int32.ofInt gb)) ∧ tf_s H a0 (g.1.2 10 17) = some (.int (Int32.ofInt gc)) ∧ tf_s H a0 (g.1.2 10 15) = some (.int (Int32.ofInt gk)) ∧ tf_s H a0 (g.1.2 10 13) = some (.int (Int32.ofInt gx)) ∧ tf_s H a0 (g.1.2 10 20) = some (.int (Int32.ofInt gl)) ∧ tf_rw H qop = rop ∧ tf_rw H qar = rar ∧ tf_rw H qcl = rcl ∧ tf_s H a0 (g.1.2 10 7) = some (.ref tm) ∧ tf_rw H tm = tp ∧ tf_s H a0 (g.1.2 10 25) = some (.ref wd) ∧ tf_rw H wd = gW)) (tf_Qv g M_X10_readClause T (fun _ H => (∃ (gb1 gf1 gt1 gs1 gw1 gc1 gk1 gx1 gl1 : Int) (rop1 rar1 rcl1 : Int → Int) , tf_s H a0 (g.1.2 10 14) = some (.int (Int32.ofInt gb1)) ∧ tf_s H a0 (g.1.2 10 9) = some (.int (Int32.ofInt gf1)) ∧ tf_s H a0 (g.1.2 10 10) = some (.int (Int32.ofInt gt1)) ∧ tf_s H a0 (g.1.2 10 11) = some (.int (Int32.ofInt gs1)) ∧ tf_s H a0 (g.1.2 10 12) = some (.long (Int64.ofInt gw1)) ∧ tf_s H a0 (g.1.2 10 17) = some (.int (Int32.ofInt gc1)) ∧ tf_s H a0 (g.1.2 10 15) = some (.int (Int32.ofInt gk1)) ∧ tf_s H a0 (g.1.2 10 13) = some (.int (Int32.ofInt gx1)) ∧ tf_s H a0 (g.1.2 10 20) = some (.int (Int32.ofInt gl1)) ∧ tf_rw H qop = rop1 ∧ tf_rw H qar = rar1 ∧ tf_rw H qcl = rcl1 ∧ (0 ≤ gb1 ∧ gb1 ≤ 1) ∧ (0 ≤ gf1 ∧ gf1 ≤ 400) ∧ (0 ≤ gt1 ∧ gt1 ≤ 400) ∧ (0 ≤ gs1 ∧ gs1 ≤ 3) ∧ ((-9223372036854775808) ≤ gw1 ∧ gw1 ≤ 9223372036854775807) ∧ (0 ≤ gc1 ∧ gc1 ≤ 400) ∧ (0 ≤ gk1 ∧ gk1 ≤ 12) ∧ ((-2147483648) ≤ gx1 ∧ gx1 ≤ 2147483647) ∧ (0 ≤ gl1 ∧ gl1 ≤ 50) ∧ (gf1 ≤ gt1 ∧ gt1 ≤ gn ∧ (gs1 = 0 → gf1 = gn) ∧ (gs1 ≠ 0 → gf1 < gt1) ∧ (gs1 = 1 → 26 < gw1 → gf1 + 2 ≤ gt1)) ∧ (gc1 ≤ gf1) ∧ (gf ≤ gf1) ∧ (gb1 = 1 ∨ tf_CL rcl1 rop1 rar1 gk1 gc1) ∧ (tf_CE tp gn ss pp mm (k9, 5, 0, [], gl, 0, gk) gb1 gx1 gf1 gt1 gs1 gw1 gl1 gk1) ∧ (gb1 = 1 ∨ gx1 = gx)))) 0 0 (fun q => tf_B g ≤ q) := by
  refine Met.ofW (cc := cX10_readClause) (maxL := 3) (ret := none) (by decide) rfl ?_
  intro p e s m args below meth c s₁ B hml hv
  obtain ⟨hargs, hk, hW0, hB, hpre⟩ := hv
  obtain ⟨he0, he1, he2, he3, he4, he5, he6, he7, he8, he9, he10, he11, he12, he13, he14, he15, he16, he17, he18, he19⟩ := hpre
  have hx := B.exec
  have hb := B.bytes
  have hr := B.returns
  have hts : ∀ w ∈ wsL_law, w.before args s = true := fun w h => atoms_spec (ws := cd_X10_readClause :: wsL_law) B.pre w (List.mem_cons_of_mem _ h)
  have hown : s.vm.findClass RX10 = some m.cls := findClass_of_methodNamed B.named
  have hlocks := B.notSynchronized
  have hK := hk.1
  have hW := tf_n.start (M := M_X10_readClause) hW0 hB
  obtain ⟨Q, hQ⟩ : ∃ q, q = MQ below (tf_Qv g M_X10_readClause T (fun _ H => (∃ (gb1 gf1 gt1 gs1 gw1 gc1 gk1 gx1 gl1 : Int) (rop1 rar1 rcl1 : Int → Int) , tf_s H a0 (g.1.2 10 14) = some (.int (Int32.ofInt gb1)) ∧ tf_s H a0 (g.1.2 10 9) = some (.int (Int32.ofInt gf1)) ∧ tf_s H a0 (g.1.2 10 10) = some (.int (Int32.ofInt gt1)) ∧ tf_s H a0 (g.1.2 10 11) = some (.int (Int32.ofInt gs1)) ∧ tf_s H a0 (g.1.2 10 12) = some (.long (Int64.ofInt gw1)) ∧ tf_s H a0 (g.1.2 10 17) = some (.int (Int32.ofInt gc1)) ∧ tf_s H a0 (g.1.2 10 15) = some (.int (Int32.ofInt gk1)) ∧ tf_s H a0 (g.1.2 10 13) = some (.int (Int32.ofInt gx1)) ∧ tf_s H a0 (g.1.2 10 20) = some (.int (Int32.ofInt gl1)) ∧ tf_rw H qop = rop1 ∧ tf_rw H qar = rar1 ∧ tf_rw H qcl = rcl1 ∧ (0 ≤ gb1 ∧ gb1 ≤ 1) ∧ (0 ≤ gf1 ∧ gf1 ≤ 400) ∧ (0 ≤ gt1 ∧ gt1 ≤ 400) ∧ (0 ≤ gs1 ∧ gs1 ≤ 3) ∧ ((-9223372036854775808) ≤ gw1 ∧ gw1 ≤ 9223372036854775807) ∧ (0 ≤ gc1 ∧ gc1 ≤ 400) ∧ (0 ≤ gk1 ∧ gk1 ≤ 12) ∧ ((-2147483648) ≤ gx1 ∧ gx1 ≤ 2147483647) ∧ (0 ≤ gl1 ∧ gl1 ≤ 50) ∧ (gf1 ≤ gt1 ∧ gt1 ≤ gn ∧ (gs1 = 0 → gf1 = gn) ∧ (gs1 ≠ 0 → gf1 < gt1) ∧ (gs1 = 1 → 26 < gw1 → gf1 + 2 ≤ gt1)) ∧ (gc1 ≤ gf1) ∧ (gf ≤ gf1) ∧ (gb1 = 1 ∨ tf_CL rcl1 rop1 rar1 gk1 gc1) ∧ (tf_CE tp gn ss pp mm (k9, 5, 0, [], gl, 0, gk) gb1 gx1 gf1 gt1 gs1 gw1 gl1 gk1) ∧ (gb1 = 1 ∨ gx1 = gx)))) args s 0 0 (fun q => tf_B g ≤ q) := ⟨_, rfl⟩
  rw [← hQ]
  obtain ⟨R, hR⟩ : ∃ q, q = (headSpec (cd_X10_readClause :: wsL_law) ({ frames := 8, cells := 0, slots := 0, locals := 172 })).room := ⟨_, rfl⟩
  rw [← hR]
  have hR1 : 8 ≤ R.frames := by rw [hR]; exact Nat.le_refl _
  have hR2 : 172 ≤ R.locals := by rw [hR]; exact Nat.le_refl _
  have hR3 : 0 ≤ R.cells := by rw [hR]; exact Nat.le_refl _
  have hR4 : 0 ≤ R.slots := by rw [hR]; exact Nat.le_refl _
  have hin := (name_of_methodNamed B.named B.method).1
  clear hR B
  have hCL0 := hq3
  have j_46 : ∀ (n_46 : Nat), ∀ (x1_46 : Int), 0 ≤ x1_46 ∧ x1_46 ≤ 88 → ∀ (x2_46 : Int), 0 ≤ x2_46 ∧ x2_46 ≤ 8 → ∀ (rNCL_46 : Int → Int), (∀ j, j < 8 * gk → rNCL_46 j = rcl j) → ∀ (f14_46 : Int), 0 ≤ f14_46 ∧ f14_46 ≤ 0 → ∀ (f9_46 : Int), 0 ≤ f9_46 ∧ f9_46 ≤ 400 → ∀ (f10_46 : Int), 0 ≤ f10_46 ∧ f10_46 ≤ 400 → ∀ (f11_46 : Int), 0 ≤ f11_46 ∧ f11_46 ≤ 3 → ∀ (f12_46 : Int), (-9223372036854775808) ≤ f12_46 ∧ f12_46 ≤ 9223372036854775807 → ∀ (f13_46 : Int), (-2147483648) ≤ f13_46 ∧ f13_46 ≤ 2147483647 → (f9_46 ≤ f10_46 ∧ f10_46 ≤ gn ∧ (f11_46 = 0 → f9_46 = gn) ∧ (f11_46 ≠ 0 → f9_46 < f10_46) ∧ (f11_46 = 1 → 26 < f12_46 → f9_46 + 2 ≤ f10_46)) → (gc ≤ f9_46) → (f14_46 = 0) → (gf ≤ f9_46) → (x1_46 = 8 * gk) → (gk < 12) → (f13_46 = gx) → (gs = 1 ∧ gw = 18523243) → (tf_NX tp gn gt f9_46 f10_46 f11_46 f12_46) → (8 - x2_46 + 1 ≤ (n_46 : Int)) → ∀ (H : Heap) (locs : List Loc), tf_n tf_kt g M_X10_readClause T s.heap T H locs → tf_s H a0 (g.1.2 10 18) = some (.ref qop) → tf_s H a0 (g.1.2 10 19) = some (.ref qar) → tf_s H a0 (g.1.2 10 16) = some (.ref qcl) → tf_s H a0 (g.1.2 10 8) = some (.int (Int32.ofInt gn)) → tf_s H a0 (g.1.2 10 17) = some (.int (Int32.ofInt gc)) → tf_s H a0 (g.1.2 10 15) = some (.int (Int32.ofInt gk)) → tf_s H a0 (g.1.2 10 20) = some (.int (Int32.ofInt gl)) → tf_rw H qop = rop → tf_rw H qar = rar → tf_rw H qcl = rNCL_46 → tf_s H a0 (g.1.2 10 7) = some (.ref tm) → tf_rw H tm = tp → tf_s H a0 (g.1.2 10 25) = some (.ref wd) → tf_rw H wd = gW → tf_s H a0 (g.1.2 10 14) = some (.int (Int32.ofInt f14_46)) → tf_s H a0 (g.1.2 10 9) = some (.int (Int32.ofInt f9_46)) → tf_s H a0 (g.1.2 10 10) = some (.int (Int32.ofInt f10_46)) → tf_s H a0 (g.1.2 10 11) = some (.int (Int32.ofInt f11_46)) → tf_s H a0 (g.1.2 10 12) = some (.long (Int64.ofInt f12_46)) → tf_s H a0 (g.1.2 10 13) = some (.int (Int32.ofInt f13_46)) → ∀ (ls : Array Slot), lv_has ls 3 [(0, .ref a0), (1, .int (Int32.ofInt x1_46)), (2, .int (Int32.ofInt x2_46))] → W p l e R s m args below meth c H locs 0 0 Q (F0 m 46 ls []) := by
    intro n_46
    induction n_46 with
    | zero =>
      intro x1_46 hx1_46 x2_46 hx2_46 rNCL_46 hRNCL_46 f14_46 hf14_46 f9_46 hf9_46 f10_46 hf10_46 f11_46 hf11_46 f12_46 hf12_46 f13_46 hf13_46 hi0_46 hi1_46 hi2_46 hi3_46 hi4_46 hi5_46 hi6_46 hi7_46 hi8_46 hm_46
      exfalso; omega
    | succ n_46 ih_46 =>
      intro x1_46 hx1_46 x2_46 hx2_46 rNCL_46 hRNCL_46 f14_46 hf14_46 f9_46 hf9_46 f10_46 hf10_46 f11_46 hf11_46 f12_46 hf12_46 f13_46 hf13_46 hi0_46 hi1_46 hi2_46 hi3_46 hi4_46 hi5_46 hi6_46 hi7_46 hi8_46 hm_46 H locs hW hs18_46 hs19_46 hs16_46 hs8_46 hs17_46 hs15_46 hs20_46 hcNOP_46 hcNAR_46 hcNCL_46 hs7_46 hcTPM_46 hs25_46 hcLWD_46 hs14_46 hs9_46 hs10_46 hs11_46 hs12_46 hs13_46 ls hl
      refine lv_iload_n hx hb dX10_readClause_46 rfl (lv_at hl 2 rfl) ?_
      refine tf_bipush hx hb dX10_readClause_47 (by decide) ?_
      refine tf_icmp_ge (tgt := 67) hx hb ⟨by omega, by omega⟩ ⟨by decide, by decide⟩ dX10_readClause_49 (by decide) (fun h1 => ?_) (fun h1 => ?_)
      · refine lv_aload_n hx hb dX10_readClause_67 rfl (lv_at hl 0 rfl) ?_
        refine lv_dup hx hb dX10_readClause_68 rfl ?_
        refine tf_get hx hb hts inlX10 hown hK (ci := 10) rfl hW ha0 rfl 15 rfl (by decide) (hts _ fl_X10_317) dX10_readClause_69 (fun v2 hv2 hsv2 => ?_)
        obtain rfl : v2 = .int (Int32.ofInt gk) := Option.some.inj (hsv2.symm.trans hs15_46)
        refine tf_iconst hx hb dX10_readClause_72 ?_
        refine tf_iadd hx hb dX10_readClause_73 ?_
        refine tf_put hx hb hts inlX10 tyX10 tyX10_ok nmX10 hown hK (ci := 10) rfl hW ha0 rfl rfl 15 rfl (by decide) (by decide) (hts _ fl_X10_317) rfl (tf_u0 (by omega) (by omega)) rfl rfl dX10_readClause_74 (fun H3 locs3 hW hs3 ht3 hq3 => ?_)
        have hs4 := (ht3 18 (by decide) (by decide)).trans hs18_46
        have hs5 := (ht3 19 (by decide) (by decide)).trans hs19_46
        have hs6 := (ht3 16 (by decide) (by decide)).trans hs16_46
        have hs7 := (ht3 8 (by decide) (by decide)).trans hs8_46
        have hs8 := (ht3 17 (by decide) (by decide)).trans hs17_46
        have hs9 := (ht3 20 (by decide) (by decide)).trans hs20_46
        have hs10 := tf_keepCQ hcNOP_46 (hq3 _ (tf_ne hqop ha0 (by decide)))
        have hs11 := tf_keepCQ hcNAR_46 (hq3 _ (tf_ne hqar ha0 (by decide)))
        have hs12 := tf_keepCQ hcNCL_46 (hq3 _ (tf_ne hqcl ha0 (by decide)))
        have hs13 := (ht3 7 (by decide) (by decide)).trans hs7_46
        have hs14 := tf_keepCQ hcTPM_46 (hq3 _ (tf_ne htm ha0 (by decide)))
        have hs15 := (ht3 25 (by decide) (by decide)).trans hs25_46
        have hs16 := tf_keepCQ hcLWD_46 (hq3 _ (tf_ne hwd ha0 (by decide)))
        have hs17 := (ht3 14 (by decide) (by decide)).trans hs14_46
        have hs18 := (ht3 9 (by decide) (by decide)).trans hs9_46
        have hs19 := (ht3 10 (by decide) (by decide)).trans hs10_46
        have hs20 := (ht3 11 (by decide) (by decide)).trans hs11_46
        have hs21 := (ht3 12 (by decide) (by decide)).trans hs12_46
        have hs22 := (ht3 13 (by decide) (by decide)).trans hs13_46
        have hL1 : x1_46 = 8 * gk := by omega
        refine lv_aload_n hx hb dX10_readClause_77 rfl (lv_at hl 0 rfl) ?_
        refine tf_get hx hb hts inlX10 hown hK (ci := 10) rfl hW ha0 rfl 16 rfl (by decide) (hts _ fl_X10_30) dX10_readClause_78 (fun v23 hv23 hsv23 => ?_)
        obtain rfl : v23 = .ref qcl := Option.some.inj (hsv23.symm.trans hs6)
        refine lv_iload_n hx hb dX10_readClause_81 rfl (lv_at hl 1 rfl) ?_
        refine tf_iconst hx hb dX10_readClause_82 ?_
        refine tf_iadd hx hb dX10_readClause_83 ?_
        refine lv_aload_n hx hb dX10_readClause_84 rfl (lv_at hl 0 rfl) ?_
        refine tf_get hx hb hts inlX10 hown hK (ci := 10) rfl hW ha0 rfl 17 rfl (by decide) (hts _ fl_X10_239) dX10_readClause_85 (fun v24 hv24 hsv24 => ?_)
        obtain rfl : v24 = .int (Int32.ofInt gc) := Option.some.inj (hsv24.symm.trans hs8)
        refine tf_rwst (t0 := 0) hx hb hK hW hqcl rfl rfl (by omega) (by omega) (by decide) (tf_u0 (by omega) (by omega)) ⟨by omega, by omega⟩ trivial dX10_readClause_88 (fun H25 locs25 hW hu25 hq25 => ?_)
        have hs26 := tf_keepQ hs4 (hq25 _ (tf_ne ha0 hqcl (by decide)))
        have hs27 := tf_keepQ hs5 (hq25 _ (tf_ne ha0 hqcl (by decide)))
        have hs28 := tf_keepQ hs6 (hq25 _ (tf_ne ha0 hqcl (by decide)))
        have hs29 := tf_keepQ hs7 (hq25 _ (tf_ne ha0 hqcl (by decide)))
        have hs30 := tf_keepQ hs8 (hq25 _ (tf_ne ha0 hqcl (by decide)))
        have hs31 := tf_keepQ hs9 (hq25 _ (tf_ne ha0 hqcl (by decide)))
        have hs32 := tf_keepCQ hs10 (hq25 _ (tf_ne hqop hqcl (by decide)))
        have hs33 := tf_keepCQ hs11 (hq25 _ (tf_ne hqar hqcl (by decide)))
        have hs34 := tf_keepQ hs13 (hq25 _ (tf_ne ha0 hqcl (by decide)))
        have hs35 := tf_keepCQ hs14 (hq25 _ (tf_ne htm hqcl (by decide)))
        have hs36 := tf_keepQ hs15 (hq25 _ (tf_ne ha0 hqcl (by decide)))
        have hs37 := tf_keepCQ hs16 (hq25 _ (tf_ne hwd hqcl (by decide)))
        have hs38 := tf_keepQ hs17 (hq25 _ (tf_ne ha0 hqcl (by decide)))
        have hs39 := tf_keepQ hs18 (hq25 _ (tf_ne ha0 hqcl (by decide)))
        have hs40 := tf_keepQ hs19 (hq25 _ (tf_ne ha0 hqcl (by decide)))
        have hs41 := tf_keepQ hs20 (hq25 _ (tf_ne ha0 hqcl (by decide)))
        have hs42 := tf_keepQ hs21 (hq25 _ (tf_ne ha0 hqcl (by decide)))
        have hs43 := tf_keepQ hs22 (hq25 _ (tf_ne ha0 hqcl (by decide)))
        have hs44 := tf_keepQ hs3 (hq25 _ (tf_ne ha0 hqcl (by decide)))
        have hu25 := hu25.trans (congrArg (fun w => tf_up w ((x1_46 + 3)) (gc)) hs12)
        refine lv_aload_n hx hb dX10_readClause_89 rfl (lv_at hl 0 rfl) ?_
        refine tf_iconst hx hb dX10_readClause_90 ?_
        have hL1x := tf_LX_next hq4.1 hq4.2.1 hq5 hi8_46
        obtain ⟨pv45, hpv45, hok45⟩ := tf_peek hW ha0 (ci := 10) rfl 21 rfl
        obtain ⟨ad46, rfl, had46⟩ := tf_v1 hok45
        obtain ⟨pv47, hpv47, hok47⟩ := tf_peek hW ha0 (ci := 10) rfl 22 rfl
        obtain ⟨ad48, rfl, had48⟩ := tf_v1 hok47
        obtain ⟨r49, hr49⟩ := tf_rname hW ad46
        obtain ⟨r50, hr50⟩ := tf_rname hW ad48
        refine tf_callv (va_runV (As := [.int (Int32.ofInt 0)]) (rest := []) ⟨hx, hb, hml, hown, hts⟩ (c_X10_readExpression l g T a0 ha0 (0) ⟨by omega, by omega⟩ (ss) (pp) (mm) (tf_nx mm k9) (1) (0) ((gk + 1)) qop hqop qar hqar ad46 had46 ad48 had48 tm htm wd hwd (gn) ⟨by omega, by omega⟩ (f9_46) ⟨by omega, by omega⟩ (f10_46) ⟨by omega, by omega⟩ (f11_46) ⟨by omega, by omega⟩ (f12_46) ⟨by omega, by omega⟩ (f14_46) ⟨by omega, by omega⟩ (gc) ⟨by omega, by omega⟩ (f13_46) ⟨by omega, by omega⟩ (gl) ⟨by omega, by omega⟩ rop rar r49 r50 tp gW (by first | assumption | omega) (by first | assumption | omega) (by first | assumption | omega) (by first | assumption | omega) hL1x (by first | assumption | omega) (by first | assumption | omega)) (cwV 1 hts gv_X10_320 rfl rfl rfl hd_X10_readExpression ⟨Nat.le_trans (by decide) hR1, Nat.le_trans (by decide) hR2⟩) (tf_preV hk hW ha0 (ci := 10) rfl rfl ⟨hs26, hs27, hpv45, hpv47, hs29, hs39, hs40, hs41, hs42, hs38, hs30, hs43, hs31, hs32, hs33, hr49, hr50, hs34, hs35, hs36, hs37⟩) rfl rfl hl.1 rfl (lv_room (Nat.le_of_ble_eq_true rfl)) dX10_readClause_91 ⟨Nat.zero_le _, Nat.zero_le _⟩) hW (by decide) (fun HX locsX hW hFX hpX => ?_)
        have hs51 := tf_keepF hFX ha0 rfl rfl (by decide) hs26
        have hs52 := tf_keepF hFX ha0 rfl rfl (by decide) hs27
        have hs53 := tf_keepF hFX ha0 rfl rfl (by decide) hs28
        have hs54 := tf_keepF hFX ha0 rfl rfl (by decide) hs29
        have hs55 := tf_keepF hFX ha0 rfl rfl (by decide) hs34
        have hs56 := tf_keepC hFX htm rfl (by decide) hs35
        have hs57 := tf_keepF hFX ha0 rfl rfl (by decide) hs36
        have hs58 := tf_keepC hFX hwd rfl (by decide) hs37
        have hs59 := tf_keepF hFX ha0 rfl rfl (by decide) hs44
        have hs60 := tf_keepC hFX hqcl rfl (by decide) hu25
        have hs61 := tf_keepF hFX ha0 rfl rfl (by decide) hpv45
        have hs62 := tf_keepF hFX ha0 rfl rfl (by decide) hpv47
        obtain ⟨gb1_X, gf1_X, gt1_X, gs1_X, gw1_X, gc1_X, gx1_X, gl1_X, rop1_X, rar1_X, hXX_0, hXX_1, hXX_2, hXX_3, hXX_4, hXX_5, hXX_6, hXX_7, hXX_8, hXX_9, hBX_0, hBX_1, hBX_2, hBX_3, hBX_4, hBX_5, hBX_6, hBX_7, hRX_0, hRX_1, hRX_2, hRX_3, hRX_4, hRX_5⟩ := hpX
        refine lv_aload_n hx hb dX10_readClause_94 rfl (lv_at hl 0 rfl) ?_
        refine tf_get hx hb hts inlX10 hown hK (ci := 10) rfl hW ha0 rfl 16 rfl (by decide) (hts _ fl_X10_30) dX10_readClause_95 (fun v63 hv63 hsv63 => ?_)
        obtain rfl : v63 = .ref qcl := Option.some.inj (hsv63.symm.trans hs53)
        refine lv_iload_n hx hb dX10_readClause_98 rfl (lv_at hl 1 rfl) ?_
        refine tf_iconst hx hb dX10_readClause_99 ?_
        refine tf_iadd hx hb dX10_readClause_100 ?_
        refine lv_aload_n hx hb dX10_readClause_101 rfl (lv_at hl 0 rfl) ?_
        refine tf_get hx hb hts inlX10 hown hK (ci := 10) rfl hW ha0 rfl 17 rfl (by decide) (hts _ fl_X10_239) dX10_readClause_102 (fun v64 hv64 hsv64 => ?_)
        obtain rfl : v64 = .int (Int32.ofInt gc1_X) := Option.some.inj (hsv64.symm.trans hXX_5)
        refine tf_rwst (t0 := 0) hx hb hK hW hqcl rfl rfl (by omega) (by omega) (by decide) (tf_u0 (by omega) (by omega)) ⟨by omega, by omega⟩ trivial dX10_readClause_105 (fun H65 locs65 hW hu65 hq65 => ?_)
        have hs66 := tf_keepQ hs51 (hq65 _ (tf_ne ha0 hqcl (by decide)))
        have hs67 := tf_keepQ hs52 (hq65 _ (tf_ne ha0 hqcl (by decide)))
        have hs68 := tf_keepQ hs53 (hq65 _ (tf_ne ha0 hqcl (by decide)))
        have hs69 := tf_keepQ hs54 (hq65 _ (tf_ne ha0 hqcl (by decide)))
        have hs70 := tf_keepQ hs55 (hq65 _ (tf_ne ha0 hqcl (by decide)))
        have hs71 := tf_keepCQ hs56 (hq65 _ (tf_ne htm hqcl (by decide)))
        have hs72 := tf_keepQ hs57 (hq65 _ (tf_ne ha0 hqcl (by decide)))
        have hs73 := tf_keepCQ hs58 (hq65 _ (tf_ne hwd hqcl (by decide)))
        have hs74 := tf_keepQ hs59 (hq65 _ (tf_ne ha0 hqcl (by decide)))
        have hs75 := tf_keepQ hs61 (hq65 _ (tf_ne ha0 hqcl (by decide)))
        have hs76 := tf_keepQ hs62 (hq65 _ (tf_ne ha0 hqcl (by decide)))
        have hs77 := tf_keepQ hXX_0 (hq65 _ (tf_ne ha0 hqcl (by decide)))
        have hs78 := tf_keepQ hXX_1 (hq65 _ (tf_ne ha0 hqcl (by decide)))
        have hs79 := tf_keepQ hXX_2 (hq65 _ (tf_ne ha0 hqcl (by decide)))
        have hs80 := tf_keepQ hXX_3 (hq65 _ (tf_ne ha0 hqcl (by decide)))
        have hs81 := tf_keepQ hXX_4 (hq65 _ (tf_ne ha0 hqcl (by decide)))
        have hs82 := tf_keepQ hXX_5 (hq65 _ (tf_ne ha0 hqcl (by decide)))
        have hs83 := tf_keepQ hXX_6 (hq65 _ (tf_ne ha0 hqcl (by decide)))
        have hs84 := tf_keepQ hXX_7 (hq65 _ (tf_ne ha0 hqcl (by decide)))
        have hs85 := tf_keepCQ hXX_8 (hq65 _ (tf_ne hqop hqcl (by decide)))
        have hs86 := tf_keepCQ hXX_9 (hq65 _ (tf_ne hqar hqcl (by decide)))
        have hu65 := hu65.trans (congrArg (fun w => tf_up w ((x1_46 + 4)) (gc1_X)) hs60)
        refine lv_aload_n hx hb dX10_readClause_106 rfl (lv_at hl 0 rfl) ?_
        refine tf_get hx hb hts inlX10 hown hK (ci := 10) rfl hW ha0 rfl 16 rfl (by decide) (hts _ fl_X10_30) dX10_readClause_107 (fun v87 hv87 hsv87 => ?_)
        obtain rfl : v87 = .ref qcl := Option.some.inj (hsv87.symm.trans hs68)
        refine lv_iload_n hx hb dX10_readClause_110 rfl (lv_at hl 1 rfl) ?_
        refine tf_iconst hx hb dX10_readClause_111 ?_
        refine tf_iadd hx hb dX10_readClause_112 ?_
        refine lv_aload_n hx hb dX10_readClause_113 rfl (lv_at hl 0 rfl) ?_
        refine tf_get hx hb hts inlX10 hown hK (ci := 10) rfl hW ha0 rfl 17 rfl (by decide) (hts _ fl_X10_239) dX10_readClause_114 (fun v88 hv88 hsv88 => ?_)
        obtain rfl : v88 = .int (Int32.ofInt gc1_X) := Option.some.inj (hsv88.symm.trans hs82)
        refine tf_rwst (t0 := 0) hx hb hK hW hqcl rfl rfl (by omega) (by omega) (by decide) (tf_u0 (by omega) (by omega)) ⟨by omega, by omega⟩ trivial dX10_readClause_117 (fun H89 locs89 hW hu89 hq89 => ?_)
        have hs90 := tf_keepQ hs66 (hq89 _ (tf_ne ha0 hqcl (by decide)))
        have hs91 := tf_keepQ hs67 (hq89 _ (tf_ne ha0 hqcl (by decide)))
        have hs92 := tf_keepQ hs68 (hq89 _ (tf_ne ha0 hqcl (by decide)))
        have hs93 := tf_keepQ hs69 (hq89 _ (tf_ne ha0 hqcl (by decide)))
        have hs94 := tf_keepQ hs70 (hq89 _ (tf_ne ha0 hqcl (by decide)))
        have hs95 := tf_keepCQ hs71 (hq89 _ (tf_ne htm hqcl (by decide)))
        have hs96 := tf_keepQ hs72 (hq89 _ (tf_ne ha0 hqcl (by decide)))
        have hs97 := tf_keepCQ hs73 (hq89 _ (tf_ne hwd hqcl (by decide)))
        have hs98 := tf_keepQ hs74 (hq89 _ (tf_ne ha0 hqcl (by decide)))
        have hs99 := tf_keepQ hs75 (hq89 _ (tf_ne ha0 hqcl (by decide)))
        have hs100 := tf_keepQ hs76 (hq89 _ (tf_ne ha0 hqcl (by decide)))
        have hs101 := tf_keepQ hs77 (hq89 _ (tf_ne ha0 hqcl (by decide)))
        have hs102 := tf_keepQ hs78 (hq89 _ (tf_ne ha0 hqcl (by decide)))
        have hs103 := tf_keepQ hs79 (hq89 _ (tf_ne ha0 hqcl (by decide)))
        have hs104 := tf_keepQ hs80 (hq89 _ (tf_ne ha0 hqcl (by decide)))
        have hs105 := tf_keepQ hs81 (hq89 _ (tf_ne ha0 hqcl (by decide)))
        have hs106 := tf_keepQ hs82 (hq89 _ (tf_ne ha0 hqcl (by decide)))
        have hs107 := tf_keepQ hs83 (hq89 _ (tf_ne ha0 hqcl (by decide)))
        have hs108 := tf_keepQ hs84 (hq89 _ (tf_ne ha0 hqcl (by decide)))
        have hs109 := tf_keepCQ hs85 (hq89 _ (tf_ne hqop hqcl (by decide)))
        have hs110 := tf_keepCQ hs86 (hq89 _ (tf_ne hqar hqcl (by decide)))
        have hu89 := hu89.trans (congrArg (fun w => tf_up w ((x1_46 + 5)) (gc1_X)) hu65)
        refine lv_aload_n hx hb dX10_readClause_118 rfl (lv_at hl 0 rfl) ?_
        refine tf_get hx hb hts inlX10 hown hK (ci := 10) rfl hW ha0 rfl 14 rfl (by decide) (hts _ fl_X10_200) dX10_readClause_119 (fun v111 hv111 hsv111 => ?_)
        obtain rfl : v111 = .int (Int32.ofInt gb1_X) := Option.some.inj (hsv111.symm.trans hs101)
        refine tf_if_ne (tgt := 144) hx hb ⟨by omega, by omega⟩ dX10_readClause_122 (by decide) (fun h112 => ?_) (fun h112 => ?_)
        · refine lv_aload_n hx hb dX10_readClause_144 rfl (lv_at hl 0 rfl) ?_
          refine tf_get hx hb hts inlX10 hown hK (ci := 10) rfl hW ha0 rfl 16 rfl (by decide) (hts _ fl_X10_30) dX10_readClause_145 (fun v113 hv113 hsv113 => ?_)
          obtain rfl : v113 = .ref qcl := Option.some.inj (hsv113.symm.trans hs92)
          refine lv_iload_n hx hb dX10_readClause_148 rfl (lv_at hl 1 rfl) ?_
          refine tf_bipush hx hb dX10_readClause_149 (by decide) ?_
          refine tf_iadd hx hb dX10_readClause_151 ?_
          refine lv_aload_n hx hb dX10_readClause_152 rfl (lv_at hl 0 rfl) ?_
          refine tf_get hx hb hts inlX10 hown hK (ci := 10) rfl hW ha0 rfl 17 rfl (by decide) (hts _ fl_X10_239) dX10_readClause_153 (fun v114 hv114 hsv114 => ?_)
          obtain rfl : v114 = .int (Int32.ofInt gc1_X) := Option.some.inj (hsv114.symm.trans hs106)
          refine tf_rwst (t0 := 0) hx hb hK hW hqcl rfl rfl (by omega) (by omega) (by decide) (tf_u0 (by omega) (by omega)) ⟨by omega, by omega⟩ trivial dX10_readClause_156 (fun H115 locs115 hW hu115 hq115 => ?_)
          have hs116 := tf_keepQ hs90 (hq115 _ (tf_ne ha0 hqcl (by decide)))
          have hs117 := tf_keepQ hs91 (hq115 _ (tf_ne ha0 hqcl (by decide)))
          have hs118 := tf_keepQ hs92 (hq115 _ (tf_ne ha0 hqcl (by decide)))
          have hs119 := tf_keepQ hs93 (hq115 _ (tf_ne ha0 hqcl (by decide)))
          have hs120 := tf_keepQ hs94 (hq115 _ (tf_ne ha0 hqcl (by decide)))
          have hs121 := tf_keepCQ hs95 (hq115 _ (tf_ne htm hqcl (by decide)))
          have hs122 := tf_keepQ hs96 (hq115 _ (tf_ne ha0 hqcl (by decide)))
          have hs123 := tf_keepCQ hs97 (hq115 _ (tf_ne hwd hqcl (by decide)))
          have hs124 := tf_keepQ hs98 (hq115 _ (tf_ne ha0 hqcl (by decide)))
          have hs125 := tf_keepQ hs99 (hq115 _ (tf_ne ha0 hqcl (by decide)))
          have hs126 := tf_keepQ hs100 (hq115 _ (tf_ne ha0 hqcl (by decide)))
          have hs127 := tf_keepQ hs101 (hq115 _ (tf_ne ha0 hqcl (by decide)))
          have hs128 := tf_keepQ hs102 (hq115 _ (tf_ne ha0 hqcl (by decide)))
          have hs129 := tf_keepQ hs103 (hq115 _ (tf_ne ha0 hqcl (by decide)))
          have hs130 := tf_keepQ hs104 (hq115 _ (tf_ne ha0 hqcl (by decide)))
          have hs131 := tf_keepQ hs105 (hq115 _ (tf_ne ha0 hqcl (by decide)))
          have hs132 := tf_keepQ hs106 (hq115 _ (tf_ne ha0 hqcl (by decide)))
          have hs133 := tf_keepQ hs107 (hq115 _ (tf_ne ha0 hqcl (by decide)))
          have hs134 := tf_keepQ hs108 (hq115 _ (tf_ne ha0 hqcl (by decide)))
          have hs135 := tf_keepCQ hs109 (hq115 _ (tf_ne hqop hqcl (by decide)))
          have hs136 := tf_keepCQ hs110 (hq115 _ (tf_ne hqar hqcl (by decide)))
          have hu115 := hu115.trans (congrArg (fun w => tf_up w ((x1_46 + 6)) (gc1_X)) hu89)
          exact tf_retv hx hb hr hlocks hQ hW ⟨(gb1_X), (gf1_X), (gt1_X), (gs1_X), (gw1_X), (gc1_X), ((gk + 1)), (gx1_X), (gl1_X), rop1_X, rar1_X, (tf_up (tf_up (tf_up (tf_up rNCL_46 ((x1_46 + 3)) (gc)) ((x1_46 + 4)) (gc1_X)) ((x1_46 + 5)) (gc1_X)) ((x1_46 + 6)) (gc1_X)), hs127, hs128, hs129, hs130, hs131, hs132, hs124, hs133, hs134, hs135, hs136, hu115, ⟨by omega, by omega⟩, ⟨by omega, by omega⟩, ⟨by omega, by omega⟩, ⟨by omega, by omega⟩, ⟨by omega, by omega⟩, ⟨by omega, by omega⟩, ⟨by omega, by omega⟩, ⟨by omega, by omega⟩, ⟨by omega, by omega⟩, (by first | assumption | omega), (by first | assumption | omega), (by first | assumption | omega), (by first | exact Or.inl (by omega) | exact hRY_3.elim Or.inl (fun hy => Or.inr (tf_clA hCL0 (by omega) (hRX_3.resolve_left (by omega)) hy hRNCL_46 hL1 (by omega))) | exact Or.inr (tf_clB hCL0 (by omega) (hRX_3.resolve_left (by omega)) hRNCL_46 hL1 (by omega) (by omega) (by omega))), (by first | exact tf_CE_bad (tf_cq hq5 (by omega) (by omega) (by omega)) hRX_4 (by omega) | exact tf_CE_if (tf_cq hq5 (by omega) (by omega) (by omega)) hRe8 hL8 (by omega) (by omega) hRY_4 | exact tf_CE_noif (tf_cq hq5 (by omega) (by omega) (by omega)) hRe8 hL8 hni (by omega)), (by first | assumption | omega)⟩ dX10_readClause_157
        · obtain ⟨k8, hRe8, hL8⟩ := tf_EX_go hRX_4 (by omega)
          refine lv_aload_n hx hb dX10_readClause_125 rfl (lv_at hl 0 rfl) ?_
          refine tf_ldc2 (z := 294) hx hb hown (hts _ kl_X10_323) (by decide) dX10_readClause_126 ?_
          refine tf_calli (va_runV (As := [.long (Int64.ofInt 294)]) (rest := []) ⟨hx, hb, hml, hown, hts⟩ (c_X10_isWord l g T a0 ha0 (294) ⟨by omega, by omega⟩ (gs1_X) ⟨by omega, by omega⟩ (gw1_X) ⟨by omega, by omega⟩) (cwV 1 hts gv_X10_258 rfl rfl rfl hd_X10_isWord ⟨Nat.le_trans (by decide) hR1, Nat.le_trans (by decide) hR2⟩) (tf_preV hk hW ha0 (ci := 10) rfl rfl ⟨hs104, hs105⟩) rfl rfl hl.1 rfl (lv_room (Nat.le_of_ble_eq_true rfl)) dX10_readClause_129 ⟨Nat.zero_le _, Nat.zero_le _⟩) hW (by decide) (fun z137 H137 locs137 hW hF137 hp137 => ?_)
          have hs138 := tf_keepF hF137 ha0 rfl rfl (by decide) hs90
          have hs139 := tf_keepF hF137 ha0 rfl rfl (by decide) hs91
          have hs140 := tf_keepF hF137 ha0 rfl rfl (by decide) hs92
          have hs141 := tf_keepF hF137 ha0 rfl rfl (by decide) hs93
          have hs142 := tf_keepF hF137 ha0 rfl rfl (by decide) hs94
          have hs143 := tf_keepC hF137 htm rfl (by decide) hs95
          have hs144 := tf_keepF hF137 ha0 rfl rfl (by decide) hs96
          have hs145 := tf_keepC hF137 hwd rfl (by decide) hs97
          have hs146 := tf_keepF hF137 ha0 rfl rfl (by decide) hs98
          have hs147 := tf_keepF hF137 ha0 rfl rfl (by decide) hs99
          have hs148 := tf_keepF hF137 ha0 rfl rfl (by decide) hs100
          have hs149 := tf_keepF hF137 ha0 rfl rfl (by decide) hs101
          have hs150 := tf_keepF hF137 ha0 rfl rfl (by decide) hs102
          have hs151 := tf_keepF hF137 ha0 rfl rfl (by decide) hs103
          have hs152 := tf_keepF hF137 ha0 rfl rfl (by decide) hs104
          have hs153 := tf_keepF hF137 ha0 rfl rfl (by decide) hs105
          have hs154 := tf_keepF hF137 ha0 rfl rfl (by decide) hs106
          have hs155 := tf_keepF hF137 ha0 rfl rfl (by decide) hs107
          have hs156 := tf_keepF hF137 ha0 rfl rfl (by decide) hs108
          have hs157 := tf_keepC hF137 hqop rfl (by decide) hs109
          have hs158 := tf_keepC hF137 hqar rfl (by decide) hs110
          have hs159 := tf_keepC hF137 hqcl rfl (by decide) hu89
          rcases hp137 with ⟨rfl, h160⟩ | ⟨rfl, hni⟩
          · refine tf_if_eq (tgt := 144) hx hb ⟨by decide, by decide⟩ dX10_readClause_132 (by decide) (fun h161 => ?_) (fun h161 => ?_)
            · exfalso; omega
            · refine lv_aload_n hx hb dX10_readClause_135 rfl (lv_at hl 0 rfl) ?_
              refine tf_callv (va_runV (As := []) (rest := []) ⟨hx, hb, hml, hown, hts⟩ (c_X10_next l g T a0 ha0 tm htm (gn) ⟨by omega, by omega⟩ (gt1_X) ⟨by omega, by omega⟩ tp (by first | assumption | omega)) (cwV 0 hts gv_X10_204 rfl rfl rfl hd_X10_next ⟨Nat.le_trans (by decide) hR1, Nat.le_trans (by decide) hR2⟩) (tf_preV hk hW ha0 (ci := 10) rfl rfl ⟨hs141, hs151, hs142, hs143⟩) rfl rfl hl.1 rfl (lv_room (Nat.le_of_ble_eq_true rfl)) dX10_readClause_136 ⟨Nat.zero_le _, Nat.zero_le _⟩) hW (by decide) (fun HN locsN hW hFN hpN => ?_)
              have hs162 := tf_keepF hFN ha0 rfl rfl (by decide) hs138
              have hs163 := tf_keepF hFN ha0 rfl rfl (by decide) hs139
              have hs164 := tf_keepF hFN ha0 rfl rfl (by decide) hs140
              have hs165 := tf_keepF hFN ha0 rfl rfl (by decide) hs141
              have hs166 := tf_keepF hFN ha0 rfl rfl (by decide) hs142
              have hs167 := tf_keepC hFN htm rfl (by decide) hs143
              have hs168 := tf_keepF hFN ha0 rfl rfl (by decide) hs144
              have hs169 := tf_keepC hFN hwd rfl (by decide) hs145
              have hs170 := tf_keepF hFN ha0 rfl rfl (by decide) hs146
              have hs171 := tf_keepF hFN ha0 rfl rfl (by decide) hs147
              have hs172 := tf_keepF hFN ha0 rfl rfl (by decide) hs148
              have hs173 := tf_keepF hFN ha0 rfl rfl (by decide) hs149
              have hs174 := tf_keepF hFN ha0 rfl rfl (by decide) hs154
              have hs175 := tf_keepF hFN ha0 rfl rfl (by decide) hs155
              have hs176 := tf_keepF hFN ha0 rfl rfl (by decide) hs156
              have hs177 := tf_keepC hFN hqop rfl (by decide) hs157
              have hs178 := tf_keepC hFN hqar rfl (by decide) hs158
              have hs179 := tf_keepC hFN hqcl rfl (by decide) hs159
              obtain ⟨gf1_N, gt1_N, gs1_N, gw1_N, hXN_0, hXN_1, hXN_2, hXN_3, hBN_0, hBN_1, hBN_2, hBN_3, hRN_0, hRN_1, hRN_2⟩ := hpN
              refine lv_aload_n hx hb dX10_readClause_139 rfl (lv_at hl 0 rfl) ?_
              refine tf_iconst hx hb dX10_readClause_140 ?_
              have hL2x := tf_LX_next hq4.1 hq4.2.1 hL8 hRN_2
              obtain ⟨r180, hr180⟩ := tf_rname hW ad46
              obtain ⟨r181, hr181⟩ := tf_rname hW ad48
              refine tf_callv (va_runV (As := [.int (Int32.ofInt 1)]) (rest := []) ⟨hx, hb, hml, hown, hts⟩ (c_X10_readExpression l g T a0 ha0 (1) ⟨by omega, by omega⟩ (ss) (pp) (mm) (tf_nx mm k8) (0) (1) ((gk + 1)) qop hqop qar hqar ad46 had46 ad48 had48 tm htm wd hwd (gn) ⟨by omega, by omega⟩ (gf1_N) ⟨by omega, by omega⟩ (gt1_N) ⟨by omega, by omega⟩ (gs1_N) ⟨by omega, by omega⟩ (gw1_N) ⟨by omega, by omega⟩ (gb1_X) ⟨by omega, by omega⟩ (gc1_X) ⟨by omega, by omega⟩ (gx1_X) ⟨by omega, by omega⟩ (gl1_X) ⟨by omega, by omega⟩ rop1_X rar1_X r180 r181 tp gW (by first | assumption | omega) (by first | assumption | omega) (by first | assumption | omega) (by first | assumption | omega) hL2x (by first | assumption | omega) (by first | assumption | omega)) (cwV 1 hts gv_X10_320 rfl rfl rfl hd_X10_readExpression ⟨Nat.le_trans (by decide) hR1, Nat.le_trans (by decide) hR2⟩) (tf_preV hk hW ha0 (ci := 10) rfl rfl ⟨hs162, hs163, hs171, hs172, hs165, hXN_0, hXN_1, hXN_2, hXN_3, hs173, hs174, hs175, hs176, hs177, hs178, hr180, hr181, hs166, hs167, hs168, hs169⟩) rfl rfl hl.1 rfl (lv_room (Nat.le_of_ble_eq_true rfl)) dX10_readClause_141 ⟨Nat.zero_le _, Nat.zero_le _⟩) hW (by decide) (fun HY locsY hW hFY hpY => ?_)
              have hs182 := tf_keepF hFY ha0 rfl rfl (by decide) hs162
              have hs183 := tf_keepF hFY ha0 rfl rfl (by decide) hs163
              have hs184 := tf_keepF hFY ha0 rfl rfl (by decide) hs164
              have hs185 := tf_keepF hFY ha0 rfl rfl (by decide) hs165
              have hs186 := tf_keepF hFY ha0 rfl rfl (by decide) hs166
              have hs187 := tf_keepC hFY htm rfl (by decide) hs167
              have hs188 := tf_keepF hFY ha0 rfl rfl (by decide) hs168
              have hs189 := tf_keepC hFY hwd rfl (by decide) hs169
              have hs190 := tf_keepF hFY ha0 rfl rfl (by decide) hs170
              have hs191 := tf_keepF hFY ha0 rfl rfl (by decide) hs171
              have hs192 := tf_keepF hFY ha0 rfl rfl (by decide) hs172
              have hs193 := tf_keepC hFY hqcl rfl (by decide) hs179
              obtain ⟨gb1_Y, gf1_Y, gt1_Y, gs1_Y, gw1_Y, gc1_Y, gx1_Y, gl1_Y, rop1_Y, rar1_Y, hXY_0, hXY_1, hXY_2, hXY_3, hXY_4, hXY_5, hXY_6, hXY_7, hXY_8, hXY_9, hBY_0, hBY_1, hBY_2, hBY_3, hBY_4, hBY_5, hBY_6, hBY_7, hRY_0, hRY_1, hRY_2, hRY_3, hRY_4, hRY_5⟩ := hpY
              refine lv_aload_n hx hb dX10_readClause_144 rfl (lv_at hl 0 rfl) ?_
              refine tf_get hx hb hts inlX10 hown hK (ci := 10) rfl hW ha0 rfl 16 rfl (by decide) (hts _ fl_X10_30) dX10_readClause_145 (fun v194 hv194 hsv194 => ?_)
              obtain rfl : v194 = .ref qcl := Option.some.inj (hsv194.symm.trans hs184)
              refine lv_iload_n hx hb dX10_readClause_148 rfl (lv_at hl 1 rfl) ?_
              refine tf_bipush hx hb dX10_readClause_149 (by decide) ?_
              refine tf_iadd hx hb dX10_readClause_151 ?_
              refine lv_aload_n hx hb dX10_readClause_152 rfl (lv_at hl 0 rfl) ?_
              refine tf_get hx hb hts inlX10 hown hK (ci := 10) rfl hW ha0 rfl 17 rfl (by decide) (hts _ fl_X10_239) dX10_readClause_153 (fun v195 hv195 hsv195 => ?_)
              obtain rfl : v195 = .int (Int32.ofInt gc1_Y) := Option.some.inj (hsv195.symm.trans hXY_5)
              refine tf_rwst (t0 := 0) hx hb hK hW hqcl rfl rfl (by omega) (by omega) (by decide) (tf_u0 (by omega) (by omega)) ⟨by omega, by omega⟩ trivial dX10_readClause_156 (fun H196 locs196 hW hu196 hq196 => ?_)
              have hs197 := tf_keepQ hs182 (hq196 _ (tf_ne ha0 hqcl (by decide)))
              have hs198 := tf_keepQ hs183 (hq196 _ (tf_ne ha0 hqcl (by decide)))
              have hs199 := tf_keepQ hs184 (hq196 _ (tf_ne ha0 hqcl (by decide)))
              have hs200 := tf_keepQ hs185 (hq196 _ (tf_ne ha0 hqcl (by decide)))
              have hs201 := tf_keepQ hs186 (hq196 _ (tf_ne ha0 hqcl (by decide)))
              have hs202 := tf_keepCQ hs187 (hq196 _ (tf_ne htm hqcl (by decide)))
              have hs203 := tf_keepQ hs188 (hq196 _ (tf_ne ha0 hqcl (by decide)))
              have hs204 := tf_keepCQ hs189 (hq196 _ (tf_ne hwd hqcl (by decide)))
              have hs205 := tf_keepQ hs190 (hq196 _ (tf_ne ha0 hqcl (by decide)))
              have hs206 := tf_keepQ hs191 (hq196 _ (tf_ne ha0 hqcl (by decide)))
              have hs207 := tf_keepQ hs192 (hq196 _ (tf_ne ha0 hqcl (by decide)))
              have hs208 := tf_keepQ hXY_0 (hq196 _ (tf_ne ha0 hqcl (by decide)))
              have hs209 := tf_keepQ hXY_1 (hq196 _ (tf_ne ha0 hqcl (by decide)))
              have hs210 := tf_keepQ hXY_2 (hq196 _ (tf_ne ha0 hqcl (by decide)))
              have hs211 := tf_keepQ hXY_3 (hq196 _ (tf_ne ha0 hqcl (by decide)))
              have hs212 := tf_keepQ hXY_4 (hq196 _ (tf_ne ha0 hqcl (by decide)))
              have hs213 := tf_keepQ hXY_5 (hq196 _ (tf_ne ha0 hqcl (by decide)))
              have hs214 := tf_keepQ hXY_6 (hq196 _ (tf_ne ha0 hqcl (by decide)))
              have hs215 := tf_keepQ hXY_7 (hq196 _ (tf_ne ha0 hqcl (by decide)))
              have hs216 := tf_keepCQ hXY_8 (hq196 _ (tf_ne hqop hqcl (by decide)))
              have hs217 := tf_keepCQ hXY_9 (hq196 _ (tf_ne hqar hqcl (by decide)))
              have hu196 := hu196.trans (congrArg (fun w => tf_up w ((x1_46 + 6)) (gc1_Y)) hs193)
              exact tf_retv hx hb hr hlocks hQ hW ⟨(gb1_Y), (gf1_Y), (gt1_Y), (gs1_Y), (gw1_Y), (gc1_Y), ((gk + 1)), (gx1_Y), (gl1_Y), rop1_Y, rar1_Y, (tf_up (tf_up (tf_up (tf_up rNCL_46 ((x1_46 + 3)) (gc)) ((x1_46 + 4)) (gc1_X)) ((x1_46 + 5)) (gc1_X)) ((x1_46 + 6)) (gc1_Y)), hs208, hs209, hs210, hs211, hs212, hs213, hs205, hs214, hs215, hs216, hs217, hu196, ⟨by omega, by omega⟩, ⟨by omega, by omega⟩, ⟨by omega, by omega⟩, ⟨by omega, by omega⟩, ⟨by omega, by omega⟩, ⟨by omega, by omega⟩, ⟨by omega, by omega⟩, ⟨by omega, by omega⟩, ⟨by omega, by omega⟩, (by first | assumption | omega), (by first | assumption | omega), (by first | assumption | omega), (by first | exact Or.inl (by omega) | exact hRY_3.elim Or.inl (fun hy => Or.inr (tf_clA hCL0 (by omega) (hRX_3.resolve_left (by omega)) hy hRNCL_46 hL1 (by omega))) | exact Or.inr (tf_clB hCL0 (by omega) (hRX_3.resolve_left (by omega)) hRNCL_46 hL1 (by omega) (by omega) (by omega))), (by first | exact tf_CE_bad (tf_cq hq5 (by omega) (by omega) (by omega)) hRX_4 (by omega) | exact tf_CE_if (tf_cq hq5 (by omega) (by omega) (by omega)) hRe8 hL8 (by omega) (by omega) hRY_4 | exact tf_CE_noif (tf_cq hq5 (by omega) (by omega) (by omega)) hRe8 hL8 hni (by omega)), (by first | assumption | omega)⟩ dX10_readClause_157
          · refine tf_if_eq (tgt := 144) hx hb ⟨by decide, by decide⟩ dX10_readClause_132 (by decide) (fun h218 => ?_) (fun h218 => ?_)
            · refine lv_aload_n hx hb dX10_readClause_144 rfl (lv_at hl 0 rfl) ?_
              refine tf_get hx hb hts inlX10 hown hK (ci := 10) rfl hW ha0 rfl 16 rfl (by decide) (hts _ fl_X10_30) dX10_readClause_145 (fun v219 hv219 hsv219 => ?_)
              obtain rfl : v219 = .ref qcl := Option.some.inj (hsv219.symm.trans hs140)
              refine lv_iload_n hx hb dX10_readClause_148 rfl (lv_at hl 1 rfl) ?_
              refine tf_bipush hx hb dX10_readClause_149 (by decide) ?_
              refine tf_iadd hx hb dX10_readClause_151 ?_
              refine lv_aload_n hx hb dX10_readClause_152 rfl (lv_at hl 0 rfl) ?_
              refine tf_get hx hb hts inlX10 hown hK (ci := 10) rfl hW ha0 rfl 17 rfl (by decide) (hts _ fl_X10_239) dX10_readClause_153 (fun v220 hv220 hsv220 => ?_)
              obtain rfl : v220 = .int (Int32.ofInt gc1_X) := Option.some.inj (hsv220.symm.trans hs154)
              refine tf_rwst (t0 := 0) hx hb hK hW hqcl rfl rfl (by omega) (by omega) (by decide) (tf_u0 (by omega) (by omega)) ⟨by omega, by omega⟩ trivial dX10_readClause_156 (fun H221 locs221 hW hu221 hq221 => ?_)
              have hs222 := tf_keepQ hs138 (hq221 _ (tf_ne ha0 hqcl (by decide)))
              have hs223 := tf_keepQ hs139 (hq221 _ (tf_ne ha0 hqcl (by decide)))
              have hs224 := tf_keepQ hs140 (hq221 _ (tf_ne ha0 hqcl (by decide)))
              have hs225 := tf_keepQ hs141 (hq221 _ (tf_ne ha0 hqcl (by decide)))
              have hs226 := tf_keepQ hs142 (hq221 _ (tf_ne ha0 hqcl (by decide)))
              have hs227 := tf_keepCQ hs143 (hq221 _ (tf_ne htm hqcl (by decide)))
              have hs228 := tf_keepQ hs144 (hq221 _ (tf_ne ha0 hqcl (by decide)))
              have hs229 := tf_keepCQ hs145 (hq221 _ (tf_ne hwd hqcl (by decide)))
              have hs230 := tf_keepQ hs146 (hq221 _ (tf_ne ha0 hqcl (by decide)))
              have hs231 := tf_keepQ hs147 (hq221 _ (tf_ne ha0 hqcl (by decide)))
              have hs232 := tf_keepQ hs148 (hq221 _ (tf_ne ha0 hqcl (by decide)))
              have hs233 := tf_keepQ hs149 (hq221 _ (tf_ne ha0 hqcl (by decide)))
              have hs234 := tf_keepQ hs150 (hq221 _ (tf_ne ha0 hqcl (by decide)))
              have hs235 := tf_keepQ hs151 (hq221 _ (tf_ne ha0 hqcl (by decide)))
              have hs236 := tf_keepQ hs152 (hq221 _ (tf_ne ha0 hqcl (by decide)))
              have hs237 := tf_keepQ hs153 (hq221 _ (tf_ne ha0 hqcl (by decide)))
              have hs238 := tf_keepQ hs154 (hq221 _ (tf_ne ha0 hqcl (by decide)))
              have hs239 := tf_keepQ hs155 (hq221 _ (tf_ne ha0 hqcl (by decide)))
              have hs240 := tf_keepQ hs156 (hq221 _ (tf_ne ha0 hqcl (by decide)))
              have hs241 := tf_keepCQ hs157 (hq221 _ (tf_ne hqop hqcl (by decide)))
              have hs242 := tf_keepCQ hs158 (hq221 _ (tf_ne hqar hqcl (by decide)))
              have hu221 := hu221.trans (congrArg (fun w => tf_up w ((x1_46 + 6)) (gc1_X)) hs159)
              exact tf_retv hx hb hr hlocks hQ hW ⟨(gb1_X), (gf1_X), (gt1_X), (gs1_X), (gw1_X), (gc1_X), ((gk + 1)), (gx1_X), (gl1_X), rop1_X, rar1_X, (tf_up (tf_up (tf_up (tf_up rNCL_46 ((x1_46 + 3)) (gc)) ((x1_46 + 4)) (gc1_X)) ((x1_46 + 5)) (gc1_X)) ((x1_46 + 6)) (gc1_X)), hs233, hs234, hs235, hs236, hs237, hs238, hs230, hs239, hs240, hs241, hs242, hu221, ⟨by omega, by omega⟩, ⟨by omega, by omega⟩, ⟨by omega, by omega⟩, ⟨by omega, by omega⟩, ⟨by omega, by omega⟩, ⟨by omega, by omega⟩, ⟨by omega, by omega⟩, ⟨by omega, by omega⟩, ⟨by omega, by omega⟩, (by first | assumption | omega), (by first | assumption | omega), (by first | assumption | omega), (by first | exact Or.inl (by omega) | exact hRY_3.elim Or.inl (fun hy => Or.inr (tf_clA hCL0 (by omega) (hRX_3.resolve_left (by omega)) hy hRNCL_46 hL1 (by omega))) | exact Or.inr (tf_clB hCL0 (by omega) (hRX_3.resolve_left (by omega)) hRNCL_46 hL1 (by omega) (by omega) (by omega))), (by first | exact tf_CE_bad (tf_cq hq5 (by omega) (by omega) (by omega)) hRX_4 (by omega) | exact tf_CE_if (tf_cq hq5 (by omega) (by omega) (by omega)) hRe8 hL8 (by omega) (by omega) hRY_4 | exact tf_CE_noif (tf_cq hq5 (by omega) (by omega) (by omega)) hRe8 hL8 hni (by omega)), (by first | assumption | omega)⟩ dX10_readClause_157
            · exfalso; omega
      · refine lv_aload_n hx hb dX10_readClause_52 rfl (lv_at hl 0 rfl) ?_
        refine tf_get hx hb hts inlX10 hown hK (ci := 10) rfl hW ha0 rfl 16 rfl (by decide) (hts _ fl_X10_30) dX10_readClause_53 (fun v243 hv243 hsv243 => ?_)
        obtain rfl : v243 = .ref qcl := Option.some.inj (hsv243.symm.trans hs16_46)
        refine lv_iload_n hx hb dX10_readClause_56 rfl (lv_at hl 1 rfl) ?_
        refine lv_iload_n hx hb dX10_readClause_57 rfl (lv_at hl 2 rfl) ?_
        refine tf_iadd hx hb dX10_readClause_58 ?_
        refine tf_iconst hx hb dX10_readClause_59 ?_
        refine tf_rwst (t0 := 0) hx hb hK hW hqcl rfl rfl (by omega) (by omega) (by decide) (tf_u0 (by omega) (by omega)) ⟨by omega, by omega⟩ trivial dX10_readClause_60 (fun H244 locs244 hW hu244 hq244 => ?_)
        have hs245 := tf_keepQ hs18_46 (hq244 _ (tf_ne ha0 hqcl (by decide)))
        have hs246 := tf_keepQ hs19_46 (hq244 _ (tf_ne ha0 hqcl (by decide)))
        have hs247 := tf_keepQ hs16_46 (hq244 _ (tf_ne ha0 hqcl (by decide)))
        have hs248 := tf_keepQ hs8_46 (hq244 _ (tf_ne ha0 hqcl (by decide)))
        have hs249 := tf_keepQ hs17_46 (hq244 _ (tf_ne ha0 hqcl (by decide)))
        have hs250 := tf_keepQ hs15_46 (hq244 _ (tf_ne ha0 hqcl (by decide)))
        have hs251 := tf_keepQ hs20_46 (hq244 _ (tf_ne ha0 hqcl (by decide)))
        have hs252 := tf_keepCQ hcNOP_46 (hq244 _ (tf_ne hqop hqcl (by decide)))
        have hs253 := tf_keepCQ hcNAR_46 (hq244 _ (tf_ne hqar hqcl (by decide)))
        have hs254 := tf_keepQ hs7_46 (hq244 _ (tf_ne ha0 hqcl (by decide)))
        have hs255 := tf_keepCQ hcTPM_46 (hq244 _ (tf_ne htm hqcl (by decide)))
        have hs256 := tf_keepQ hs25_46 (hq244 _ (tf_ne ha0 hqcl (by decide)))
        have hs257 := tf_keepCQ hcLWD_46 (hq244 _ (tf_ne hwd hqcl (by decide)))
        have hs258 := tf_keepQ hs14_46 (hq244 _ (tf_ne ha0 hqcl (by decide)))
        have hs259 := tf_keepQ hs9_46 (hq244 _ (tf_ne ha0 hqcl (by decide)))
        have hs260 := tf_keepQ hs10_46 (hq244 _ (tf_ne ha0 hqcl (by decide)))
        have hs261 := tf_keepQ hs11_46 (hq244 _ (tf_ne ha0 hqcl (by decide)))
        have hs262 := tf_keepQ hs12_46 (hq244 _ (tf_ne ha0 hqcl (by decide)))
        have hs263 := tf_keepQ hs13_46 (hq244 _ (tf_ne ha0 hqcl (by decide)))
        have hu244 := hu244.trans (congrArg (fun w => tf_up w ((x1_46 + x2_46)) (0)) hcNCL_46)
        refine lv_iinc (v := Int32.ofInt ((x2_46 + 1))) (lv' := [(2, .int (Int32.ofInt ((x2_46 + 1)))), (0, .ref a0), (1, .int (Int32.ofInt x1_46))]) hx hb dX10_readClause_61 hl (k := 2) rfl (Int32.ofInt_add _ _).symm (by decide) rfl (fun ls hl => ?_)
        refine lv_goto (tgt := 46) hx hb dX10_readClause_64 (by decide) ?_
        exact ih_46 (x1_46) ⟨by omega, by omega⟩ ((x2_46 + 1)) ⟨by omega, by omega⟩ (tf_up rNCL_46 ((x1_46 + x2_46)) (0)) (by first | exact fun j _ => rfl | exact fun j hj => by rw [tf_up_ne (by omega)]; exact hRNCL_46 j hj) (f14_46) ⟨by omega, by omega⟩ (f9_46) ⟨by omega, by omega⟩ (f10_46) ⟨by omega, by omega⟩ (f11_46) ⟨by omega, by omega⟩ (f12_46) ⟨by omega, by omega⟩ (f13_46) ⟨by omega, by omega⟩ (by first | assumption | omega) (by first | assumption | omega) (by first | assumption | omega) (by first | assumption | omega) (by first | assumption | omega) (by first | assumption | omega) (by first | assumption | omega) (by first | assumption | omega) (by first | exact hRU_1.resolve_left (by omega) | assumption) (by omega) _ _ hW hs245 hs246 hs247 hs248 hs249 hs250 hs251 hs252 hs253 hu244 hs254 hs255 hs256 hs257 hs258 hs259 hs260 hs261 hs262 hs263 _ (lv_sub hl [1, 2, 0] rfl)
  refine tf_enter (As := [.ref a0]) hargs (Nat.le_of_ble_eq_true rfl) (fun ls hl => ?_)
  have hl : lv_has ls 3 [(0, .ref a0)] := hl
  refine lv_aload_n hx hb dX10_readClause_0 rfl (lv_at hl 0 rfl) ?_
  refine lv_aload_n hx hb dX10_readClause_1 rfl (lv_at hl 0 rfl) ?_
  refine tf_ldc2 (z := 18523243) hx hb hown (hts _ kl_X10_315) (by decide) dX10_readClause_2 ?_
  refine tf_calli (va_runV (As := [.long (Int64.ofInt 18523243)]) (rest := [.ref a0]) ⟨hx, hb, hml, hown, hts⟩ (c_X10_isWord l g T a0 ha0 (18523243) ⟨by omega, by omega⟩ (gs) ⟨by omega, by omega⟩ (gw) ⟨by omega, by omega⟩) (cwV 1 hts gv_X10_258 rfl rfl rfl hd_X10_isWord ⟨Nat.le_trans (by decide) hR1, Nat.le_trans (by decide) hR2⟩) (tf_preV hk hW ha0 (ci := 10) rfl rfl ⟨he6, he7⟩) rfl rfl hl.1 rfl (lv_room (Nat.le_of_ble_eq_true rfl)) dX10_readClause_5 ⟨Nat.zero_le _, Nat.zero_le _⟩) hW (by decide) (fun z264 H264 locs264 hW hF264 hp264 => ?_)
  have hs265 := tf_keepF hF264 ha0 rfl rfl (by decide) he0
  have hs266 := tf_keepF hF264 ha0 rfl rfl (by decide) he1
  have hs267 := tf_keepF hF264 ha0 rfl rfl (by decide) he2
  have hs268 := tf_keepF hF264 ha0 rfl rfl (by decide) he3
  have hs269 := tf_keepF hF264 ha0 rfl rfl (by decide) he4
  have hs270 := tf_keepF hF264 ha0 rfl rfl (by decide) he5
  have hs271 := tf_keepF hF264 ha0 rfl rfl (by decide) he6
  have hs272 := tf_keepF hF264 ha0 rfl rfl (by decide) he7
  have hs273 := tf_keepF hF264 ha0 rfl rfl (by decide) he8
  have hs274 := tf_keepF hF264 ha0 rfl rfl (by decide) he9
  have hs275 := tf_keepF hF264 ha0 rfl rfl (by decide) he10
  have hs276 := tf_keepF hF264 ha0 rfl rfl (by decide) he11
  have hs277 := tf_keepF hF264 ha0 rfl rfl (by decide) he12
  have hs278 := tf_keepC hF264 hqop rfl (by decide) he13
  have hs279 := tf_keepC hF264 hqar rfl (by decide) he14
  have hs280 := tf_keepC hF264 hqcl rfl (by decide) he15
  have hs281 := tf_keepF hF264 ha0 rfl rfl (by decide) he16
  have hs282 := tf_keepC hF264 htm rfl (by decide) he17
  have hs283 := tf_keepF hF264 ha0 rfl rfl (by decide) he18
  have hs284 := tf_keepC hF264 hwd rfl (by decide) he19
  rcases hp264 with ⟨rfl, h285⟩ | ⟨rfl, hnq⟩
  · refine tf_if_eq (tgt := 24) hx hb ⟨by decide, by decide⟩ dX10_readClause_8 (by decide) (fun h286 => ?_) (fun h286 => ?_)
    · exfalso; omega
    · refine lv_aload_n hx hb dX10_readClause_11 rfl (lv_at hl 0 rfl) ?_
      refine tf_get hx hb hts inlX10 hown hK (ci := 10) rfl hW ha0 rfl 15 rfl (by decide) (hts _ fl_X10_317) dX10_readClause_12 (fun v287 hv287 hsv287 => ?_)
      obtain rfl : v287 = .int (Int32.ofInt gk) := Option.some.inj (hsv287.symm.trans hs275)
      refine tf_bipush hx hb dX10_readClause_15 (by decide) ?_
      refine tf_icmp_ge (tgt := 24) hx hb ⟨by omega, by omega⟩ ⟨by decide, by decide⟩ dX10_readClause_17 (by decide) (fun h288 => ?_) (fun h288 => ?_)
      · refine tf_iconst hx hb dX10_readClause_24 ?_
        refine tf_callv (va_runV (As := [.int (Int32.ofInt 0)]) (rest := []) ⟨hx, hb, hml, hown, hts⟩ (c_X10_must l g T a0 ha0 (0) ⟨by omega, by omega⟩ tm htm (gn) ⟨by omega, by omega⟩ (gf) ⟨by omega, by omega⟩ (gt) ⟨by omega, by omega⟩ (gs) ⟨by omega, by omega⟩ (gw) ⟨by omega, by omega⟩ (gb) ⟨by omega, by omega⟩ (gx) ⟨by omega, by omega⟩ tp (by first | assumption | omega)) (cwV 1 hts gv_X10_235 rfl rfl rfl hd_X10_must ⟨Nat.le_trans (by decide) hR1, Nat.le_trans (by decide) hR2⟩) (tf_preV hk hW ha0 (ci := 10) rfl rfl ⟨hs268, hs269, hs270, hs271, hs272, hs273, hs276, hs281, hs282⟩) rfl rfl hl.1 rfl (lv_room (Nat.le_of_ble_eq_true rfl)) dX10_readClause_25 ⟨Nat.zero_le _, Nat.zero_le _⟩) hW (by decide) (fun HU locsU hW hFU hpU => ?_)
        have hs289 := tf_keepF hFU ha0 rfl rfl (by decide) hs265
        have hs290 := tf_keepF hFU ha0 rfl rfl (by decide) hs266
        have hs291 := tf_keepF hFU ha0 rfl rfl (by decide) hs267
        have hs292 := tf_keepF hFU ha0 rfl rfl (by decide) hs268
        have hs293 := tf_keepF hFU ha0 rfl rfl (by decide) hs274
        have hs294 := tf_keepF hFU ha0 rfl rfl (by decide) hs275
        have hs295 := tf_keepF hFU ha0 rfl rfl (by decide) hs277
        have hs296 := tf_keepC hFU hqop rfl (by decide) hs278
        have hs297 := tf_keepC hFU hqar rfl (by decide) hs279
        have hs298 := tf_keepC hFU hqcl rfl (by decide) hs280
        have hs299 := tf_keepF hFU ha0 rfl rfl (by decide) hs281
        have hs300 := tf_keepC hFU htm rfl (by decide) hs282
        have hs301 := tf_keepF hFU ha0 rfl rfl (by decide) hs283
        have hs302 := tf_keepC hFU hwd rfl (by decide) hs284
        obtain ⟨gb1_U, gf1_U, gt1_U, gs1_U, gw1_U, gx1_U, hXU_0, hXU_1, hXU_2, hXU_3, hXU_4, hXU_5, hBU_0, hBU_1, hBU_2, hBU_3, hBU_4, hBU_5, hRU_0, hRU_1, hRU_2, hRU_3⟩ := hpU
        refine lv_aload_n hx hb dX10_readClause_28 rfl (lv_at hl 0 rfl) ?_
        refine tf_get hx hb hts inlX10 hown hK (ci := 10) rfl hW ha0 rfl 14 rfl (by decide) (hts _ fl_X10_200) dX10_readClause_29 (fun v303 hv303 hsv303 => ?_)
        obtain rfl : v303 = .int (Int32.ofInt gb1_U) := Option.some.inj (hsv303.symm.trans hXU_0)
        refine tf_if_eq (tgt := 36) hx hb ⟨by omega, by omega⟩ dX10_readClause_32 (by decide) (fun h304 => ?_) (fun h304 => ?_)
        · refine tf_bipush hx hb dX10_readClause_36 (by decide) ?_
          refine lv_aload_n hx hb dX10_readClause_38 rfl (lv_at hl 0 rfl) ?_
          refine tf_get hx hb hts inlX10 hown hK (ci := 10) rfl hW ha0 rfl 15 rfl (by decide) (hts _ fl_X10_317) dX10_readClause_39 (fun v305 hv305 hsv305 => ?_)
          obtain rfl : v305 = .int (Int32.ofInt gk) := Option.some.inj (hsv305.symm.trans hs294)
          refine tf_imul hx hb dX10_readClause_42 ?_
          refine lv_istore_n (lv' := [(1, .int (Int32.ofInt ((8 * gk)))), (0, .ref a0)]) hx hb dX10_readClause_43 rfl hl (by decide) rfl (fun ls hl => ?_)
          refine tf_iconst hx hb dX10_readClause_44 ?_
          refine lv_istore_n (lv' := [(2, .int (Int32.ofInt 0)), (1, .int (Int32.ofInt ((8 * gk)))), (0, .ref a0)]) hx hb dX10_readClause_45 rfl hl (by decide) rfl (fun ls hl => ?_)
          exact j_46 ((8 - 0 + 1 : Int)).toNat ((8 * gk)) ⟨by omega, by omega⟩ (0) ⟨by omega, by omega⟩ rcl (by first | exact fun j _ => rfl | exact fun j hj => by rw [tf_up_ne (by omega)]; exact hRNCL_46 j hj) (gb1_U) ⟨by omega, by omega⟩ (gf1_U) ⟨by omega, by omega⟩ (gt1_U) ⟨by omega, by omega⟩ (gs1_U) ⟨by omega, by omega⟩ (gw1_U) ⟨by omega, by omega⟩ (gx1_U) ⟨by omega, by omega⟩ (by first | assumption | omega) (by first | assumption | omega) (by first | assumption | omega) (by first | assumption | omega) (by first | assumption | omega) (by first | assumption | omega) (by first | assumption | omega) (by first | assumption | omega) (by first | exact hRU_1.resolve_left (by omega) | assumption) (by omega) _ _ hW hs289 hs290 hs291 hs292 hs293 hs294 hs295 hs296 hs297 hs298 hs299 hs300 hs301 hs302 hXU_0 hXU_1 hXU_2 hXU_3 hXU_4 hXU_5 _ (lv_sub hl [2, 1, 0] rfl)
        · exact tf_retv hx hb hr hlocks hQ hW ⟨(gb1_U), (gf1_U), (gt1_U), (gs1_U), (gw1_U), (gc), (gk), (gx1_U), (gl), rop, rar, rcl, hXU_0, hXU_1, hXU_2, hXU_3, hXU_4, hs293, hs294, hXU_5, hs295, hs296, hs297, hs298, ⟨by omega, by omega⟩, ⟨by omega, by omega⟩, ⟨by omega, by omega⟩, ⟨by omega, by omega⟩, ⟨by omega, by omega⟩, ⟨by omega, by omega⟩, ⟨by omega, by omega⟩, ⟨by omega, by omega⟩, ⟨by omega, by omega⟩, (by first | assumption | omega), (by first | assumption | omega), (by first | assumption | omega), (Or.inl (by omega)), (by first | exact tf_CE_no hq5 (hnq.imp id Or.inl) (by omega) (by omega) | exact tf_CE_no hq5 (by omega) (by omega) (by omega)), (by first | assumption | omega)⟩ dX10_readClause_35
      · refine tf_iconst hx hb dX10_readClause_20 ?_
        refine lv_goto (tgt := 25) hx hb dX10_readClause_21 (by decide) ?_
        refine tf_callv (va_runV (As := [.int (Int32.ofInt 1)]) (rest := []) ⟨hx, hb, hml, hown, hts⟩ (c_X10_must l g T a0 ha0 (1) ⟨by omega, by omega⟩ tm htm (gn) ⟨by omega, by omega⟩ (gf) ⟨by omega, by omega⟩ (gt) ⟨by omega, by omega⟩ (gs) ⟨by omega, by omega⟩ (gw) ⟨by omega, by omega⟩ (gb) ⟨by omega, by omega⟩ (gx) ⟨by omega, by omega⟩ tp (by first | assumption | omega)) (cwV 1 hts gv_X10_235 rfl rfl rfl hd_X10_must ⟨Nat.le_trans (by decide) hR1, Nat.le_trans (by decide) hR2⟩) (tf_preV hk hW ha0 (ci := 10) rfl rfl ⟨hs268, hs269, hs270, hs271, hs272, hs273, hs276, hs281, hs282⟩) rfl rfl hl.1 rfl (lv_room (Nat.le_of_ble_eq_true rfl)) dX10_readClause_25 ⟨Nat.zero_le _, Nat.zero_le _⟩) hW (by decide) (fun HU locsU hW hFU hpU => ?_)
        have hs306 := tf_keepF hFU ha0 rfl rfl (by decide) hs265
        have hs307 := tf_keepF hFU ha0 rfl rfl (by decide) hs266
        have hs308 := tf_keepF hFU ha0 rfl rfl (by decide) hs267
        have hs309 := tf_keepF hFU ha0 rfl rfl (by decide) hs268
        have hs310 := tf_keepF hFU ha0 rfl rfl (by decide) hs274
        have hs311 := tf_keepF hFU ha0 rfl rfl (by decide) hs275
        have hs312 := tf_keepF hFU ha0 rfl rfl (by decide) hs277
        have hs313 := tf_keepC hFU hqop rfl (by decide) hs278
        have hs314 := tf_keepC hFU hqar rfl (by decide) hs279
        have hs315 := tf_keepC hFU hqcl rfl (by decide) hs280
        have hs316 := tf_keepF hFU ha0 rfl rfl (by decide) hs281
        have hs317 := tf_keepC hFU htm rfl (by decide) hs282
        have hs318 := tf_keepF hFU ha0 rfl rfl (by decide) hs283
        have hs319 := tf_keepC hFU hwd rfl (by decide) hs284
        obtain ⟨gb1_U, gf1_U, gt1_U, gs1_U, gw1_U, gx1_U, hXU_0, hXU_1, hXU_2, hXU_3, hXU_4, hXU_5, hBU_0, hBU_1, hBU_2, hBU_3, hBU_4, hBU_5, hRU_0, hRU_1, hRU_2, hRU_3⟩ := hpU
        refine lv_aload_n hx hb dX10_readClause_28 rfl (lv_at hl 0 rfl) ?_
        refine tf_get hx hb hts inlX10 hown hK (ci := 10) rfl hW ha0 rfl 14 rfl (by decide) (hts _ fl_X10_200) dX10_readClause_29 (fun v320 hv320 hsv320 => ?_)
        obtain rfl : v320 = .int (Int32.ofInt gb1_U) := Option.some.inj (hsv320.symm.trans hXU_0)
        refine tf_if_eq (tgt := 36) hx hb ⟨by omega, by omega⟩ dX10_readClause_32 (by decide) (fun h321 => ?_) (fun h321 => ?_)
        · refine tf_bipush hx hb dX10_readClause_36 (by decide) ?_
          refine lv_aload_n hx hb dX10_readClause_38 rfl (lv_at hl 0 rfl) ?_
          refine tf_get hx hb hts inlX10 hown hK (ci := 10) rfl hW ha0 rfl 15 rfl (by decide) (hts _ fl_X10_317) dX10_readClause_39 (fun v322 hv322 hsv322 => ?_)
          obtain rfl : v322 = .int (Int32.ofInt gk) := Option.some.inj (hsv322.symm.trans hs311)
          refine tf_imul hx hb dX10_readClause_42 ?_
          refine lv_istore_n (lv' := [(1, .int (Int32.ofInt ((8 * gk)))), (0, .ref a0)]) hx hb dX10_readClause_43 rfl hl (by decide) rfl (fun ls hl => ?_)
          refine tf_iconst hx hb dX10_readClause_44 ?_
          refine lv_istore_n (lv' := [(2, .int (Int32.ofInt 0)), (1, .int (Int32.ofInt ((8 * gk)))), (0, .ref a0)]) hx hb dX10_readClause_45 rfl hl (by decide) rfl (fun ls hl => ?_)
          exact j_46 ((8 - 0 + 1 : Int)).toNat ((8 * gk)) ⟨by omega, by omega⟩ (0) ⟨by omega, by omega⟩ rcl (by first | exact fun j _ => rfl | exact fun j hj => by rw [tf_up_ne (by omega)]; exact hRNCL_46 j hj) (gb1_U) ⟨by omega, by omega⟩ (gf1_U) ⟨by omega, by omega⟩ (gt1_U) ⟨by omega, by omega⟩ (gs1_U) ⟨by omega, by omega⟩ (gw1_U) ⟨by omega, by omega⟩ (gx1_U) ⟨by omega, by omega⟩ (by first | assumption | omega) (by first | assumption | omega) (by first | assumption | omega) (by first | assumption | omega) (by first | assumption | omega) (by first | assumption | omega) (by first | assumption | omega) (by first | assumption | omega) (by first | exact hRU_1.resolve_left (by omega) | assumption) (by omega) _ _ hW hs306 hs307 hs308 hs309 hs310 hs311 hs312 hs313 hs314 hs315 hs316 hs317 hs318 hs319 hXU_0 hXU_1 hXU_2 hXU_3 hXU_4 hXU_5 _ (lv_sub hl [2, 1, 0] rfl)
        · exact tf_retv hx hb hr hlocks hQ hW ⟨(gb1_U), (gf1_U), (gt1_U), (gs1_U), (gw1_U), (gc), (gk), (gx1_U), (gl), rop, rar, rcl, hXU_0, hXU_1, hXU_2, hXU_3, hXU_4, hs310, hs311, hXU_5, hs312, hs313, hs314, hs315, ⟨by omega, by omega⟩, ⟨by omega, by omega⟩, ⟨by omega, by omega⟩, ⟨by omega, by omega⟩, ⟨by omega, by omega⟩, ⟨by omega, by omega⟩, ⟨by omega, by omega⟩, ⟨by omega, by omega⟩, ⟨by omega, by omega⟩, (by first | assumption | omega), (by first | assumption | omega), (by first | assumption | omega), (Or.inl (by omega)), (by first | exact tf_CE_no hq5 (hnq.imp id Or.inl) (by omega) (by omega) | exact tf_CE_no hq5 (by omega) (by omega) (by omega)), (by first | assumption | omega)⟩ dX10_readClause_35
  · refine tf_if_eq (tgt := 24) hx hb ⟨by decide, by decide⟩ dX10_readClause_8 (by decide) (fun h323 => ?_) (fun h323 => ?_)
    · refine tf_iconst hx hb dX10_readClause_24 ?_
      refine tf_callv (va_runV (As := [.int (Int32.ofInt 0)]) (rest := []) ⟨hx, hb, hml, hown, hts⟩ (c_X10_must l g T a0 ha0 (0) ⟨by omega, by omega⟩ tm htm (gn) ⟨by omega, by omega⟩ (gf) ⟨by omega, by omega⟩ (gt) ⟨by omega, by omega⟩ (gs) ⟨by omega, by omega⟩ (gw) ⟨by omega, by omega⟩ (gb) ⟨by omega, by omega⟩ (gx) ⟨by omega, by omega⟩ tp (by first | assumption | omega)) (cwV 1 hts gv_X10_235 rfl rfl rfl hd_X10_must ⟨Nat.le_trans (by decide) hR1, Nat.le_trans (by decide) hR2⟩) (tf_preV hk hW ha0 (ci := 10) rfl rfl ⟨hs268, hs269, hs270, hs271, hs272, hs273, hs276, hs281, hs282⟩) rfl rfl hl.1 rfl (lv_room (Nat.le_of_ble_eq_true rfl)) dX10_readClause_25 ⟨Nat.zero_le _, Nat.zero_le _⟩) hW (by decide) (fun HU locsU hW hFU hpU => ?_)
      have hs324 := tf_keepF hFU ha0 rfl rfl (by decide) hs265
      have hs325 := tf_keepF hFU ha0 rfl rfl (by decide) hs266
      have hs326 := tf_keepF hFU ha0 rfl rfl (by decide) hs267
      have hs327 := tf_keepF hFU ha0 rfl rfl (by decide) hs268
      have hs328 := tf_keepF hFU ha0 rfl rfl (by decide) hs274
      have hs329 := tf_keepF hFU ha0 rfl rfl (by decide) hs275
      have hs330 := tf_keepF hFU ha0 rfl rfl (by decide) hs277
      have hs331 := tf_keepC hFU hqop rfl (by decide) hs278
      have hs332 := tf_keepC hFU hqar rfl (by decide) hs279
      have hs333 := tf_keepC hFU hqcl rfl (by decide) hs280
      have hs334 := tf_keepF hFU ha0 rfl rfl (by decide) hs281
      have hs335 := tf_keepC hFU htm rfl (by decide) hs282
      have hs336 := tf_keepF hFU ha0 rfl rfl (by decide) hs283
      have hs337 := tf_keepC hFU hwd rfl (by decide) hs284
      obtain ⟨gb1_U, gf1_U, gt1_U, gs1_U, gw1_U, gx1_U, hXU_0, hXU_1, hXU_2, hXU_3, hXU_4, hXU_5, hBU_0, hBU_1, hBU_2, hBU_3, hBU_4, hBU_5, hRU_0, hRU_1, hRU_2, hRU_3⟩ := hpU
      refine lv_aload_n hx hb dX10_readClause_28 rfl (lv_at hl 0 rfl) ?_
      refine tf_get hx hb hts inlX10 hown hK (ci := 10) rfl hW ha0 rfl 14 rfl (by decide) (hts _ fl_X10_200) dX10_readClause_29 (fun v338 hv338 hsv338 => ?_)
      obtain rfl : v338 = .int (Int32.ofInt gb1_U) := Option.some.inj (hsv338.symm.trans hXU_0)
      refine tf_if_eq (tgt := 36) hx hb ⟨by omega, by omega⟩ dX10_readClause_32 (by decide) (fun h339 => ?_) (fun h339 => ?_)
      · refine tf_bipush hx hb dX10_readClause_36 (by decide) ?_
        refine lv_aload_n hx hb dX10_readClause_38 rfl (lv_at hl 0 rfl) ?_
        refine tf_get hx hb hts inlX10 hown hK (ci := 10) rfl hW ha0 rfl 15 rfl (by decide) (hts _ fl_X10_317) dX10_readClause_39 (fun v340 hv340 hsv340 => ?_)
        obtain rfl : v340 = .int (Int32.ofInt gk) := Option.some.inj (hsv340.symm.trans hs329)
        refine tf_imul hx hb dX10_readClause_42 ?_
        refine lv_istore_n (lv' := [(1, .int (Int32.ofInt ((8 * gk)))), (0, .ref a0)]) hx hb dX10_readClause_43 rfl hl (by decide) rfl (fun ls hl => ?_)
        refine tf_iconst hx hb dX10_readClause_44 ?_
        refine lv_istore_n (lv' := [(2, .int (Int32.ofInt 0)), (1, .int (Int32.ofInt ((8 * gk)))), (0, .ref a0)]) hx hb dX10_readClause_45 rfl hl (by decide) rfl (fun ls hl => ?_)
        exact j_46 ((8 - 0 + 1 : Int)).toNat ((8 * gk)) ⟨by omega, by omega⟩ (0) ⟨by omega, by omega⟩ rcl (by first | exact fun j _ => rfl | exact fun j hj => by rw [tf_up_ne (by omega)]; exact hRNCL_46 j hj) (gb1_U) ⟨by omega, by omega⟩ (gf1_U) ⟨by omega, by omega⟩ (gt1_U) ⟨by omega, by omega⟩ (gs1_U) ⟨by omega, by omega⟩ (gw1_U) ⟨by omega, by omega⟩ (gx1_U) ⟨by omega, by omega⟩ (by first | assumption | omega) (by first | assumption | omega) (by first | assumption | omega) (by first | assumption | omega) (by first | assumption | omega) (by first | assumption | omega) (by first | assumption | omega) (by first | assumption | omega) (by first | exact hRU_1.resolve_left (by omega) | assumption) (by omega) _ _ hW hs324 hs325 hs326 hs327 hs328 hs329 hs330 hs331 hs332 hs333 hs334 hs335 hs336 hs337 hXU_0 hXU_1 hXU_2 hXU_3 hXU_4 hXU_5 _ (lv_sub hl [2, 1, 0] rfl)
      · exact tf_retv hx hb hr hlocks hQ hW ⟨(gb1_U), (gf1_U), (gt1_U), (gs1_U), (gw1_U), (gc), (gk), (gx1_U), (gl), rop, rar, rcl, hXU_0, hXU_1, hXU_2, hXU_3, hXU_4, hs328, hs329, hXU_5, hs330, hs331, hs332, hs333, ⟨by omega, by omega⟩, ⟨by omega, by omega⟩, ⟨by omega, by omega⟩, ⟨by omega, by omega⟩, ⟨by omega, by omega⟩, ⟨by omega, by omega⟩, ⟨by omega, by omega⟩, ⟨by omega, by omega⟩, ⟨by omega, by omega⟩, (by first | assumption | omega), (by first | assumption | omega), (by first | assumption | omega), (Or.inl (by omega)), (by first | exact tf_CE_no hq5 (hnq.imp id Or.inl) (by omega) (by omega) | exact tf_CE_no hq5 (by omega) (by omega) (by omega)), (by first | assumption | omega)⟩ dX10_readClause_35
    · exfalso; omega


abbrev M_X10_behindTest : List (Nat × Nat) := [(46, 0), (47, 0), (48, 0), (49, 0), (63, 9), (63, 10), (63, 11), (63, 12), (63, 13), (63, 14), (63, 17), (63, 23), (63, 24)]
set_option maxHeartbeats 4000000 in
set_option maxRecDepth 100000 in
theorem c_X10_behindTest (l : Launch) (g : tf_G) (T : tf_T) (a0 : Nat) (ha0 : T a0 = some (63, 0)) (fs : Int) (o0 : Int → Int) (u0 : Int → Int) (ss : Int → Int) (pp : Int → Int) (mm : Int) (k9 : Int) (c9 : Int) (S9 : List (Int × Int)) (e9 : Int) (i9 : Int) (qop : Nat) (hqop : T qop = some (46, 400)) (qar : Nat) (hqar : T qar = some (47, 400)) (qpi : Nat) (hqpi : T qpi = some (48, 400)) (qpa : Nat) (hqpa : T qpa = some (49, 400)) (tm : Nat) (htm : T tm = some (44, 400)) (wd : Nat) (hwd : T wd = some (50, 9)) (gn : Int) (hgn : 0 ≤ gn ∧ gn ≤ 400) (gf : Int) (hgf : 0 ≤ gf ∧ gf ≤ 400) (gt : Int) (hgt : 0 ≤ gt ∧ gt ≤ 400) (gs : Int) (hgs : 0 ≤ gs ∧ gs ≤ 3) (gw : Int) (hgw : (-9223372036854775808) ≤ gw ∧ gw ≤ 9223372036854775807) (gb : Int) (hgb : 0 ≤ gb ∧ gb ≤ 1) (gc : Int) (hgc : 0 ≤ gc ∧ gc ≤ 400) (gp : Int) (hgp : 0 ≤ gp ∧ gp ≤ 400) (gx : Int) (hgx : (-2147483648) ≤ gx ∧ gx ≤ 2147483647) (gl : Int) (hgl : 0 ≤ gl ∧ gl ≤ 50) (go : Int) (hgo : 0 ≤ go ∧ go ≤ 8) (rop : Int → Int) (rar : Int → Int) (rpi : Int → Int) (rpa : Int → Int) (tp : Int → Int) (gW : Int → Int) (hq0 : (gb = 0)) (hq1 : (gc + gp ≤ gf)) (hq2 : (gf ≤ gt ∧ gt ≤ gn ∧ (gs = 0 → gf = gn) ∧ (gs ≠ 0 → gf < gt) ∧ (gs = 1 → 26 < gw → gf + 2 ≤ gt))) (hq3 : (tf_PI o0 u0 rop rar rpi rpa fs gc gp 1)) (hq4 : (tf_NS rpi gp)) (hq5 : (tf_CX tp gn ss pp mm gW)) (hq6 : (tf_RR tp gn ss pp mm rpi gf gt gs gw gp go k9 2 c9 S9)) : Met l yX10_behindTest (cd_X10_behindTest :: wsL_law) ({ frames := 4, cells := 0, slots := 0, locals := 85 }) (tf_P g T [.ref a0] (fun H => tf_s H a0 (g.1.2 10 18) = some (.ref qop) ∧ tf_s H a0 (g.1.2 10 19) = some (.ref qar) ∧ tf_s H a0 (g.1.2 10 21) = some (.ref qpi) ∧ tf_s H a0 (g.1.2 10 22) = some (.ref qpa) ∧ tf_s H a0 (g.1.2 10 8) = some (.int (Int32.ofInt gn)) ∧ tf_s H a0 (g.1.2 10 9) = some (.int (Int32.ofInt gf)) ∧ tf_s H a0 (g.1.2 10 10) = some (.int (Int32.ofInt gt)) ∧ tf_s H a0 (g.1.2 10 11) = some (.int (Int32.ofInt gs)) ∧ tf_s H a0 (g.1.2 10 12) = some (.long (Int64.ofInt gw)) ∧ tf_s H a0 (g.1.2 10 14) = some (.int (Int32.ofInt gb)) ∧ tf_s H a0 (g.1.2 10 17) = some (.int (Int32.ofInt gc)) ∧ tf_s H a0 (g.1.2 10 23) = some (.int (Int32.ofInt gp)) ∧ tf_s H a0 (g.1.2 10 13) = some (.int (Int32.ofInt gx)) ∧ tf_s H a0 (g.1.2 10 20) = some (.int (Int32.ofInt gl)) ∧ tf_s H a0 (g.1.2 10 24) = some (.int (Int32.ofInt go)) ∧ tf_rw H qop = rop ∧ tf_rw H qar = rar ∧ tf_rw H qpi = rpi ∧ tf_rw H qpa = rpa ∧ tf_s H a0 (g.1.2 10 7) = some (.ref tm) ∧ tf_rw H tm = tp ∧ tf_s H a0 (g.1.2 10 25) = some (.ref wd) ∧ tf_rw H wd = gW)) (tf_Qi g M_X10_behindTest T (fun z _ H => 0 ≤ z ∧ z ≤ 4 ∧ (∃ (gb1 gf1 gt1 gs1 gw1 gc1 gp1 gx1 gl1 go1 : Int) (rop1 rar1 rpi1 rpa1 : Int → Int) , tf_s H a0 (g.1.2 10 14) = some (.int (Int32.ofInt gb1)) ∧ tf_s H a0 (g.1.2 10 9) = some (.int (Int32.ofInt gf1)) ∧ tf_s H a0 (g.1.2 10 10) = some (.int (Int32.ofInt gt1)) ∧ tf_s H a0 (g.1.2 10 11) = some (.int (Int32.ofInt gs1)) ∧ tf_s H a0 (g.1.2 10 12) = some (.long (Int64.ofInt gw1)) ∧ tf_s H a0 (g.1.2 10 17) = some (.int (Int32.ofInt gc1)) ∧ tf_s H a0 (g.1.2 10 23) = some (.int (Int32.ofInt gp1)) ∧ tf_s H a0 (g.1.2 10 13) = some (.int (Int32.ofInt gx1)) ∧ tf_s H a0 (g.1.2 10 20) = some (.int (Int32.ofInt gl1)) ∧ tf_s H a0 (g.1.2 10 24) = some (.int (Int32.ofInt go1)) ∧ tf_rw H qop = rop1 ∧ tf_rw H qar = rar1 ∧ tf_rw H qpi = rpi1 ∧ tf_rw H qpa = rpa1 ∧ (0 ≤ gb1 ∧ gb1 ≤ 1) ∧ (0 ≤ gf1 ∧ gf1 ≤ 400) ∧ (0 ≤ gt1 ∧ gt1 ≤ 400) ∧ (0 ≤ gs1 ∧ gs1 ≤ 3) ∧ ((-9223372036854775808) ≤ gw1 ∧ gw1 ≤ 9223372036854775807) ∧ (0 ≤ gc1 ∧ gc1 ≤ 400) ∧ (0 ≤ gp1 ∧ gp1 ≤ 400) ∧ ((-2147483648) ≤ gx1 ∧ gx1 ≤ 2147483647) ∧ (0 ≤ gl1 ∧ gl1 ≤ 50) ∧ (0 ≤ go1 ∧ go1 ≤ 8) ∧ (gf1 ≤ gt1 ∧ gt1 ≤ gn ∧ (gs1 = 0 → gf1 = gn) ∧ (gs1 ≠ 0 → gf1 < gt1) ∧ (gs1 = 1 → 26 < gw1 → gf1 + 2 ≤ gt1)) ∧ (gc1 + gp1 ≤ gf1) ∧ (tf_PB rpi1 rpa1 gp1) ∧ (gb1 = 1 ∨ tf_ST z o0 u0 rop1 rar1 rpi1 rpa1 fs gc1 gp1) ∧ (gf < gf1 ∨ (gf1 = gf ∧ (gb1 = 1 ∨ z = 4))) ∧ (tf_ER tp gn ss pp mm (k9, 2, c9, S9, gl, e9, i9) gb1 z gx1 rpi1 gf1 gt1 gs1 gw1 gp1 gl1 go1 e9 i9) ∧ (gb1 = 1 ∨ gx1 = gx)))) 0 0 (fun q => tf_B g ≤ q) := by
  refine Met.ofW (cc := cX10_behindTest) (maxL := 2) (ret := (some .int)) (by decide) rfl ?_
  intro p e s m args below meth c s₁ B hml hv
  obtain ⟨hargs, hk, hW0, hB, hpre⟩ := hv
  obtain ⟨he0, he1, he2, he3, he4, he5, he6, he7, he8, he9, he10, he11, he12, he13, he14, he15, he16, he17, he18, he19, he20, he21, he22⟩ := hpre
  have hx := B.exec
  have hb := B.bytes
  have hr := B.returns
  have hts : ∀ w ∈ wsL_law, w.before args s = true := fun w h => atoms_spec (ws := cd_X10_behindTest :: wsL_law) B.pre w (List.mem_cons_of_mem _ h)
  have hown : s.vm.findClass RX10 = some m.cls := findClass_of_methodNamed B.named
  have hlocks := B.notSynchronized
  have hK := hk.1
  have hW := tf_n.start (M := M_X10_behindTest) hW0 hB
  obtain ⟨Q, hQ⟩ : ∃ q, q = MQ below (tf_Qi g M_X10_behindTest T (fun z _ H => 0 ≤ z ∧ z ≤ 4 ∧ (∃ (gb1 gf1 gt1 gs1 gw1 gc1 gp1 gx1 gl1 go1 : Int) (rop1 rar1 rpi1 rpa1 : Int → Int) , tf_s H a0 (g.1.2 10 14) = some (.int (Int32.ofInt gb1)) ∧ tf_s H a0 (g.1.2 10 9) = some (.int (Int32.ofInt gf1)) ∧ tf_s H a0 (g.1.2 10 10) = some (.int (Int32.ofInt gt1)) ∧ tf_s H a0 (g.1.2 10 11) = some (.int (Int32.ofInt gs1)) ∧ tf_s H a0 (g.1.2 10 12) = some (.long (Int64.ofInt gw1)) ∧ tf_s H a0 (g.1.2 10 17) = some (.int (Int32.ofInt gc1)) ∧ tf_s H a0 (g.1.2 10 23) = some (.int (Int32.ofInt gp1)) ∧ tf_s H a0 (g.1.2 10 13) = some (.int (Int32.ofInt gx1)) ∧ tf_s H a0 (g.1.2 10 20) = some (.int (Int32.ofInt gl1)) ∧ tf_s H a0 (g.1.2 10 24) = some (.int (Int32.ofInt go1)) ∧ tf_rw H qop = rop1 ∧ tf_rw H qar = rar1 ∧ tf_rw H qpi = rpi1 ∧ tf_rw H qpa = rpa1 ∧ (0 ≤ gb1 ∧ gb1 ≤ 1) ∧ (0 ≤ gf1 ∧ gf1 ≤ 400) ∧ (0 ≤ gt1 ∧ gt1 ≤ 400) ∧ (0 ≤ gs1 ∧ gs1 ≤ 3) ∧ ((-9223372036854775808) ≤ gw1 ∧ gw1 ≤ 9223372036854775807) ∧ (0 ≤ gc1 ∧ gc1 ≤ 400) ∧ (0 ≤ gp1 ∧ gp1 ≤ 400) ∧ ((-2147483648) ≤ gx1 ∧ gx1 ≤ 2147483647) ∧ (0 ≤ gl1 ∧ gl1 ≤ 50) ∧ (0 ≤ go1 ∧ go1 ≤ 8) ∧ (gf1 ≤ gt1 ∧ gt1 ≤ gn ∧ (gs1 = 0 → gf1 = gn) ∧ (gs1 ≠ 0 → gf1 < gt1) ∧ (gs1 = 1 → 26 < gw1 → gf1 + 2 ≤ gt1)) ∧ (gc1 + gp1 ≤ gf1) ∧ (tf_PB rpi1 rpa1 gp1) ∧ (gb1 = 1 ∨ tf_ST z o0 u0 rop1 rar1 rpi1 rpa1 fs gc1 gp1) ∧ (gf < gf1 ∨ (gf1 = gf ∧ (gb1 = 1 ∨ z = 4))) ∧ (tf_ER tp gn ss pp mm (k9, 2, c9, S9, gl, e9, i9) gb1 z gx1 rpi1 gf1 gt1 gs1 gw1 gp1 gl1 go1 e9 i9) ∧ (gb1 = 1 ∨ gx1 = gx)))) args s 0 0 (fun q => tf_B g ≤ q) := ⟨_, rfl⟩
  rw [← hQ]
  obtain ⟨R, hR⟩ : ∃ q, q = (headSpec (cd_X10_behindTest :: wsL_law) ({ frames := 4, cells := 0, slots := 0, locals := 85 })).room := ⟨_, rfl⟩
  rw [← hR]
  have hR1 : 4 ≤ R.frames := by rw [hR]; exact Nat.le_refl _
  have hR2 : 85 ≤ R.locals := by rw [hR]; exact Nat.le_refl _
  have hR3 : 0 ≤ R.cells := by rw [hR]; exact Nat.le_refl _
  have hR4 : 0 ≤ R.slots := by rw [hR]; exact Nat.le_refl _
  have hin := (name_of_methodNamed B.named B.method).1
  clear hR B
  refine tf_enter (As := [.ref a0]) hargs (Nat.le_of_ble_eq_true rfl) (fun ls hl => ?_)
  have hl : lv_has ls 2 [(0, .ref a0)] := hl
  refine lv_aload_n hx hb dX10_behindTest_0 rfl (lv_at hl 0 rfl) ?_
  refine tf_ldc2 (z := 1476) hx hb hown (hts _ kl_X10_301) (by decide) dX10_behindTest_1 ?_
  refine tf_calli (va_runV (As := [.long (Int64.ofInt 1476)]) (rest := []) ⟨hx, hb, hml, hown, hts⟩ (c_X10_isWord l g T a0 ha0 (1476) ⟨by omega, by omega⟩ (gs) ⟨by omega, by omega⟩ (gw) ⟨by omega, by omega⟩) (cwV 1 hts gv_X10_258 rfl rfl rfl hd_X10_isWord ⟨Nat.le_trans (by decide) hR1, Nat.le_trans (by decide) hR2⟩) (tf_preV hk hW ha0 (ci := 10) rfl rfl ⟨he7, he8⟩) rfl rfl hl.1 rfl (lv_room (Nat.le_of_ble_eq_true rfl)) dX10_behindTest_4 ⟨Nat.zero_le _, Nat.zero_le _⟩) hW (by decide) (fun z1 H1 locs1 hW hF1 hp1 => ?_)
  have hs2 := tf_keepF hF1 ha0 rfl rfl (by decide) he0
  have hs3 := tf_keepF hF1 ha0 rfl rfl (by decide) he1
  have hs4 := tf_keepF hF1 ha0 rfl rfl (by decide) he2
  have hs5 := tf_keepF hF1 ha0 rfl rfl (by decide) he3
  have hs6 := tf_keepF hF1 ha0 rfl rfl (by decide) he4
  have hs7 := tf_keepF hF1 ha0 rfl rfl (by decide) he5
  have hs8 := tf_keepF hF1 ha0 rfl rfl (by decide) he6
  have hs9 := tf_keepF hF1 ha0 rfl rfl (by decide) he7
  have hs10 := tf_keepF hF1 ha0 rfl rfl (by decide) he8
  have hs11 := tf_keepF hF1 ha0 rfl rfl (by decide) he9
  have hs12 := tf_keepF hF1 ha0 rfl rfl (by decide) he10
  have hs13 := tf_keepF hF1 ha0 rfl rfl (by decide) he11
  have hs14 := tf_keepF hF1 ha0 rfl rfl (by decide) he12
  have hs15 := tf_keepF hF1 ha0 rfl rfl (by decide) he13
  have hs16 := tf_keepF hF1 ha0 rfl rfl (by decide) he14
  have hs17 := tf_keepC hF1 hqop rfl (by decide) he15
  have hs18 := tf_keepC hF1 hqar rfl (by decide) he16
  have hs19 := tf_keepC hF1 hqpi rfl (by decide) he17
  have hs20 := tf_keepC hF1 hqpa rfl (by decide) he18
  have hs21 := tf_keepF hF1 ha0 rfl rfl (by decide) he19
  have hs22 := tf_keepC hF1 htm rfl (by decide) he20
  have hs23 := tf_keepF hF1 ha0 rfl rfl (by decide) he21
  have hs24 := tf_keepC hF1 hwd rfl (by decide) he22
  rcases hp1 with ⟨rfl, h25⟩ | ⟨rfl, hnA⟩
  · refine lv_istore_n (lv' := [(1, .int (Int32.ofInt 1)), (0, .ref a0)]) hx hb dX10_behindTest_7 rfl hl (by decide) rfl (fun ls hl => ?_)
    refine lv_iload_n hx hb dX10_behindTest_8 rfl (lv_at hl 0 rfl) ?_
    refine tf_if_ne (tgt := 22) hx hb ⟨by decide, by decide⟩ dX10_behindTest_9 (by decide) (fun h26 => ?_) (fun h26 => ?_)
    · refine lv_aload_n hx hb dX10_behindTest_22 rfl (lv_at hl 1 rfl) ?_
      refine lv_iload_n hx hb dX10_behindTest_23 rfl (lv_at hl 0 rfl) ?_
      refine tf_if_eq (tgt := 31) hx hb ⟨by decide, by decide⟩ dX10_behindTest_24 (by decide) (fun h27 => ?_) (fun h27 => ?_)
      · exfalso; omega
      · refine tf_iconst hx hb dX10_behindTest_27 ?_
        refine lv_goto (tgt := 32) hx hb dX10_behindTest_28 (by decide) ?_
        refine tf_callv (va_runV (As := [.int (Int32.ofInt 2)]) (rest := []) ⟨hx, hb, hml, hown, hts⟩ (c_X10_settle l g T a0 ha0 (2) ⟨by omega, by omega⟩ qop hqop qar hqar qpi hqpi qpa hqpa (gc) ⟨by omega, by omega⟩ (gp) ⟨by omega, by omega⟩ rop rar rpi rpa (by first | assumption | omega) (tf_PI_PB hq3 (by omega))) (cwV 1 hts gv_X10_291 rfl rfl rfl hd_X10_settle ⟨Nat.le_trans (by decide) hR1, Nat.le_trans (by decide) hR2⟩) (tf_preV hk hW ha0 (ci := 10) rfl rfl ⟨hs2, hs3, hs4, hs5, hs12, hs13, hs17, hs18, hs19, hs20⟩) rfl rfl hl.1 rfl (lv_room (Nat.le_of_ble_eq_true rfl)) dX10_behindTest_32 ⟨Nat.zero_le _, Nat.zero_le _⟩) hW (by decide) (fun HS locsS hW hFS hpS => ?_)
        have hs28 := tf_keepF hFS ha0 rfl rfl (by decide) hs2
        have hs29 := tf_keepF hFS ha0 rfl rfl (by decide) hs3
        have hs30 := tf_keepF hFS ha0 rfl rfl (by decide) hs4
        have hs31 := tf_keepF hFS ha0 rfl rfl (by decide) hs5
        have hs32 := tf_keepF hFS ha0 rfl rfl (by decide) hs6
        have hs33 := tf_keepF hFS ha0 rfl rfl (by decide) hs7
        have hs34 := tf_keepF hFS ha0 rfl rfl (by decide) hs8
        have hs35 := tf_keepF hFS ha0 rfl rfl (by decide) hs9
        have hs36 := tf_keepF hFS ha0 rfl rfl (by decide) hs10
        have hs37 := tf_keepF hFS ha0 rfl rfl (by decide) hs11
        have hs38 := tf_keepF hFS ha0 rfl rfl (by decide) hs14
        have hs39 := tf_keepF hFS ha0 rfl rfl (by decide) hs15
        have hs40 := tf_keepF hFS ha0 rfl rfl (by decide) hs16
        have hs41 := tf_keepC hFS hqpi rfl (by decide) hs19
        have hs42 := tf_keepC hFS hqpa rfl (by decide) hs20
        have hs43 := tf_keepF hFS ha0 rfl rfl (by decide) hs21
        have hs44 := tf_keepC hFS htm rfl (by decide) hs22
        have hs45 := tf_keepF hFS ha0 rfl rfl (by decide) hs23
        have hs46 := tf_keepC hFS hwd rfl (by decide) hs24
        obtain ⟨gc1_S, gp1_S, rop1_S, rar1_S, hXS_0, hXS_1, hXS_2, hXS_3, hBS_0, hBS_1, hRS_0, hRS_1, hRS_2, hRS_3, hRS_4, hRS_5, hRS_6⟩ := hpS
        refine lv_aload_n hx hb dX10_behindTest_35 rfl (lv_at hl 1 rfl) ?_
        refine lv_iload_n hx hb dX10_behindTest_36 rfl (lv_at hl 0 rfl) ?_
        refine tf_if_eq (tgt := 45) hx hb ⟨by decide, by decide⟩ dX10_behindTest_37 (by decide) (fun h47 => ?_) (fun h47 => ?_)
        · exfalso; omega
        · refine tf_bipush hx hb dX10_behindTest_40 (by decide) ?_
          refine lv_goto (tgt := 47) hx hb dX10_behindTest_42 (by decide) ?_
          refine lv_aload_n hx hb dX10_behindTest_47 rfl (lv_at hl 1 rfl) ?_
          refine tf_get hx hb hts inlX10 hown hK (ci := 10) rfl hW ha0 rfl 17 rfl (by decide) (hts _ fl_X10_239) dX10_behindTest_48 (fun v48 hv48 hsv48 => ?_)
          obtain rfl : v48 = .int (Int32.ofInt gc1_S) := Option.some.inj (hsv48.symm.trans hXS_0)
          refine tf_callv (va_runV (As := [.int (Int32.ofInt 28), .int (Int32.ofInt gc1_S)]) (rest := []) ⟨hx, hb, hml, hown, hts⟩ (c_X10_push l g T a0 ha0 (28) ⟨by omega, by omega⟩ (gc1_S) ⟨by omega, by omega⟩ qpi hqpi qpa hqpa (gp1_S) ⟨by omega, by omega⟩ rpi rpa) (cwV 2 hts gv_X10_265 rfl rfl rfl hd_X10_push ⟨Nat.le_trans (by decide) hR1, Nat.le_trans (by decide) hR2⟩) (tf_preV hk hW ha0 (ci := 10) rfl rfl ⟨hs30, hs31, hXS_1, hs41, hs42⟩) rfl rfl hl.1 rfl (lv_room (Nat.le_of_ble_eq_true rfl)) dX10_behindTest_51 ⟨Nat.zero_le _, Nat.zero_le _⟩) hW (by decide) (fun H49 locs49 hW hF49 hp49 => ?_)
          have hs50 := tf_keepF hF49 ha0 rfl rfl (by decide) hs28
          have hs51 := tf_keepF hF49 ha0 rfl rfl (by decide) hs29
          have hs52 := tf_keepF hF49 ha0 rfl rfl (by decide) hs30
          have hs53 := tf_keepF hF49 ha0 rfl rfl (by decide) hs31
          have hs54 := tf_keepF hF49 ha0 rfl rfl (by decide) hs32
          have hs55 := tf_keepF hF49 ha0 rfl rfl (by decide) hs33
          have hs56 := tf_keepF hF49 ha0 rfl rfl (by decide) hs34
          have hs57 := tf_keepF hF49 ha0 rfl rfl (by decide) hs35
          have hs58 := tf_keepF hF49 ha0 rfl rfl (by decide) hs36
          have hs59 := tf_keepF hF49 ha0 rfl rfl (by decide) hs37
          have hs60 := tf_keepF hF49 ha0 rfl rfl (by decide) hs38
          have hs61 := tf_keepF hF49 ha0 rfl rfl (by decide) hs39
          have hs62 := tf_keepF hF49 ha0 rfl rfl (by decide) hs40
          have hs63 := tf_keepF hF49 ha0 rfl rfl (by decide) hs43
          have hs64 := tf_keepC hF49 htm rfl (by decide) hs44
          have hs65 := tf_keepF hF49 ha0 rfl rfl (by decide) hs45
          have hs66 := tf_keepC hF49 hwd rfl (by decide) hs46
          have hs67 := tf_keepF hF49 ha0 rfl rfl (by decide) hXS_0
          have hs68 := tf_keepC hF49 hqop rfl (by decide) hXS_2
          have hs69 := tf_keepC hF49 hqar rfl (by decide) hXS_3
          obtain ⟨ho49_0, ho49_1, ho49_2⟩ := hp49
          refine lv_aload_n hx hb dX10_behindTest_54 rfl (lv_at hl 1 rfl) ?_
          refine lv_iload_n hx hb dX10_behindTest_55 rfl (lv_at hl 0 rfl) ?_
          refine tf_if_eq (tgt := 64) hx hb ⟨by decide, by decide⟩ dX10_behindTest_56 (by decide) (fun h70 => ?_) (fun h70 => ?_)
          · exfalso; omega
          · refine tf_bipush hx hb dX10_behindTest_59 (by decide) ?_
            refine lv_goto (tgt := 66) hx hb dX10_behindTest_61 (by decide) ?_
            refine tf_iconst hx hb dX10_behindTest_66 ?_
            refine tf_callv (va_runV (As := [.int (Int32.ofInt 28), .int (Int32.ofInt 0)]) (rest := []) ⟨hx, hb, hml, hown, hts⟩ (c_X10_emit l g T a0 ha0 (28) ⟨by omega, by omega⟩ (0) ⟨by omega, by omega⟩ qop hqop qar hqar (gc1_S) ⟨by omega, by omega⟩ rop1_S rar1_S) (cwV 2 hts gv_X10_248 rfl rfl rfl hd_X10_emit ⟨Nat.le_trans (by decide) hR1, Nat.le_trans (by decide) hR2⟩) (tf_preV hk hW ha0 (ci := 10) rfl rfl ⟨hs50, hs51, hs67, hs68, hs69⟩) rfl rfl hl.1 rfl (lv_room (Nat.le_of_ble_eq_true rfl)) dX10_behindTest_67 ⟨Nat.zero_le _, Nat.zero_le _⟩) hW (by decide) (fun H71 locs71 hW hF71 hp71 => ?_)
            have hs72 := tf_keepF hF71 ha0 rfl rfl (by decide) hs50
            have hs73 := tf_keepF hF71 ha0 rfl rfl (by decide) hs51
            have hs74 := tf_keepF hF71 ha0 rfl rfl (by decide) hs52
            have hs75 := tf_keepF hF71 ha0 rfl rfl (by decide) hs53
            have hs76 := tf_keepF hF71 ha0 rfl rfl (by decide) hs54
            have hs77 := tf_keepF hF71 ha0 rfl rfl (by decide) hs55
            have hs78 := tf_keepF hF71 ha0 rfl rfl (by decide) hs56
            have hs79 := tf_keepF hF71 ha0 rfl rfl (by decide) hs57
            have hs80 := tf_keepF hF71 ha0 rfl rfl (by decide) hs58
            have hs81 := tf_keepF hF71 ha0 rfl rfl (by decide) hs59
            have hs82 := tf_keepF hF71 ha0 rfl rfl (by decide) hs60
            have hs83 := tf_keepF hF71 ha0 rfl rfl (by decide) hs61
            have hs84 := tf_keepF hF71 ha0 rfl rfl (by decide) hs62
            have hs85 := tf_keepF hF71 ha0 rfl rfl (by decide) hs63
            have hs86 := tf_keepC hF71 htm rfl (by decide) hs64
            have hs87 := tf_keepF hF71 ha0 rfl rfl (by decide) hs65
            have hs88 := tf_keepC hF71 hwd rfl (by decide) hs66
            have hs89 := tf_keepF hF71 ha0 rfl rfl (by decide) ho49_0
            have hs90 := tf_keepC hF71 hqpi rfl (by decide) ho49_1
            have hs91 := tf_keepC hF71 hqpa rfl (by decide) ho49_2
            obtain ⟨ho71_0, ho71_1, ho71_2⟩ := hp71
            refine lv_aload_n hx hb dX10_behindTest_70 rfl (lv_at hl 1 rfl) ?_
            refine tf_callv (va_runV (As := []) (rest := []) ⟨hx, hb, hml, hown, hts⟩ (c_X10_next l g T a0 ha0 tm htm (gn) ⟨by omega, by omega⟩ (gt) ⟨by omega, by omega⟩ tp (by first | assumption | omega)) (cwV 0 hts gv_X10_204 rfl rfl rfl hd_X10_next ⟨Nat.le_trans (by decide) hR1, Nat.le_trans (by decide) hR2⟩) (tf_preV hk hW ha0 (ci := 10) rfl rfl ⟨hs76, hs78, hs85, hs86⟩) rfl rfl hl.1 rfl (lv_room (Nat.le_of_ble_eq_true rfl)) dX10_behindTest_71 ⟨Nat.zero_le _, Nat.zero_le _⟩) hW (by decide) (fun HN locsN hW hFN hpN => ?_)
            have hs92 := tf_keepF hFN ha0 rfl rfl (by decide) hs72
            have hs93 := tf_keepF hFN ha0 rfl rfl (by decide) hs73
            have hs94 := tf_keepF hFN ha0 rfl rfl (by decide) hs74
            have hs95 := tf_keepF hFN ha0 rfl rfl (by decide) hs75
            have hs96 := tf_keepF hFN ha0 rfl rfl (by decide) hs76
            have hs97 := tf_keepF hFN ha0 rfl rfl (by decide) hs81
            have hs98 := tf_keepF hFN ha0 rfl rfl (by decide) hs82
            have hs99 := tf_keepF hFN ha0 rfl rfl (by decide) hs83
            have hs100 := tf_keepF hFN ha0 rfl rfl (by decide) hs84
            have hs101 := tf_keepF hFN ha0 rfl rfl (by decide) hs85
            have hs102 := tf_keepC hFN htm rfl (by decide) hs86
            have hs103 := tf_keepF hFN ha0 rfl rfl (by decide) hs87
            have hs104 := tf_keepC hFN hwd rfl (by decide) hs88
            have hs105 := tf_keepF hFN ha0 rfl rfl (by decide) hs89
            have hs106 := tf_keepC hFN hqpi rfl (by decide) hs90
            have hs107 := tf_keepC hFN hqpa rfl (by decide) hs91
            have hs108 := tf_keepF hFN ha0 rfl rfl (by decide) ho71_0
            have hs109 := tf_keepC hFN hqop rfl (by decide) ho71_1
            have hs110 := tf_keepC hFN hqar rfl (by decide) ho71_2
            obtain ⟨gf1_N, gt1_N, gs1_N, gw1_N, hXN_0, hXN_1, hXN_2, hXN_3, hBN_0, hBN_1, hBN_2, hBN_3, hRN_0, hRN_1, hRN_2⟩ := hpN
            refine tf_iconst hx hb dX10_behindTest_74 ?_
            exact tf_reti (z := 0) hx hb hr hlocks hQ hW ⟨by omega, by omega, ⟨(gb), (gf1_N), (gt1_N), (gs1_N), (gw1_N), ((gc1_S + 1)), ((gp1_S + 1)), (gx), (gl), (go), (tf_up (rop1_S) (gc1_S) (28)), (tf_up (rar1_S) (gc1_S) (0)), (tf_up (rpi) (gp1_S) (28)), (tf_up (rpa) (gp1_S) (gc1_S)), hs97, hXN_0, hXN_1, hXN_2, hXN_3, hs108, hs105, hs98, hs99, hs100, hs109, hs110, hs106, hs107, ⟨by omega, by omega⟩, ⟨by omega, by omega⟩, ⟨by omega, by omega⟩, ⟨by omega, by omega⟩, ⟨by omega, by omega⟩, ⟨by omega, by omega⟩, ⟨by omega, by omega⟩, ⟨by omega, by omega⟩, ⟨by omega, by omega⟩, ⟨by omega, by omega⟩, (by first | assumption | omega), (by first | assumption | omega), (tf_PI_PB (tf_PI_and (hRS_5 o0 u0 fs hq3) (by omega) (by omega)) (by omega)), (Or.inr (tf_ST0 (tf_PI_and (hRS_5 o0 u0 fs hq3) (by omega) (by omega)) (tf_NS_push (tf_NS_mono hq4 (by omega)) (by omega)))), (by first | assumption | omega), (tf_er_and hq5 hq6 (by omega) (by omega) (by omega) hRS_4 (by omega) (by omega) hRN_2), (by first | assumption | omega)⟩⟩ dX10_behindTest_75
    · exfalso; omega
  · refine lv_istore_n (lv' := [(1, .int (Int32.ofInt 0)), (0, .ref a0)]) hx hb dX10_behindTest_7 rfl hl (by decide) rfl (fun ls hl => ?_)
    refine lv_iload_n hx hb dX10_behindTest_8 rfl (lv_at hl 0 rfl) ?_
    refine tf_if_ne (tgt := 22) hx hb ⟨by decide, by decide⟩ dX10_behindTest_9 (by decide) (fun h111 => ?_) (fun h111 => ?_)
    · exfalso; omega
    · refine lv_aload_n hx hb dX10_behindTest_12 rfl (lv_at hl 1 rfl) ?_
      refine tf_ldc2 (z := 498) hx hb hown (hts _ kl_X10_303) (by decide) dX10_behindTest_13 ?_
      refine tf_calli (va_runV (As := [.long (Int64.ofInt 498)]) (rest := []) ⟨hx, hb, hml, hown, hts⟩ (c_X10_isWord l g T a0 ha0 (498) ⟨by omega, by omega⟩ (gs) ⟨by omega, by omega⟩ (gw) ⟨by omega, by omega⟩) (cwV 1 hts gv_X10_258 rfl rfl rfl hd_X10_isWord ⟨Nat.le_trans (by decide) hR1, Nat.le_trans (by decide) hR2⟩) (tf_preV hk hW ha0 (ci := 10) rfl rfl ⟨hs9, hs10⟩) rfl rfl hl.1 rfl (lv_room (Nat.le_of_ble_eq_true rfl)) dX10_behindTest_16 ⟨Nat.zero_le _, Nat.zero_le _⟩) hW (by decide) (fun z112 H112 locs112 hW hF112 hp112 => ?_)
      have hs113 := tf_keepF hF112 ha0 rfl rfl (by decide) hs2
      have hs114 := tf_keepF hF112 ha0 rfl rfl (by decide) hs3
      have hs115 := tf_keepF hF112 ha0 rfl rfl (by decide) hs4
      have hs116 := tf_keepF hF112 ha0 rfl rfl (by decide) hs5
      have hs117 := tf_keepF hF112 ha0 rfl rfl (by decide) hs6
      have hs118 := tf_keepF hF112 ha0 rfl rfl (by decide) hs7
      have hs119 := tf_keepF hF112 ha0 rfl rfl (by decide) hs8
      have hs120 := tf_keepF hF112 ha0 rfl rfl (by decide) hs9
      have hs121 := tf_keepF hF112 ha0 rfl rfl (by decide) hs10
      have hs122 := tf_keepF hF112 ha0 rfl rfl (by decide) hs11
      have hs123 := tf_keepF hF112 ha0 rfl rfl (by decide) hs12
      have hs124 := tf_keepF hF112 ha0 rfl rfl (by decide) hs13
      have hs125 := tf_keepF hF112 ha0 rfl rfl (by decide) hs14
      have hs126 := tf_keepF hF112 ha0 rfl rfl (by decide) hs15
      have hs127 := tf_keepF hF112 ha0 rfl rfl (by decide) hs16
      have hs128 := tf_keepC hF112 hqop rfl (by decide) hs17
      have hs129 := tf_keepC hF112 hqar rfl (by decide) hs18
      have hs130 := tf_keepC hF112 hqpi rfl (by decide) hs19
      have hs131 := tf_keepC hF112 hqpa rfl (by decide) hs20
      have hs132 := tf_keepF hF112 ha0 rfl rfl (by decide) hs21
      have hs133 := tf_keepC hF112 htm rfl (by decide) hs22
      have hs134 := tf_keepF hF112 ha0 rfl rfl (by decide) hs23
      have hs135 := tf_keepC hF112 hwd rfl (by decide) hs24
      rcases hp112 with ⟨rfl, h136⟩ | ⟨rfl, hnO⟩
      · refine tf_if_eq (tgt := 76) hx hb ⟨by decide, by decide⟩ dX10_behindTest_19 (by decide) (fun h137 => ?_) (fun h137 => ?_)
        · exfalso; omega
        · refine lv_aload_n hx hb dX10_behindTest_22 rfl (lv_at hl 1 rfl) ?_
          refine lv_iload_n hx hb dX10_behindTest_23 rfl (lv_at hl 0 rfl) ?_
          refine tf_if_eq (tgt := 31) hx hb ⟨by decide, by decide⟩ dX10_behindTest_24 (by decide) (fun h138 => ?_) (fun h138 => ?_)
          · refine tf_iconst hx hb dX10_behindTest_31 ?_
            refine tf_callv (va_runV (As := [.int (Int32.ofInt 1)]) (rest := []) ⟨hx, hb, hml, hown, hts⟩ (c_X10_settle l g T a0 ha0 (1) ⟨by omega, by omega⟩ qop hqop qar hqar qpi hqpi qpa hqpa (gc) ⟨by omega, by omega⟩ (gp) ⟨by omega, by omega⟩ rop rar rpi rpa (by first | assumption | omega) (tf_PI_PB hq3 (by omega))) (cwV 1 hts gv_X10_291 rfl rfl rfl hd_X10_settle ⟨Nat.le_trans (by decide) hR1, Nat.le_trans (by decide) hR2⟩) (tf_preV hk hW ha0 (ci := 10) rfl rfl ⟨hs113, hs114, hs115, hs116, hs123, hs124, hs128, hs129, hs130, hs131⟩) rfl rfl hl.1 rfl (lv_room (Nat.le_of_ble_eq_true rfl)) dX10_behindTest_32 ⟨Nat.zero_le _, Nat.zero_le _⟩) hW (by decide) (fun HS locsS hW hFS hpS => ?_)
            have hs139 := tf_keepF hFS ha0 rfl rfl (by decide) hs113
            have hs140 := tf_keepF hFS ha0 rfl rfl (by decide) hs114
            have hs141 := tf_keepF hFS ha0 rfl rfl (by decide) hs115
            have hs142 := tf_keepF hFS ha0 rfl rfl (by decide) hs116
            have hs143 := tf_keepF hFS ha0 rfl rfl (by decide) hs117
            have hs144 := tf_keepF hFS ha0 rfl rfl (by decide) hs118
            have hs145 := tf_keepF hFS ha0 rfl rfl (by decide) hs119
            have hs146 := tf_keepF hFS ha0 rfl rfl (by decide) hs120
            have hs147 := tf_keepF hFS ha0 rfl rfl (by decide) hs121
            have hs148 := tf_keepF hFS ha0 rfl rfl (by decide) hs122
            have hs149 := tf_keepF hFS ha0 rfl rfl (by decide) hs125
            have hs150 := tf_keepF hFS ha0 rfl rfl (by decide) hs126
            have hs151 := tf_keepF hFS ha0 rfl rfl (by decide) hs127
            have hs152 := tf_keepC hFS hqpi rfl (by decide) hs130
            have hs153 := tf_keepC hFS hqpa rfl (by decide) hs131
            have hs154 := tf_keepF hFS ha0 rfl rfl (by decide) hs132
            have hs155 := tf_keepC hFS htm rfl (by decide) hs133
            have hs156 := tf_keepF hFS ha0 rfl rfl (by decide) hs134
            have hs157 := tf_keepC hFS hwd rfl (by decide) hs135
            obtain ⟨gc1_S, gp1_S, rop1_S, rar1_S, hXS_0, hXS_1, hXS_2, hXS_3, hBS_0, hBS_1, hRS_0, hRS_1, hRS_2, hRS_3, hRS_4, hRS_5, hRS_6⟩ := hpS
            refine lv_aload_n hx hb dX10_behindTest_35 rfl (lv_at hl 1 rfl) ?_
            refine lv_iload_n hx hb dX10_behindTest_36 rfl (lv_at hl 0 rfl) ?_
            refine tf_if_eq (tgt := 45) hx hb ⟨by decide, by decide⟩ dX10_behindTest_37 (by decide) (fun h158 => ?_) (fun h158 => ?_)
            · refine tf_bipush hx hb dX10_behindTest_45 (by decide) ?_
              refine lv_aload_n hx hb dX10_behindTest_47 rfl (lv_at hl 1 rfl) ?_
              refine tf_get hx hb hts inlX10 hown hK (ci := 10) rfl hW ha0 rfl 17 rfl (by decide) (hts _ fl_X10_239) dX10_behindTest_48 (fun v159 hv159 hsv159 => ?_)
              obtain rfl : v159 = .int (Int32.ofInt gc1_S) := Option.some.inj (hsv159.symm.trans hXS_0)
              refine tf_callv (va_runV (As := [.int (Int32.ofInt 29), .int (Int32.ofInt gc1_S)]) (rest := []) ⟨hx, hb, hml, hown, hts⟩ (c_X10_push l g T a0 ha0 (29) ⟨by omega, by omega⟩ (gc1_S) ⟨by omega, by omega⟩ qpi hqpi qpa hqpa (gp1_S) ⟨by omega, by omega⟩ rpi rpa) (cwV 2 hts gv_X10_265 rfl rfl rfl hd_X10_push ⟨Nat.le_trans (by decide) hR1, Nat.le_trans (by decide) hR2⟩) (tf_preV hk hW ha0 (ci := 10) rfl rfl ⟨hs141, hs142, hXS_1, hs152, hs153⟩) rfl rfl hl.1 rfl (lv_room (Nat.le_of_ble_eq_true rfl)) dX10_behindTest_51 ⟨Nat.zero_le _, Nat.zero_le _⟩) hW (by decide) (fun H160 locs160 hW hF160 hp160 => ?_)
              have hs161 := tf_keepF hF160 ha0 rfl rfl (by decide) hs139
              have hs162 := tf_keepF hF160 ha0 rfl rfl (by decide) hs140
              have hs163 := tf_keepF hF160 ha0 rfl rfl (by decide) hs141
              have hs164 := tf_keepF hF160 ha0 rfl rfl (by decide) hs142
              have hs165 := tf_keepF hF160 ha0 rfl rfl (by decide) hs143
              have hs166 := tf_keepF hF160 ha0 rfl rfl (by decide) hs144
              have hs167 := tf_keepF hF160 ha0 rfl rfl (by decide) hs145
              have hs168 := tf_keepF hF160 ha0 rfl rfl (by decide) hs146
              have hs169 := tf_keepF hF160 ha0 rfl rfl (by decide) hs147
              have hs170 := tf_keepF hF160 ha0 rfl rfl (by decide) hs148
              have hs171 := tf_keepF hF160 ha0 rfl rfl (by decide) hs149
              have hs172 := tf_keepF hF160 ha0 rfl rfl (by decide) hs150
              have hs173 := tf_keepF hF160 ha0 rfl rfl (by decide) hs151
              have hs174 := tf_keepF hF160 ha0 rfl rfl (by decide) hs154
              have hs175 := tf_keepC hF160 htm rfl (by decide) hs155
              have hs176 := tf_keepF hF160 ha0 rfl rfl (by decide) hs156
              have hs177 := tf_keepC hF160 hwd rfl (by decide) hs157
              have hs178 := tf_keepF hF160 ha0 rfl rfl (by decide) hXS_0
              have hs179 := tf_keepC hF160 hqop rfl (by decide) hXS_2
              have hs180 := tf_keepC hF160 hqar rfl (by decide) hXS_3
              obtain ⟨ho160_0, ho160_1, ho160_2⟩ := hp160
              refine lv_aload_n hx hb dX10_behindTest_54 rfl (lv_at hl 1 rfl) ?_
              refine lv_iload_n hx hb dX10_behindTest_55 rfl (lv_at hl 0 rfl) ?_
              refine tf_if_eq (tgt := 64) hx hb ⟨by decide, by decide⟩ dX10_behindTest_56 (by decide) (fun h181 => ?_) (fun h181 => ?_)
              · refine tf_bipush hx hb dX10_behindTest_64 (by decide) ?_
                refine tf_iconst hx hb dX10_behindTest_66 ?_
                refine tf_callv (va_runV (As := [.int (Int32.ofInt 29), .int (Int32.ofInt 0)]) (rest := []) ⟨hx, hb, hml, hown, hts⟩ (c_X10_emit l g T a0 ha0 (29) ⟨by omega, by omega⟩ (0) ⟨by omega, by omega⟩ qop hqop qar hqar (gc1_S) ⟨by omega, by omega⟩ rop1_S rar1_S) (cwV 2 hts gv_X10_248 rfl rfl rfl hd_X10_emit ⟨Nat.le_trans (by decide) hR1, Nat.le_trans (by decide) hR2⟩) (tf_preV hk hW ha0 (ci := 10) rfl rfl ⟨hs161, hs162, hs178, hs179, hs180⟩) rfl rfl hl.1 rfl (lv_room (Nat.le_of_ble_eq_true rfl)) dX10_behindTest_67 ⟨Nat.zero_le _, Nat.zero_le _⟩) hW (by decide) (fun H182 locs182 hW hF182 hp182 => ?_)
                have hs183 := tf_keepF hF182 ha0 rfl rfl (by decide) hs161
                have hs184 := tf_keepF hF182 ha0 rfl rfl (by decide) hs162
                have hs185 := tf_keepF hF182 ha0 rfl rfl (by decide) hs163
                have hs186 := tf_keepF hF182 ha0 rfl rfl (by decide) hs164
                have hs187 := tf_keepF hF182 ha0 rfl rfl (by decide) hs165
                have hs188 := tf_keepF hF182 ha0 rfl rfl (by decide) hs166
                have hs189 := tf_keepF hF182 ha0 rfl rfl (by decide) hs167
                have hs190 := tf_keepF hF182 ha0 rfl rfl (by decide) hs168
                have hs191 := tf_keepF hF182 ha0 rfl rfl (by decide) hs169
                have hs192 := tf_keepF hF182 ha0 rfl rfl (by decide) hs170
                have hs193 := tf_keepF hF182 ha0 rfl rfl (by decide) hs171
                have hs194 := tf_keepF hF182 ha0 rfl rfl (by decide) hs172
                have hs195 := tf_keepF hF182 ha0 rfl rfl (by decide) hs173
                have hs196 := tf_keepF hF182 ha0 rfl rfl (by decide) hs174
                have hs197 := tf_keepC hF182 htm rfl (by decide) hs175
                have hs198 := tf_keepF hF182 ha0 rfl rfl (by decide) hs176
                have hs199 := tf_keepC hF182 hwd rfl (by decide) hs177
                have hs200 := tf_keepF hF182 ha0 rfl rfl (by decide) ho160_0
                have hs201 := tf_keepC hF182 hqpi rfl (by decide) ho160_1
                have hs202 := tf_keepC hF182 hqpa rfl (by decide) ho160_2
                obtain ⟨ho182_0, ho182_1, ho182_2⟩ := hp182
                refine lv_aload_n hx hb dX10_behindTest_70 rfl (lv_at hl 1 rfl) ?_
                refine tf_callv (va_runV (As := []) (rest := []) ⟨hx, hb, hml, hown, hts⟩ (c_X10_next l g T a0 ha0 tm htm (gn) ⟨by omega, by omega⟩ (gt) ⟨by omega, by omega⟩ tp (by first | assumption | omega)) (cwV 0 hts gv_X10_204 rfl rfl rfl hd_X10_next ⟨Nat.le_trans (by decide) hR1, Nat.le_trans (by decide) hR2⟩) (tf_preV hk hW ha0 (ci := 10) rfl rfl ⟨hs187, hs189, hs196, hs197⟩) rfl rfl hl.1 rfl (lv_room (Nat.le_of_ble_eq_true rfl)) dX10_behindTest_71 ⟨Nat.zero_le _, Nat.zero_le _⟩) hW (by decide) (fun HN locsN hW hFN hpN => ?_)
                have hs203 := tf_keepF hFN ha0 rfl rfl (by decide) hs183
                have hs204 := tf_keepF hFN ha0 rfl rfl (by decide) hs184
                have hs205 := tf_keepF hFN ha0 rfl rfl (by decide) hs185
                have hs206 := tf_keepF hFN ha0 rfl rfl (by decide) hs186
                have hs207 := tf_keepF hFN ha0 rfl rfl (by decide) hs187
                have hs208 := tf_keepF hFN ha0 rfl rfl (by decide) hs192
                have hs209 := tf_keepF hFN ha0 rfl rfl (by decide) hs193
                have hs210 := tf_keepF hFN ha0 rfl rfl (by decide) hs194
                have hs211 := tf_keepF hFN ha0 rfl rfl (by decide) hs195
                have hs212 := tf_keepF hFN ha0 rfl rfl (by decide) hs196
                have hs213 := tf_keepC hFN htm rfl (by decide) hs197
                have hs214 := tf_keepF hFN ha0 rfl rfl (by decide) hs198
                have hs215 := tf_keepC hFN hwd rfl (by decide) hs199
                have hs216 := tf_keepF hFN ha0 rfl rfl (by decide) hs200
                have hs217 := tf_keepC hFN hqpi rfl (by decide) hs201
                have hs218 := tf_keepC hFN hqpa rfl (by decide) hs202
                have hs219 := tf_keepF hFN ha0 rfl rfl (by decide) ho182_0
                have hs220 := tf_keepC hFN hqop rfl (by decide) ho182_1
                have hs221 := tf_keepC hFN hqar rfl (by decide) ho182_2
                obtain ⟨gf1_N, gt1_N, gs1_N, gw1_N, hXN_0, hXN_1, hXN_2, hXN_3, hBN_0, hBN_1, hBN_2, hBN_3, hRN_0, hRN_1, hRN_2⟩ := hpN
                refine tf_iconst hx hb dX10_behindTest_74 ?_
                exact tf_reti (z := 0) hx hb hr hlocks hQ hW ⟨by omega, by omega, ⟨(gb), (gf1_N), (gt1_N), (gs1_N), (gw1_N), ((gc1_S + 1)), ((gp1_S + 1)), (gx), (gl), (go), (tf_up (rop1_S) (gc1_S) (29)), (tf_up (rar1_S) (gc1_S) (0)), (tf_up (rpi) (gp1_S) (29)), (tf_up (rpa) (gp1_S) (gc1_S)), hs208, hXN_0, hXN_1, hXN_2, hXN_3, hs219, hs216, hs209, hs210, hs211, hs220, hs221, hs217, hs218, ⟨by omega, by omega⟩, ⟨by omega, by omega⟩, ⟨by omega, by omega⟩, ⟨by omega, by omega⟩, ⟨by omega, by omega⟩, ⟨by omega, by omega⟩, ⟨by omega, by omega⟩, ⟨by omega, by omega⟩, ⟨by omega, by omega⟩, ⟨by omega, by omega⟩, (by first | assumption | omega), (by first | assumption | omega), (tf_PI_PB (tf_PI_and (hRS_5 o0 u0 fs hq3) (by omega) (by omega)) (by omega)), (Or.inr (tf_ST0 (tf_PI_and (hRS_5 o0 u0 fs hq3) (by omega) (by omega)) (tf_NS_push (tf_NS_mono hq4 (by omega)) (by omega)))), (by first | assumption | omega), (tf_er_and hq5 hq6 (by omega) (by omega) (by omega) hRS_4 (by omega) (by omega) hRN_2), (by first | assumption | omega)⟩⟩ dX10_behindTest_75
              · exfalso; omega
            · exfalso; omega
          · exfalso; omega
      · refine tf_if_eq (tgt := 76) hx hb ⟨by decide, by decide⟩ dX10_behindTest_19 (by decide) (fun h222 => ?_) (fun h222 => ?_)
        · refine lv_aload_n hx hb dX10_behindTest_76 rfl (lv_at hl 1 rfl) ?_
          refine tf_calli (va_runV (As := []) (rest := []) ⟨hx, hb, hml, hown, hts⟩ (c_X10_inner l g T a0 ha0 qpi hqpi (gp) ⟨by omega, by omega⟩ rpi) (cwV 0 hts gv_X10_294 rfl rfl rfl hd_X10_inner ⟨Nat.le_trans (by decide) hR1, Nat.le_trans (by decide) hR2⟩) (tf_preV hk hW ha0 (ci := 10) rfl rfl ⟨hs115, hs124, hs130⟩) rfl rfl hl.1 rfl (lv_room (Nat.le_of_ble_eq_true rfl)) dX10_behindTest_77 ⟨Nat.zero_le _, Nat.zero_le _⟩) hW (by decide) (fun zI HI locsI hW hFI hpI => ?_)
          have hs223 := tf_keepF hFI ha0 rfl rfl (by decide) hs113
          have hs224 := tf_keepF hFI ha0 rfl rfl (by decide) hs114
          have hs225 := tf_keepF hFI ha0 rfl rfl (by decide) hs115
          have hs226 := tf_keepF hFI ha0 rfl rfl (by decide) hs116
          have hs227 := tf_keepF hFI ha0 rfl rfl (by decide) hs117
          have hs228 := tf_keepF hFI ha0 rfl rfl (by decide) hs118
          have hs229 := tf_keepF hFI ha0 rfl rfl (by decide) hs119
          have hs230 := tf_keepF hFI ha0 rfl rfl (by decide) hs120
          have hs231 := tf_keepF hFI ha0 rfl rfl (by decide) hs121
          have hs232 := tf_keepF hFI ha0 rfl rfl (by decide) hs122
          have hs233 := tf_keepF hFI ha0 rfl rfl (by decide) hs123
          have hs234 := tf_keepF hFI ha0 rfl rfl (by decide) hs124
          have hs235 := tf_keepF hFI ha0 rfl rfl (by decide) hs125
          have hs236 := tf_keepF hFI ha0 rfl rfl (by decide) hs126
          have hs237 := tf_keepF hFI ha0 rfl rfl (by decide) hs127
          have hs238 := tf_keepC hFI hqop rfl (by decide) hs128
          have hs239 := tf_keepC hFI hqar rfl (by decide) hs129
          have hs240 := tf_keepC hFI hqpi rfl (by decide) hs130
          have hs241 := tf_keepC hFI hqpa rfl (by decide) hs131
          have hs242 := tf_keepF hFI ha0 rfl rfl (by decide) hs132
          have hs243 := tf_keepC hFI htm rfl (by decide) hs133
          have hs244 := tf_keepF hFI ha0 rfl rfl (by decide) hs134
          have hs245 := tf_keepC hFI hwd rfl (by decide) hs135
          obtain ⟨hpI_0, hpI_1, hpI_2⟩ := hpI
          refine tf_iconst hx hb dX10_behindTest_80 ?_
          refine tf_icmp_ne (tgt := 86) hx hb ⟨by omega, by omega⟩ ⟨by decide, by decide⟩ dX10_behindTest_81 (by decide) (fun h246 => ?_) (fun h246 => ?_)
          · refine lv_aload_n hx hb dX10_behindTest_86 rfl (lv_at hl 1 rfl) ?_
            refine lv_aload_n hx hb dX10_behindTest_87 rfl (lv_at hl 1 rfl) ?_
            refine tf_bipush hx hb dX10_behindTest_88 (by decide) ?_
            refine tf_calli (va_runV (As := [.int (Int32.ofInt 41)]) (rest := [.ref a0]) ⟨hx, hb, hml, hown, hts⟩ (c_X10_isSign l g T a0 ha0 (41) ⟨by omega, by omega⟩ (gs) ⟨by omega, by omega⟩ (gw) ⟨by omega, by omega⟩) (cwV 1 hts gv_X10_271 rfl rfl rfl hd_X10_isSign ⟨Nat.le_trans (by decide) hR1, Nat.le_trans (by decide) hR2⟩) (tf_preV hk hW ha0 (ci := 10) rfl rfl ⟨hs230, hs231⟩) rfl rfl hl.1 rfl (lv_room (Nat.le_of_ble_eq_true rfl)) dX10_behindTest_90 ⟨Nat.zero_le _, Nat.zero_le _⟩) hW (by decide) (fun z247 H247 locs247 hW hF247 hp247 => ?_)
            have hs248 := tf_keepF hF247 ha0 rfl rfl (by decide) hs223
            have hs249 := tf_keepF hF247 ha0 rfl rfl (by decide) hs224
            have hs250 := tf_keepF hF247 ha0 rfl rfl (by decide) hs225
            have hs251 := tf_keepF hF247 ha0 rfl rfl (by decide) hs226
            have hs252 := tf_keepF hF247 ha0 rfl rfl (by decide) hs227
            have hs253 := tf_keepF hF247 ha0 rfl rfl (by decide) hs228
            have hs254 := tf_keepF hF247 ha0 rfl rfl (by decide) hs229
            have hs255 := tf_keepF hF247 ha0 rfl rfl (by decide) hs230
            have hs256 := tf_keepF hF247 ha0 rfl rfl (by decide) hs231
            have hs257 := tf_keepF hF247 ha0 rfl rfl (by decide) hs232
            have hs258 := tf_keepF hF247 ha0 rfl rfl (by decide) hs233
            have hs259 := tf_keepF hF247 ha0 rfl rfl (by decide) hs234
            have hs260 := tf_keepF hF247 ha0 rfl rfl (by decide) hs235
            have hs261 := tf_keepF hF247 ha0 rfl rfl (by decide) hs236
            have hs262 := tf_keepF hF247 ha0 rfl rfl (by decide) hs237
            have hs263 := tf_keepC hF247 hqop rfl (by decide) hs238
            have hs264 := tf_keepC hF247 hqar rfl (by decide) hs239
            have hs265 := tf_keepC hF247 hqpi rfl (by decide) hs240
            have hs266 := tf_keepC hF247 hqpa rfl (by decide) hs241
            have hs267 := tf_keepF hF247 ha0 rfl rfl (by decide) hs242
            have hs268 := tf_keepC hF247 htm rfl (by decide) hs243
            have hs269 := tf_keepF hF247 ha0 rfl rfl (by decide) hs244
            have hs270 := tf_keepC hF247 hwd rfl (by decide) hs245
            rcases hp247 with ⟨rfl, h271⟩ | ⟨rfl, hn41⟩
            · refine tf_callv (va_runV (As := [.int (Int32.ofInt 1)]) (rest := []) ⟨hx, hb, hml, hown, hts⟩ (c_X10_must l g T a0 ha0 (1) ⟨by omega, by omega⟩ tm htm (gn) ⟨by omega, by omega⟩ (gf) ⟨by omega, by omega⟩ (gt) ⟨by omega, by omega⟩ (gs) ⟨by omega, by omega⟩ (gw) ⟨by omega, by omega⟩ (gb) ⟨by omega, by omega⟩ (gx) ⟨by omega, by omega⟩ tp (by first | assumption | omega)) (cwV 1 hts gv_X10_235 rfl rfl rfl hd_X10_must ⟨Nat.le_trans (by decide) hR1, Nat.le_trans (by decide) hR2⟩) (tf_preV hk hW ha0 (ci := 10) rfl rfl ⟨hs252, hs253, hs254, hs255, hs256, hs257, hs260, hs267, hs268⟩) rfl rfl hl.1 rfl (lv_room (Nat.le_of_ble_eq_true rfl)) dX10_behindTest_93 ⟨Nat.zero_le _, Nat.zero_le _⟩) hW (by decide) (fun HU locsU hW hFU hpU => ?_)
              have hs272 := tf_keepF hFU ha0 rfl rfl (by decide) hs248
              have hs273 := tf_keepF hFU ha0 rfl rfl (by decide) hs249
              have hs274 := tf_keepF hFU ha0 rfl rfl (by decide) hs250
              have hs275 := tf_keepF hFU ha0 rfl rfl (by decide) hs251
              have hs276 := tf_keepF hFU ha0 rfl rfl (by decide) hs252
              have hs277 := tf_keepF hFU ha0 rfl rfl (by decide) hs258
              have hs278 := tf_keepF hFU ha0 rfl rfl (by decide) hs259
              have hs279 := tf_keepF hFU ha0 rfl rfl (by decide) hs261
              have hs280 := tf_keepF hFU ha0 rfl rfl (by decide) hs262
              have hs281 := tf_keepC hFU hqop rfl (by decide) hs263
              have hs282 := tf_keepC hFU hqar rfl (by decide) hs264
              have hs283 := tf_keepC hFU hqpi rfl (by decide) hs265
              have hs284 := tf_keepC hFU hqpa rfl (by decide) hs266
              have hs285 := tf_keepF hFU ha0 rfl rfl (by decide) hs267
              have hs286 := tf_keepC hFU htm rfl (by decide) hs268
              have hs287 := tf_keepF hFU ha0 rfl rfl (by decide) hs269
              have hs288 := tf_keepC hFU hwd rfl (by decide) hs270
              obtain ⟨gb1_U, gf1_U, gt1_U, gs1_U, gw1_U, gx1_U, hXU_0, hXU_1, hXU_2, hXU_3, hXU_4, hXU_5, hBU_0, hBU_1, hBU_2, hBU_3, hBU_4, hBU_5, hRU_0, hRU_1, hRU_2, hRU_3⟩ := hpU
              refine lv_aload_n hx hb dX10_behindTest_96 rfl (lv_at hl 1 rfl) ?_
              refine tf_get hx hb hts inlX10 hown hK (ci := 10) rfl hW ha0 rfl 14 rfl (by decide) (hts _ fl_X10_200) dX10_behindTest_97 (fun v289 hv289 hsv289 => ?_)
              obtain rfl : v289 = .int (Int32.ofInt gb1_U) := Option.some.inj (hsv289.symm.trans hXU_0)
              refine tf_if_ne (tgt := 128) hx hb ⟨by omega, by omega⟩ dX10_behindTest_100 (by decide) (fun h290 => ?_) (fun h290 => ?_)
              · refine tf_iconst hx hb dX10_behindTest_128 ?_
                exact tf_reti (z := 2) hx hb hr hlocks hQ hW ⟨by omega, by omega, ⟨(gb1_U), (gf1_U), (gt1_U), (gs1_U), (gw1_U), (gc), (gp), (gx1_U), (gl), (go), rop, rar, rpi, rpa, hXU_0, hXU_1, hXU_2, hXU_3, hXU_4, hs277, hs278, hXU_5, hs279, hs280, hs281, hs282, hs283, hs284, ⟨by omega, by omega⟩, ⟨by omega, by omega⟩, ⟨by omega, by omega⟩, ⟨by omega, by omega⟩, ⟨by omega, by omega⟩, ⟨by omega, by omega⟩, ⟨by omega, by omega⟩, ⟨by omega, by omega⟩, ⟨by omega, by omega⟩, ⟨by omega, by omega⟩, (by first | assumption | omega), (by first | assumption | omega), (by first | exact tf_PI_PB (tf_PI_close (hRS_5 o0 u0 fs hq3) rfl h31.1 h31.2) (by omega) | exact tf_PI_PB hq3 (by omega)), (by first | exact Or.inr (tf_ST2 (tf_PI_close (hRS_5 o0 u0 fs hq3) rfl h31.1 h31.2) (tf_NS_mono hq4 (by omega))) | exact Or.inl (by omega)), (by first | assumption | omega), (by first | exact tf_er_tcl hq5 hq6 hpI_2 (by omega) (by omega) (by omega) (by omega) hRS_4 h31.2 (by omega) (hRU_1.resolve_left (by omega)) | exact tf_er_tcl0 hq6 hpI_2 (by omega) hnA hnO hn41 (by omega) (by omega) | exact absurd (show (1 : Int) = 0 by omega) (by decide)), (by first | assumption | omega)⟩⟩ dX10_behindTest_129
              · refine lv_aload_n hx hb dX10_behindTest_103 rfl (lv_at hl 1 rfl) ?_
                refine tf_iconst hx hb dX10_behindTest_104 ?_
                refine tf_callv (va_runV (As := [.int (Int32.ofInt 1)]) (rest := []) ⟨hx, hb, hml, hown, hts⟩ (c_X10_settle l g T a0 ha0 (1) ⟨by omega, by omega⟩ qop hqop qar hqar qpi hqpi qpa hqpa (gc) ⟨by omega, by omega⟩ (gp) ⟨by omega, by omega⟩ rop rar rpi rpa (by first | assumption | omega) (tf_PI_PB hq3 (by omega))) (cwV 1 hts gv_X10_291 rfl rfl rfl hd_X10_settle ⟨Nat.le_trans (by decide) hR1, Nat.le_trans (by decide) hR2⟩) (tf_preV hk hW ha0 (ci := 10) rfl rfl ⟨hs272, hs273, hs274, hs275, hs277, hs278, hs281, hs282, hs283, hs284⟩) rfl rfl hl.1 rfl (lv_room (Nat.le_of_ble_eq_true rfl)) dX10_behindTest_105 ⟨Nat.zero_le _, Nat.zero_le _⟩) hW (by decide) (fun HS locsS hW hFS hpS => ?_)
                have hs291 := tf_keepF hFS ha0 rfl rfl (by decide) hs272
                have hs292 := tf_keepF hFS ha0 rfl rfl (by decide) hs273
                have hs293 := tf_keepF hFS ha0 rfl rfl (by decide) hs274
                have hs294 := tf_keepF hFS ha0 rfl rfl (by decide) hs275
                have hs295 := tf_keepF hFS ha0 rfl rfl (by decide) hs276
                have hs296 := tf_keepF hFS ha0 rfl rfl (by decide) hs279
                have hs297 := tf_keepF hFS ha0 rfl rfl (by decide) hs280
                have hs298 := tf_keepC hFS hqpi rfl (by decide) hs283
                have hs299 := tf_keepC hFS hqpa rfl (by decide) hs284
                have hs300 := tf_keepF hFS ha0 rfl rfl (by decide) hs285
                have hs301 := tf_keepC hFS htm rfl (by decide) hs286
                have hs302 := tf_keepF hFS ha0 rfl rfl (by decide) hs287
                have hs303 := tf_keepC hFS hwd rfl (by decide) hs288
                have hs304 := tf_keepF hFS ha0 rfl rfl (by decide) hXU_0
                have hs305 := tf_keepF hFS ha0 rfl rfl (by decide) hXU_1
                have hs306 := tf_keepF hFS ha0 rfl rfl (by decide) hXU_2
                have hs307 := tf_keepF hFS ha0 rfl rfl (by decide) hXU_3
                have hs308 := tf_keepF hFS ha0 rfl rfl (by decide) hXU_4
                have hs309 := tf_keepF hFS ha0 rfl rfl (by decide) hXU_5
                obtain ⟨gc1_S, gp1_S, rop1_S, rar1_S, hXS_0, hXS_1, hXS_2, hXS_3, hBS_0, hBS_1, hRS_0, hRS_1, hRS_2, hRS_3, hRS_4, hRS_5, hRS_6⟩ := hpS
                refine lv_aload_n hx hb dX10_behindTest_108 rfl (lv_at hl 1 rfl) ?_
                refine lv_dup hx hb dX10_behindTest_109 rfl ?_
                refine tf_get hx hb hts inlX10 hown hK (ci := 10) rfl hW ha0 rfl 23 rfl (by decide) (hts _ fl_X10_242) dX10_behindTest_110 (fun v310 hv310 hsv310 => ?_)
                obtain rfl : v310 = .int (Int32.ofInt gp1_S) := Option.some.inj (hsv310.symm.trans hXS_1)
                refine tf_iconst hx hb dX10_behindTest_113 ?_
                refine tf_isub hx hb dX10_behindTest_114 ?_
                have h31 := tf_inn_30 hpI_2 (by omega) (by omega) (by omega) hRS_4 (by omega)
                refine tf_put hx hb hts inlX10 tyX10 tyX10_ok nmX10 hown hK (ci := 10) rfl hW ha0 rfl rfl 23 rfl (by decide) (by decide) (hts _ fl_X10_242) rfl (tf_u0 (by omega) (by omega)) rfl rfl dX10_behindTest_115 (fun H311 locs311 hW hs311 ht311 hq311 => ?_)
                have hs312 := (ht311 18 (by decide) (by decide)).trans hs291
                have hs313 := (ht311 19 (by decide) (by decide)).trans hs292
                have hs314 := (ht311 21 (by decide) (by decide)).trans hs293
                have hs315 := (ht311 22 (by decide) (by decide)).trans hs294
                have hs316 := (ht311 8 (by decide) (by decide)).trans hs295
                have hs317 := (ht311 20 (by decide) (by decide)).trans hs296
                have hs318 := (ht311 24 (by decide) (by decide)).trans hs297
                have hs319 := tf_keepCQ hs298 (hq311 _ (tf_ne hqpi ha0 (by decide)))
                have hs320 := tf_keepCQ hs299 (hq311 _ (tf_ne hqpa ha0 (by decide)))
                have hs321 := (ht311 7 (by decide) (by decide)).trans hs300
                have hs322 := tf_keepCQ hs301 (hq311 _ (tf_ne htm ha0 (by decide)))
                have hs323 := (ht311 25 (by decide) (by decide)).trans hs302
                have hs324 := tf_keepCQ hs303 (hq311 _ (tf_ne hwd ha0 (by decide)))
                have hs325 := (ht311 14 (by decide) (by decide)).trans hs304
                have hs326 := (ht311 9 (by decide) (by decide)).trans hs305
                have hs327 := (ht311 10 (by decide) (by decide)).trans hs306
                have hs328 := (ht311 11 (by decide) (by decide)).trans hs307
                have hs329 := (ht311 12 (by decide) (by decide)).trans hs308
                have hs330 := (ht311 13 (by decide) (by decide)).trans hs309
                have hs331 := (ht311 17 (by decide) (by decide)).trans hXS_0
                have hs332 := tf_keepCQ hXS_2 (hq311 _ (tf_ne hqop ha0 (by decide)))
                have hs333 := tf_keepCQ hXS_3 (hq311 _ (tf_ne hqar ha0 (by decide)))
                have hol := hq6.2.1
                have hos := tf_AB_ne hq6.2.2.1 hpI_2 (by omega)
                refine lv_aload_n hx hb dX10_behindTest_118 rfl (lv_at hl 1 rfl) ?_
                refine lv_dup hx hb dX10_behindTest_119 rfl ?_
                refine tf_get hx hb hts inlX10 hown hK (ci := 10) rfl hW ha0 rfl 24 rfl (by decide) (hts _ fl_X10_262) dX10_behindTest_120 (fun v334 hv334 hsv334 => ?_)
                obtain rfl : v334 = .int (Int32.ofInt go) := Option.some.inj (hsv334.symm.trans hs318)
                refine tf_iconst hx hb dX10_behindTest_123 ?_
                refine tf_isub hx hb dX10_behindTest_124 ?_
                refine tf_put hx hb hts inlX10 tyX10 tyX10_ok nmX10 hown hK (ci := 10) rfl hW ha0 rfl rfl 24 rfl (by decide) (by decide) (hts _ fl_X10_262) rfl (tf_u0 (by omega) (by omega)) rfl rfl dX10_behindTest_125 (fun H335 locs335 hW hs335 ht335 hq335 => ?_)
                have hs336 := (ht335 18 (by decide) (by decide)).trans hs312
                have hs337 := (ht335 19 (by decide) (by decide)).trans hs313
                have hs338 := (ht335 21 (by decide) (by decide)).trans hs314
                have hs339 := (ht335 22 (by decide) (by decide)).trans hs315
                have hs340 := (ht335 8 (by decide) (by decide)).trans hs316
                have hs341 := (ht335 20 (by decide) (by decide)).trans hs317
                have hs342 := tf_keepCQ hs319 (hq335 _ (tf_ne hqpi ha0 (by decide)))
                have hs343 := tf_keepCQ hs320 (hq335 _ (tf_ne hqpa ha0 (by decide)))
                have hs344 := (ht335 7 (by decide) (by decide)).trans hs321
                have hs345 := tf_keepCQ hs322 (hq335 _ (tf_ne htm ha0 (by decide)))
                have hs346 := (ht335 25 (by decide) (by decide)).trans hs323
                have hs347 := tf_keepCQ hs324 (hq335 _ (tf_ne hwd ha0 (by decide)))
                have hs348 := (ht335 14 (by decide) (by decide)).trans hs325
                have hs349 := (ht335 9 (by decide) (by decide)).trans hs326
                have hs350 := (ht335 10 (by decide) (by decide)).trans hs327
                have hs351 := (ht335 11 (by decide) (by decide)).trans hs328
                have hs352 := (ht335 12 (by decide) (by decide)).trans hs329
                have hs353 := (ht335 13 (by decide) (by decide)).trans hs330
                have hs354 := (ht335 17 (by decide) (by decide)).trans hs331
                have hs355 := tf_keepCQ hs332 (hq335 _ (tf_ne hqop ha0 (by decide)))
                have hs356 := tf_keepCQ hs333 (hq335 _ (tf_ne hqar ha0 (by decide)))
                have hs357 := (ht335 23 (by decide) (by decide)).trans hs311
                refine tf_iconst hx hb dX10_behindTest_128 ?_
                exact tf_reti (z := 2) hx hb hr hlocks hQ hW ⟨by omega, by omega, ⟨(gb1_U), (gf1_U), (gt1_U), (gs1_U), (gw1_U), (gc1_S), ((gp1_S - 1)), (gx1_U), (gl), ((go - 1)), rop1_S, rar1_S, rpi, rpa, hs348, hs349, hs350, hs351, hs352, hs354, hs357, hs353, hs341, hs335, hs355, hs356, hs342, hs343, ⟨by omega, by omega⟩, ⟨by omega, by omega⟩, ⟨by omega, by omega⟩, ⟨by omega, by omega⟩, ⟨by omega, by omega⟩, ⟨by omega, by omega⟩, ⟨by omega, by omega⟩, ⟨by omega, by omega⟩, ⟨by omega, by omega⟩, ⟨by omega, by omega⟩, (by first | assumption | omega), (by first | assumption | omega), (by first | exact tf_PI_PB (tf_PI_close (hRS_5 o0 u0 fs hq3) rfl h31.1 h31.2) (by omega) | exact tf_PI_PB hq3 (by omega)), (by first | exact Or.inr (tf_ST2 (tf_PI_close (hRS_5 o0 u0 fs hq3) rfl h31.1 h31.2) (tf_NS_mono hq4 (by omega))) | exact Or.inl (by omega)), (by first | assumption | omega), (by first | exact tf_er_tcl hq5 hq6 hpI_2 (by omega) (by omega) (by omega) (by omega) hRS_4 h31.2 (by omega) (hRU_1.resolve_left (by omega)) | exact tf_er_tcl0 hq6 hpI_2 (by omega) hnA hnO hn41 (by omega) (by omega) | exact absurd (show (1 : Int) = 0 by omega) (by decide)), (by first | assumption | omega)⟩⟩ dX10_behindTest_129
            · refine tf_callv (va_runV (As := [.int (Int32.ofInt 0)]) (rest := []) ⟨hx, hb, hml, hown, hts⟩ (c_X10_must l g T a0 ha0 (0) ⟨by omega, by omega⟩ tm htm (gn) ⟨by omega, by omega⟩ (gf) ⟨by omega, by omega⟩ (gt) ⟨by omega, by omega⟩ (gs) ⟨by omega, by omega⟩ (gw) ⟨by omega, by omega⟩ (gb) ⟨by omega, by omega⟩ (gx) ⟨by omega, by omega⟩ tp (by first | assumption | omega)) (cwV 1 hts gv_X10_235 rfl rfl rfl hd_X10_must ⟨Nat.le_trans (by decide) hR1, Nat.le_trans (by decide) hR2⟩) (tf_preV hk hW ha0 (ci := 10) rfl rfl ⟨hs252, hs253, hs254, hs255, hs256, hs257, hs260, hs267, hs268⟩) rfl rfl hl.1 rfl (lv_room (Nat.le_of_ble_eq_true rfl)) dX10_behindTest_93 ⟨Nat.zero_le _, Nat.zero_le _⟩) hW (by decide) (fun HU locsU hW hFU hpU => ?_)
              have hs358 := tf_keepF hFU ha0 rfl rfl (by decide) hs248
              have hs359 := tf_keepF hFU ha0 rfl rfl (by decide) hs249
              have hs360 := tf_keepF hFU ha0 rfl rfl (by decide) hs250
              have hs361 := tf_keepF hFU ha0 rfl rfl (by decide) hs251
              have hs362 := tf_keepF hFU ha0 rfl rfl (by decide) hs252
              have hs363 := tf_keepF hFU ha0 rfl rfl (by decide) hs258
              have hs364 := tf_keepF hFU ha0 rfl rfl (by decide) hs259
              have hs365 := tf_keepF hFU ha0 rfl rfl (by decide) hs261
              have hs366 := tf_keepF hFU ha0 rfl rfl (by decide) hs262
              have hs367 := tf_keepC hFU hqop rfl (by decide) hs263
              have hs368 := tf_keepC hFU hqar rfl (by decide) hs264
              have hs369 := tf_keepC hFU hqpi rfl (by decide) hs265
              have hs370 := tf_keepC hFU hqpa rfl (by decide) hs266
              have hs371 := tf_keepF hFU ha0 rfl rfl (by decide) hs267
              have hs372 := tf_keepC hFU htm rfl (by decide) hs268
              have hs373 := tf_keepF hFU ha0 rfl rfl (by decide) hs269
              have hs374 := tf_keepC hFU hwd rfl (by decide) hs270
              obtain ⟨gb1_U, gf1_U, gt1_U, gs1_U, gw1_U, gx1_U, hXU_0, hXU_1, hXU_2, hXU_3, hXU_4, hXU_5, hBU_0, hBU_1, hBU_2, hBU_3, hBU_4, hBU_5, hRU_0, hRU_1, hRU_2, hRU_3⟩ := hpU
              refine lv_aload_n hx hb dX10_behindTest_96 rfl (lv_at hl 1 rfl) ?_
              refine tf_get hx hb hts inlX10 hown hK (ci := 10) rfl hW ha0 rfl 14 rfl (by decide) (hts _ fl_X10_200) dX10_behindTest_97 (fun v375 hv375 hsv375 => ?_)
              obtain rfl : v375 = .int (Int32.ofInt gb1_U) := Option.some.inj (hsv375.symm.trans hXU_0)
              refine tf_if_ne (tgt := 128) hx hb ⟨by omega, by omega⟩ dX10_behindTest_100 (by decide) (fun h376 => ?_) (fun h376 => ?_)
              · refine tf_iconst hx hb dX10_behindTest_128 ?_
                exact tf_reti (z := 2) hx hb hr hlocks hQ hW ⟨by omega, by omega, ⟨(gb1_U), (gf1_U), (gt1_U), (gs1_U), (gw1_U), (gc), (gp), (gx1_U), (gl), (go), rop, rar, rpi, rpa, hXU_0, hXU_1, hXU_2, hXU_3, hXU_4, hs363, hs364, hXU_5, hs365, hs366, hs367, hs368, hs369, hs370, ⟨by omega, by omega⟩, ⟨by omega, by omega⟩, ⟨by omega, by omega⟩, ⟨by omega, by omega⟩, ⟨by omega, by omega⟩, ⟨by omega, by omega⟩, ⟨by omega, by omega⟩, ⟨by omega, by omega⟩, ⟨by omega, by omega⟩, ⟨by omega, by omega⟩, (by first | assumption | omega), (by first | assumption | omega), (by first | exact tf_PI_PB (tf_PI_close (hRS_5 o0 u0 fs hq3) rfl h31.1 h31.2) (by omega) | exact tf_PI_PB hq3 (by omega)), (by first | exact Or.inr (tf_ST2 (tf_PI_close (hRS_5 o0 u0 fs hq3) rfl h31.1 h31.2) (tf_NS_mono hq4 (by omega))) | exact Or.inl (by omega)), (by first | assumption | omega), (by first | exact tf_er_tcl hq5 hq6 hpI_2 (by omega) (by omega) (by omega) (by omega) hRS_4 h31.2 (by omega) (hRU_1.resolve_left (by omega)) | exact tf_er_tcl0 hq6 hpI_2 (by omega) hnA hnO hn41 (by omega) (by omega) | exact absurd (show (1 : Int) = 0 by omega) (by decide)), (by first | assumption | omega)⟩⟩ dX10_behindTest_129
              · refine lv_aload_n hx hb dX10_behindTest_103 rfl (lv_at hl 1 rfl) ?_
                refine tf_iconst hx hb dX10_behindTest_104 ?_
                refine tf_callv (va_runV (As := [.int (Int32.ofInt 1)]) (rest := []) ⟨hx, hb, hml, hown, hts⟩ (c_X10_settle l g T a0 ha0 (1) ⟨by omega, by omega⟩ qop hqop qar hqar qpi hqpi qpa hqpa (gc) ⟨by omega, by omega⟩ (gp) ⟨by omega, by omega⟩ rop rar rpi rpa (by first | assumption | omega) (tf_PI_PB hq3 (by omega))) (cwV 1 hts gv_X10_291 rfl rfl rfl hd_X10_settle ⟨Nat.le_trans (by decide) hR1, Nat.le_trans (by decide) hR2⟩) (tf_preV hk hW ha0 (ci := 10) rfl rfl ⟨hs358, hs359, hs360, hs361, hs363, hs364, hs367, hs368, hs369, hs370⟩) rfl rfl hl.1 rfl (lv_room (Nat.le_of_ble_eq_true rfl)) dX10_behindTest_105 ⟨Nat.zero_le _, Nat.zero_le _⟩) hW (by decide) (fun HS locsS hW hFS hpS => ?_)
                have hs377 := tf_keepF hFS ha0 rfl rfl (by decide) hs358
                have hs378 := tf_keepF hFS ha0 rfl rfl (by decide) hs359
                have hs379 := tf_keepF hFS ha0 rfl rfl (by decide) hs360
                have hs380 := tf_keepF hFS ha0 rfl rfl (by decide) hs361
                have hs381 := tf_keepF hFS ha0 rfl rfl (by decide) hs362
                have hs382 := tf_keepF hFS ha0 rfl rfl (by decide) hs365
                have hs383 := tf_keepF hFS ha0 rfl rfl (by decide) hs366
                have hs384 := tf_keepC hFS hqpi rfl (by decide) hs369
                have hs385 := tf_keepC hFS hqpa rfl (by decide) hs370
                have hs386 := tf_keepF hFS ha0 rfl rfl (by decide) hs371
                have hs387 := tf_keepC hFS htm rfl (by decide) hs372
                have hs388 := tf_keepF hFS ha0 rfl rfl (by decide) hs373
                have hs389 := tf_keepC hFS hwd rfl (by decide) hs374
                have hs390 := tf_keepF hFS ha0 rfl rfl (by decide) hXU_0
                have hs391 := tf_keepF hFS ha0 rfl rfl (by decide) hXU_1
                have hs392 := tf_keepF hFS ha0 rfl rfl (by decide) hXU_2
                have hs393 := tf_keepF hFS ha0 rfl rfl (by decide) hXU_3
                have hs394 := tf_keepF hFS ha0 rfl rfl (by decide) hXU_4
                have hs395 := tf_keepF hFS ha0 rfl rfl (by decide) hXU_5
                obtain ⟨gc1_S, gp1_S, rop1_S, rar1_S, hXS_0, hXS_1, hXS_2, hXS_3, hBS_0, hBS_1, hRS_0, hRS_1, hRS_2, hRS_3, hRS_4, hRS_5, hRS_6⟩ := hpS
                refine lv_aload_n hx hb dX10_behindTest_108 rfl (lv_at hl 1 rfl) ?_
                refine lv_dup hx hb dX10_behindTest_109 rfl ?_
                refine tf_get hx hb hts inlX10 hown hK (ci := 10) rfl hW ha0 rfl 23 rfl (by decide) (hts _ fl_X10_242) dX10_behindTest_110 (fun v396 hv396 hsv396 => ?_)
                obtain rfl : v396 = .int (Int32.ofInt gp1_S) := Option.some.inj (hsv396.symm.trans hXS_1)
                refine tf_iconst hx hb dX10_behindTest_113 ?_
                refine tf_isub hx hb dX10_behindTest_114 ?_
                have h31 := tf_inn_30 hpI_2 (by omega) (by omega) (by omega) hRS_4 (by omega)
                refine tf_put hx hb hts inlX10 tyX10 tyX10_ok nmX10 hown hK (ci := 10) rfl hW ha0 rfl rfl 23 rfl (by decide) (by decide) (hts _ fl_X10_242) rfl (tf_u0 (by omega) (by omega)) rfl rfl dX10_behindTest_115 (fun H397 locs397 hW hs397 ht397 hq397 => ?_)
                have hs398 := (ht397 18 (by decide) (by decide)).trans hs377
                have hs399 := (ht397 19 (by decide) (by decide)).trans hs378
                have hs400 := (ht397 21 (by decide) (by decide)).trans hs379
                have hs401 := (ht397 22 (by decide) (by decide)).trans hs380
                have hs402 := (ht397 8 (by decide) (by decide)).trans hs381
                have hs403 := (ht397 20 (by decide) (by decide)).trans hs382
                have hs404 := (ht397 24 (by decide) (by decide)).trans hs383
                have hs405 := tf_keepCQ hs384 (hq397 _ (tf_ne hqpi ha0 (by decide)))
                have hs406 := tf_keepCQ hs385 (hq397 _ (tf_ne hqpa ha0 (by decide)))
                have hs407 := (ht397 7 (by decide) (by decide)).trans hs386
                have hs408 := tf_keepCQ hs387 (hq397 _ (tf_ne htm ha0 (by decide)))
                have hs409 := (ht397 25 (by decide) (by decide)).trans hs388
                have hs410 := tf_keepCQ hs389 (hq397 _ (tf_ne hwd ha0 (by decide)))
                have hs411 := (ht397 14 (by decide) (by decide)).trans hs390
                have hs412 := (ht397 9 (by decide) (by decide)).trans hs391
                have hs413 := (ht397 10 (by decide) (by decide)).trans hs392
                have hs414 := (ht397 11 (by decide) (by decide)).trans hs393
                have hs415 := (ht397 12 (by decide) (by decide)).trans hs394
                have hs416 := (ht397 13 (by decide) (by decide)).trans hs395
                have hs417 := (ht397 17 (by decide) (by decide)).trans hXS_0
                have hs418 := tf_keepCQ hXS_2 (hq397 _ (tf_ne hqop ha0 (by decide)))
                have hs419 := tf_keepCQ hXS_3 (hq397 _ (tf_ne hqar ha0 (by decide)))
                have hol := hq6.2.1
                have hos := tf_AB_ne hq6.2.2.1 hpI_2 (by omega)
                refine lv_aload_n hx hb dX10_behindTest_118 rfl (lv_at hl 1 rfl) ?_
                refine lv_dup hx hb dX10_behindTest_119 rfl ?_
                refine tf_get hx hb hts inlX10 hown hK (ci := 10) rfl hW ha0 rfl 24 rfl (by decide) (hts _ fl_X10_262) dX10_behindTest_120 (fun v420 hv420 hsv420 => ?_)
                obtain rfl : v420 = .int (Int32.ofInt go) := Option.some.inj (hsv420.symm.trans hs404)
                refine tf_iconst hx hb dX10_behindTest_123 ?_
                refine tf_isub hx hb dX10_behindTest_124 ?_
                refine tf_put hx hb hts inlX10 tyX10 tyX10_ok nmX10 hown hK (ci := 10) rfl hW ha0 rfl rfl 24 rfl (by decide) (by decide) (hts _ fl_X10_262) rfl (tf_u0 (by omega) (by omega)) rfl rfl dX10_behindTest_125 (fun H421 locs421 hW hs421 ht421 hq421 => ?_)
                have hs422 := (ht421 18 (by decide) (by decide)).trans hs398
                have hs423 := (ht421 19 (by decide) (by decide)).trans hs399
                have hs424 := (ht421 21 (by decide) (by decide)).trans hs400
                have hs425 := (ht421 22 (by decide) (by decide)).trans hs401
                have hs426 := (ht421 8 (by decide) (by decide)).trans hs402
                have hs427 := (ht421 20 (by decide) (by decide)).trans hs403
                have hs428 := tf_keepCQ hs405 (hq421 _ (tf_ne hqpi ha0 (by decide)))
                have hs429 := tf_keepCQ hs406 (hq421 _ (tf_ne hqpa ha0 (by decide)))
                have hs430 := (ht421 7 (by decide) (by decide)).trans hs407
                have hs431 := tf_keepCQ hs408 (hq421 _ (tf_ne htm ha0 (by decide)))
                have hs432 := (ht421 25 (by decide) (by decide)).trans hs409
                have hs433 := tf_keepCQ hs410 (hq421 _ (tf_ne hwd ha0 (by decide)))
                have hs434 := (ht421 14 (by decide) (by decide)).trans hs411
                have hs435 := (ht421 9 (by decide) (by decide)).trans hs412
                have hs436 := (ht421 10 (by decide) (by decide)).trans hs413
                have hs437 := (ht421 11 (by decide) (by decide)).trans hs414
                have hs438 := (ht421 12 (by decide) (by decide)).trans hs415
                have hs439 := (ht421 13 (by decide) (by decide)).trans hs416
                have hs440 := (ht421 17 (by decide) (by decide)).trans hs417
                have hs441 := tf_keepCQ hs418 (hq421 _ (tf_ne hqop ha0 (by decide)))
                have hs442 := tf_keepCQ hs419 (hq421 _ (tf_ne hqar ha0 (by decide)))
                have hs443 := (ht421 23 (by decide) (by decide)).trans hs397
                refine tf_iconst hx hb dX10_behindTest_128 ?_
                exact tf_reti (z := 2) hx hb hr hlocks hQ hW ⟨by omega, by omega, ⟨(gb1_U), (gf1_U), (gt1_U), (gs1_U), (gw1_U), (gc1_S), ((gp1_S - 1)), (gx1_U), (gl), ((go - 1)), rop1_S, rar1_S, rpi, rpa, hs434, hs435, hs436, hs437, hs438, hs440, hs443, hs439, hs427, hs421, hs441, hs442, hs428, hs429, ⟨by omega, by omega⟩, ⟨by omega, by omega⟩, ⟨by omega, by omega⟩, ⟨by omega, by omega⟩, ⟨by omega, by omega⟩, ⟨by omega, by omega⟩, ⟨by omega, by omega⟩, ⟨by omega, by omega⟩, ⟨by omega, by omega⟩, ⟨by omega, by omega⟩, (by first | assumption | omega), (by first | assumption | omega), (by first | exact tf_PI_PB (tf_PI_close (hRS_5 o0 u0 fs hq3) rfl h31.1 h31.2) (by omega) | exact tf_PI_PB hq3 (by omega)), (by first | exact Or.inr (tf_ST2 (tf_PI_close (hRS_5 o0 u0 fs hq3) rfl h31.1 h31.2) (tf_NS_mono hq4 (by omega))) | exact Or.inl (by omega)), (by first | assumption | omega), (by first | exact tf_er_tcl hq5 hq6 hpI_2 (by omega) (by omega) (by omega) (by omega) hRS_4 h31.2 (by omega) (hRU_1.resolve_left (by omega)) | exact tf_er_tcl0 hq6 hpI_2 (by omega) hnA hnO hn41 (by omega) (by omega) | exact absurd (show (1 : Int) = 0 by omega) (by decide)), (by first | assumption | omega)⟩⟩ dX10_behindTest_129
          · refine tf_iconst hx hb dX10_behindTest_84 ?_
            exact tf_reti (z := 4) hx hb hr hlocks hQ hW ⟨by omega, by omega, ⟨(gb), (gf), (gt), (gs), (gw), (gc), (gp), (gx), (gl), (go), rop, rar, rpi, rpa, hs232, hs228, hs229, hs230, hs231, hs233, hs234, hs235, hs236, hs237, hs238, hs239, hs240, hs241, ⟨by omega, by omega⟩, ⟨by omega, by omega⟩, ⟨by omega, by omega⟩, ⟨by omega, by omega⟩, ⟨by omega, by omega⟩, ⟨by omega, by omega⟩, ⟨by omega, by omega⟩, ⟨by omega, by omega⟩, ⟨by omega, by omega⟩, ⟨by omega, by omega⟩, (by first | assumption | omega), (by first | assumption | omega), (tf_PI_PB hq3 (by omega)), (Or.inr (tf_ST4 hq3 (tf_NS_Q hq4) (tf_inn_NB hpI_2 (by omega)))), (by first | assumption | omega), (tf_er_tover hq6 hpI_2 (by omega) hnA hnO (by omega)), (by first | assumption | omega)⟩⟩ dX10_behindTest_85
        · exfalso; omega


abbrev M_X10_behindSum : List (Nat × Nat) := [(46, 0), (47, 0), (48, 0), (49, 0), (63, 9), (63, 10), (63, 11), (63, 12), (63, 13), (63, 14), (63, 17), (63, 23), (63, 24)]
set_option maxHeartbeats 4000000 in
set_option maxRecDepth 100000 in
theorem c_X10_behindSum (l : Launch) (g : tf_G) (T : tf_T) (a0 : Nat) (ha0 : T a0 = some (63, 0)) (x1 : Int) (hp1 : 0 ≤ x1 ∧ x1 ≤ 1) (fs : Int) (o0 : Int → Int) (u0 : Int → Int) (ss : Int → Int) (pp : Int → Int) (mm : Int) (k9 : Int) (c9 : Int) (S9 : List (Int × Int)) (e9 : Int) (i9 : Int) (qop : Nat) (hqop : T qop = some (46, 400)) (qar : Nat) (hqar : T qar = some (47, 400)) (qpi : Nat) (hqpi : T qpi = some (48, 400)) (qpa : Nat) (hqpa : T qpa = some (49, 400)) (tm : Nat) (htm : T tm = some (44, 400)) (wd : Nat) (hwd : T wd = some (50, 9)) (gn : Int) (hgn : 0 ≤ gn ∧ gn ≤ 400) (gf : Int) (hgf : 0 ≤ gf ∧ gf ≤ 400) (gt : Int) (hgt : 0 ≤ gt ∧ gt ≤ 400) (gs : Int) (hgs : 0 ≤ gs ∧ gs ≤ 3) (gw : Int) (hgw : (-9223372036854775808) ≤ gw ∧ gw ≤ 9223372036854775807) (gb : Int) (hgb : 0 ≤ gb ∧ gb ≤ 1) (gc : Int) (hgc : 0 ≤ gc ∧ gc ≤ 400) (gp : Int) (hgp : 0 ≤ gp ∧ gp ≤ 400) (gx : Int) (hgx : (-2147483648) ≤ gx ∧ gx ≤ 2147483647) (gl : Int) (hgl : 0 ≤ gl ∧ gl ≤ 50) (go : Int) (hgo : 0 ≤ go ∧ go ≤ 8) (rop : Int → Int) (rar : Int → Int) (rpi : Int → Int) (rpa : Int → Int) (tp : Int → Int) (gW : Int → Int) (hq0 : (gb = 0)) (hq1 : (gc + gp ≤ gf)) (hq2 : (gf ≤ gt ∧ gt ≤ gn ∧ (gs = 0 → gf = gn) ∧ (gs ≠ 0 → gf < gt) ∧ (gs = 1 → 26 < gw → gf + 2 ≤ gt))) (hq3 : (tf_PI o0 u0 rop rar rpi rpa fs gc gp 1)) (hq4 : (tf_Q rpi gp)) (hq5 : (tf_CX tp gn ss pp mm gW)) (hq6 : (tf_RR tp gn ss pp mm rpi gf gt gs gw gp go k9 3 c9 S9)) (hq7 : (e9 = x1)) : Met l yX10_behindSum (cd_X10_behindSum :: wsL_law) ({ frames := 4, cells := 0, slots := 0, locals := 85 }) (tf_P g T [.ref a0, .int (Int32.ofInt x1)] (fun H => tf_s H a0 (g.1.2 10 18) = some (.ref qop) ∧ tf_s H a0 (g.1.2 10 19) = some (.ref qar) ∧ tf_s H a0 (g.1.2 10 21) = some (.ref qpi) ∧ tf_s H a0 (g.1.2 10 22) = some (.ref qpa) ∧ tf_s H a0 (g.1.2 10 8) = some (.int (Int32.ofInt gn)) ∧ tf_s H a0 (g.1.2 10 9) = some (.int (Int32.ofInt gf)) ∧ tf_s H a0 (g.1.2 10 10) = some (.int (Int32.ofInt gt)) ∧ tf_s H a0 (g.1.2 10 11) = some (.int (Int32.ofInt gs)) ∧ tf_s H a0 (g.1.2 10 12) = some (.long (Int64.ofInt gw)) ∧ tf_s H a0 (g.1.2 10 14) = some (.int (Int32.ofInt gb)) ∧ tf_s H a0 (g.1.2 10 17) = some (.int (Int32.ofInt gc)) ∧ tf_s H a0 (g.1.2 10 23) = some (.int (Int32.ofInt gp)) ∧ tf_s H a0 (g.1.2 10 13) = some (.int (Int32.ofInt gx)) ∧ tf_s H a0 (g.1.2 10 20) = some (.int (Int32.ofInt gl)) ∧ tf_s H a0 (g.1.2 10 24) = some (.int (Int32.ofInt go)) ∧ tf_rw H qop = rop ∧ tf_rw H qar = rar ∧ tf_rw H qpi = rpi ∧ tf_rw H qpa = rpa ∧ tf_s H a0 (g.1.2 10 7) = some (.ref tm) ∧ tf_rw H tm = tp ∧ tf_s H a0 (g.1.2 10 25) = some (.ref wd) ∧ tf_rw H wd = gW)) (tf_Qi g M_X10_behindSum T (fun z _ H => 1 ≤ z ∧ z ≤ 4 ∧ (∃ (gb1 gf1 gt1 gs1 gw1 gc1 gp1 gx1 gl1 go1 : Int) (rop1 rar1 rpi1 rpa1 : Int → Int) , tf_s H a0 (g.1.2 10 14) = some (.int (Int32.ofInt gb1)) ∧ tf_s H a0 (g.1.2 10 9) = some (.int (Int32.ofInt gf1)) ∧ tf_s H a0 (g.1.2 10 10) = some (.int (Int32.ofInt gt1)) ∧ tf_s H a0 (g.1.2 10 11) = some (.int (Int32.ofInt gs1)) ∧ tf_s H a0 (g.1.2 10 12) = some (.long (Int64.ofInt gw1)) ∧ tf_s H a0 (g.1.2 10 17) = some (.int (Int32.ofInt gc1)) ∧ tf_s H a0 (g.1.2 10 23) = some (.int (Int32.ofInt gp1)) ∧ tf_s H a0 (g.1.2 10 13) = some (.int (Int32.ofInt gx1)) ∧ tf_s H a0 (g.1.2 10 20) = some (.int (Int32.ofInt gl1)) ∧ tf_s H a0 (g.1.2 10 24) = some (.int (Int32.ofInt go1)) ∧ tf_rw H qop = rop1 ∧ tf_rw H qar = rar1 ∧ tf_rw H qpi = rpi1 ∧ tf_rw H qpa = rpa1 ∧ (0 ≤ gb1 ∧ gb1 ≤ 1) ∧ (0 ≤ gf1 ∧ gf1 ≤ 400) ∧ (0 ≤ gt1 ∧ gt1 ≤ 400) ∧ (0 ≤ gs1 ∧ gs1 ≤ 3) ∧ ((-9223372036854775808) ≤ gw1 ∧ gw1 ≤ 9223372036854775807) ∧ (0 ≤ gc1 ∧ gc1 ≤ 400) ∧ (0 ≤ gp1 ∧ gp1 ≤ 400) ∧ ((-2147483648) ≤ gx1 ∧ gx1 ≤ 2147483647) ∧ (0 ≤ gl1 ∧ gl1 ≤ 50) ∧ (0 ≤ go1 ∧ go1 ≤ 8) ∧ (gf1 ≤ gt1 ∧ gt1 ≤ gn ∧ (gs1 = 0 → gf1 = gn) ∧ (gs1 ≠ 0 → gf1 < gt1) ∧ (gs1 = 1 → 26 < gw1 → gf1 + 2 ≤ gt1)) ∧ (gc1 + gp1 ≤ gf1) ∧ (tf_PB rpi1 rpa1 gp1) ∧ (gb1 = 1 ∨ tf_ST z o0 u0 rop1 rar1 rpi1 rpa1 fs gc1 gp1) ∧ (gf < gf1 ∨ (gf1 = gf ∧ (gb1 = 1 ∨ z = 4 ∨ z = 2))) ∧ (tf_ER tp gn ss pp mm (k9, 3, c9, S9, gl, e9, i9) gb1 z gx1 rpi1 gf1 gt1 gs1 gw1 gp1 gl1 go1 e9 i9) ∧ (gb1 = 1 ∨ gx1 = gx)))) 0 0 (fun q => tf_B g ≤ q) := by
  refine Met.ofW (cc := cX10_behindSum) (maxL := 4) (ret := (some .int)) (by decide) rfl ?_
  intro p e s m args below meth c s₁ B hml hv
  obtain ⟨hargs, hk, hW0, hB, hpre⟩ := hv
  obtain ⟨he0, he1, he2, he3, he4, he5, he6, he7, he8, he9, he10, he11, he12, he13, he14, he15, he16, he17, he18, he19, he20, he21, he22⟩ := hpre
  have hx := B.exec
  have hb := B.bytes
  have hr := B.returns
  have hts : ∀ w ∈ wsL_law, w.before args s = true := fun w h => atoms_spec (ws := cd_X10_behindSum :: wsL_law) B.pre w (List.mem_cons_of_mem _ h)
  have hown : s.vm.findClass RX10 = some m.cls := findClass_of_methodNamed B.named
  have hlocks := B.notSynchronized
  have hK := hk.1
  have hW := tf_n.start (M := M_X10_behindSum) hW0 hB
  obtain ⟨Q, hQ⟩ : ∃ q, q = MQ below (tf_Qi g M_X10_behindSum T (fun z _ H => 1 ≤ z ∧ z ≤ 4 ∧ (∃ (gb1 gf1 gt1 gs1 gw1 gc1 gp1 gx1 gl1 go1 : Int) (rop1 rar1 rpi1 rpa1 : Int → Int) , tf_s H a0 (g.1.2 10 14) = some (.int (Int32.ofInt gb1)) ∧ tf_s H a0 (g.1.2 10 9) = some (.int (Int32.ofInt gf1)) ∧ tf_s H a0 (g.1.2 10 10) = some (.int (Int32.ofInt gt1)) ∧ tf_s H a0 (g.1.2 10 11) = some (.int (Int32.ofInt gs1)) ∧ tf_s H a0 (g.1.2 10 12) = some (.long (Int64.ofInt gw1)) ∧ tf_s H a0 (g.1.2 10 17) = some (.int (Int32.ofInt gc1)) ∧ tf_s H a0 (g.1.2 10 23) = some (.int (Int32.ofInt gp1)) ∧ tf_s H a0 (g.1.2 10 13) = some (.int (Int32.ofInt gx1)) ∧ tf_s H a0 (g.1.2 10 20) = some (.int (Int32.ofInt gl1)) ∧ tf_s H a0 (g.1.2 10 24) = some (.int (Int32.ofInt go1)) ∧ tf_rw H qop = rop1 ∧ tf_rw H qar = rar1 ∧ tf_rw H qpi = rpi1 ∧ tf_rw H qpa = rpa1 ∧ (0 ≤ gb1 ∧ gb1 ≤ 1) ∧ (0 ≤ gf1 ∧ gf1 ≤ 400) ∧ (0 ≤ gt1 ∧ gt1 ≤ 400) ∧ (0 ≤ gs1 ∧ gs1 ≤ 3) ∧ ((-9223372036854775808) ≤ gw1 ∧ gw1 ≤ 9223372036854775807) ∧ (0 ≤ gc1 ∧ gc1 ≤ 400) ∧ (0 ≤ gp1 ∧ gp1 ≤ 400) ∧ ((-2147483648) ≤ gx1 ∧ gx1 ≤ 2147483647) ∧ (0 ≤ gl1 ∧ gl1 ≤ 50) ∧ (0 ≤ go1 ∧ go1 ≤ 8) ∧ (gf1 ≤ gt1 ∧ gt1 ≤ gn ∧ (gs1 = 0 → gf1 = gn) ∧ (gs1 ≠ 0 → gf1 < gt1) ∧ (gs1 = 1 → 26 < gw1 → gf1 + 2 ≤ gt1)) ∧ (gc1 + gp1 ≤ gf1) ∧ (tf_PB rpi1 rpa1 gp1) ∧ (gb1 = 1 ∨ tf_ST z o0 u0 rop1 rar1 rpi1 rpa1 fs gc1 gp1) ∧ (gf < gf1 ∨ (gf1 = gf ∧ (gb1 = 1 ∨ z = 4 ∨ z = 2))) ∧ (tf_ER tp gn ss pp mm (k9, 3, c9, S9, gl, e9, i9) gb1 z gx1 rpi1 gf1 gt1 gs1 gw1 gp1 gl1 go1 e9 i9) ∧ (gb1 = 1 ∨ gx1 = gx)))) args s 0 0 (fun q => tf_B g ≤ q) := ⟨_, rfl⟩
  rw [← hQ]
  obtain ⟨R, hR⟩ : ∃ q, q = (headSpec (cd_X10_behindSum :: wsL_law) ({ frames := 4, cells := 0, slots := 0, locals := 85 })).room := ⟨_, rfl⟩
  rw [← hR]
  have hR1 : 4 ≤ R.frames := by rw [hR]; exact Nat.le_refl _
  have hR2 : 85 ≤ R.locals := by rw [hR]; exact Nat.le_refl _
  have hR3 : 0 ≤ R.cells := by rw [hR]; exact Nat.le_refl _
  have hR4 : 0 ≤ R.slots := by rw [hR]; exact Nat.le_refl _
  have hin := (name_of_methodNamed B.named B.method).1
  clear hR B
  refine tf_enter (As := [.ref a0, .int (Int32.ofInt x1)]) hargs (Nat.le_of_ble_eq_true rfl) (fun ls hl => ?_)
  have hl : lv_has ls 4 [(0, .ref a0), (1, .int (Int32.ofInt x1))] := hl
  refine lv_aload_n hx hb dX10_behindSum_0 rfl (lv_at hl 0 rfl) ?_
  refine tf_bipush hx hb dX10_behindSum_1 (by decide) ?_
  refine tf_calli (va_runV (As := [.int (Int32.ofInt 43)]) (rest := []) ⟨hx, hb, hml, hown, hts⟩ (c_X10_isSign l g T a0 ha0 (43) ⟨by omega, by omega⟩ (gs) ⟨by omega, by omega⟩ (gw) ⟨by omega, by omega⟩) (cwV 1 hts gv_X10_271 rfl rfl rfl hd_X10_isSign ⟨Nat.le_trans (by decide) hR1, Nat.le_trans (by decide) hR2⟩) (tf_preV hk hW ha0 (ci := 10) rfl rfl ⟨he7, he8⟩) rfl rfl hl.1 rfl (lv_room (Nat.le_of_ble_eq_true rfl)) dX10_behindSum_3 ⟨Nat.zero_le _, Nat.zero_le _⟩) hW (by decide) (fun z1 H1 locs1 hW hF1 hp1 => ?_)
  have hs2 := tf_keepF hF1 ha0 rfl rfl (by decide) he0
  have hs3 := tf_keepF hF1 ha0 rfl rfl (by decide) he1
  have hs4 := tf_keepF hF1 ha0 rfl rfl (by decide) he2
  have hs5 := tf_keepF hF1 ha0 rfl rfl (by decide) he3
  have hs6 := tf_keepF hF1 ha0 rfl rfl (by decide) he4
  have hs7 := tf_keepF hF1 ha0 rfl rfl (by decide) he5
  have hs8 := tf_keepF hF1 ha0 rfl rfl (by decide) he6
  have hs9 := tf_keepF hF1 ha0 rfl rfl (by decide) he7
  have hs10 := tf_keepF hF1 ha0 rfl rfl (by decide) he8
  have hs11 := tf_keepF hF1 ha0 rfl rfl (by decide) he9
  have hs12 := tf_keepF hF1 ha0 rfl rfl (by decide) he10
  have hs13 := tf_keepF hF1 ha0 rfl rfl (by decide) he11
  have hs14 := tf_keepF hF1 ha0 rfl rfl (by decide) he12
  have hs15 := tf_keepF hF1 ha0 rfl rfl (by decide) he13
  have hs16 := tf_keepF hF1 ha0 rfl rfl (by decide) he14
  have hs17 := tf_keepC hF1 hqop rfl (by decide) he15
  have hs18 := tf_keepC hF1 hqar rfl (by decide) he16
  have hs19 := tf_keepC hF1 hqpi rfl (by decide) he17
  have hs20 := tf_keepC hF1 hqpa rfl (by decide) he18
  have hs21 := tf_keepF hF1 ha0 rfl rfl (by decide) he19
  have hs22 := tf_keepC hF1 htm rfl (by decide) he20
  have hs23 := tf_keepF hF1 ha0 rfl rfl (by decide) he21
  have hs24 := tf_keepC hF1 hwd rfl (by decide) he22
  rcases hp1 with ⟨rfl, h25⟩ | ⟨rfl, hn43⟩
  · refine tf_if_eq (tgt := 14) hx hb ⟨by decide, by decide⟩ dX10_behindSum_6 (by decide) (fun h26 => ?_) (fun h26 => ?_)
    · exfalso; omega
    · refine tf_bipush hx hb dX10_behindSum_9 (by decide) ?_
      refine lv_goto (tgt := 57) hx hb dX10_behindSum_11 (by decide) ?_
      refine lv_istore_n (lv' := [(2, .int (Int32.ofInt 20)), (0, .ref a0), (1, .int (Int32.ofInt x1))]) hx hb dX10_behindSum_57 rfl hl (by decide) rfl (fun ls hl => ?_)
      refine lv_iload_n hx hb dX10_behindSum_58 rfl (lv_at hl 0 rfl) ?_
      refine tf_iconst hx hb dX10_behindSum_59 ?_
      refine tf_icmp_eq (tgt := 83) hx hb ⟨by decide, by decide⟩ ⟨by decide, by decide⟩ dX10_behindSum_60 (by decide) (fun h27 => ?_) (fun h27 => ?_)
      · exfalso; omega
      · refine lv_aload_n hx hb dX10_behindSum_63 rfl (lv_at hl 1 rfl) ?_
        refine lv_iload_n hx hb dX10_behindSum_64 rfl (lv_at hl 0 rfl) ?_
        refine tf_calli (va_runS (As := [.int (Int32.ofInt 20)]) (rest := [.ref a0]) ⟨hx, hb, hml, hown, hts⟩ (c_X10_binds l g T (20) ⟨by omega, by omega⟩) ⟨callB_of 1 hts (gw_ws cm_X10_binds) rfl rfl rfl (hts _ (tw1 (i := 5) rfl)) (hts _ (tw31 (i := 1) rfl)) hd_X10_binds.2 ⟨Nat.le_trans (by decide) hR1, Nat.le_trans (by decide) hR2⟩, hts _ (tw31 (i := 2) rfl)⟩ (tf_preS hk hW trivial) rfl rfl hl.1 rfl (lv_room (Nat.le_of_ble_eq_true rfl)) dX10_behindSum_65 ⟨Nat.zero_le _, Nat.zero_le _⟩) hW (by decide) (fun z28 H28 locs28 hW hF28 hp28 => ?_)
        have hs29 := tf_keepF hF28 ha0 rfl rfl (by decide) hs2
        have hs30 := tf_keepF hF28 ha0 rfl rfl (by decide) hs3
        have hs31 := tf_keepF hF28 ha0 rfl rfl (by decide) hs4
        have hs32 := tf_keepF hF28 ha0 rfl rfl (by decide) hs5
        have hs33 := tf_keepF hF28 ha0 rfl rfl (by decide) hs6
        have hs34 := tf_keepF hF28 ha0 rfl rfl (by decide) hs7
        have hs35 := tf_keepF hF28 ha0 rfl rfl (by decide) hs8
        have hs36 := tf_keepF hF28 ha0 rfl rfl (by decide) hs9
        have hs37 := tf_keepF hF28 ha0 rfl rfl (by decide) hs10
        have hs38 := tf_keepF hF28 ha0 rfl rfl (by decide) hs11
        have hs39 := tf_keepF hF28 ha0 rfl rfl (by decide) hs12
        have hs40 := tf_keepF hF28 ha0 rfl rfl (by decide) hs13
        have hs41 := tf_keepF hF28 ha0 rfl rfl (by decide) hs14
        have hs42 := tf_keepF hF28 ha0 rfl rfl (by decide) hs15
        have hs43 := tf_keepF hF28 ha0 rfl rfl (by decide) hs16
        have hs44 := tf_keepC hF28 hqop rfl (by decide) hs17
        have hs45 := tf_keepC hF28 hqar rfl (by decide) hs18
        have hs46 := tf_keepC hF28 hqpi rfl (by decide) hs19
        have hs47 := tf_keepC hF28 hqpa rfl (by decide) hs20
        have hs48 := tf_keepF hF28 ha0 rfl rfl (by decide) hs21
        have hs49 := tf_keepC hF28 htm rfl (by decide) hs22
        have hs50 := tf_keepF hF28 ha0 rfl rfl (by decide) hs23
        have hs51 := tf_keepC hF28 hwd rfl (by decide) hs24
        obtain ⟨hp28_0, hp28_1, hp28_2⟩ := hp28
        refine tf_callv (va_runV (As := [.int (Int32.ofInt z28)]) (rest := []) ⟨hx, hb, hml, hown, hts⟩ (c_X10_settle l g T a0 ha0 (z28) ⟨by omega, by omega⟩ qop hqop qar hqar qpi hqpi qpa hqpa (gc) ⟨by omega, by omega⟩ (gp) ⟨by omega, by omega⟩ rop rar rpi rpa (by first | assumption | omega) (tf_PI_PB hq3 (by omega))) (cwV 1 hts gv_X10_291 rfl rfl rfl hd_X10_settle ⟨Nat.le_trans (by decide) hR1, Nat.le_trans (by decide) hR2⟩) (tf_preV hk hW ha0 (ci := 10) rfl rfl ⟨hs29, hs30, hs31, hs32, hs39, hs40, hs44, hs45, hs46, hs47⟩) rfl rfl hl.1 rfl (lv_room (Nat.le_of_ble_eq_true rfl)) dX10_behindSum_68 ⟨Nat.zero_le _, Nat.zero_le _⟩) hW (by decide) (fun HS locsS hW hFS hpS => ?_)
        have hs52 := tf_keepF hFS ha0 rfl rfl (by decide) hs29
        have hs53 := tf_keepF hFS ha0 rfl rfl (by decide) hs30
        have hs54 := tf_keepF hFS ha0 rfl rfl (by decide) hs31
        have hs55 := tf_keepF hFS ha0 rfl rfl (by decide) hs32
        have hs56 := tf_keepF hFS ha0 rfl rfl (by decide) hs33
        have hs57 := tf_keepF hFS ha0 rfl rfl (by decide) hs34
        have hs58 := tf_keepF hFS ha0 rfl rfl (by decide) hs35
        have hs59 := tf_keepF hFS ha0 rfl rfl (by decide) hs36
        have hs60 := tf_keepF hFS ha0 rfl rfl (by decide) hs37
        have hs61 := tf_keepF hFS ha0 rfl rfl (by decide) hs38
        have hs62 := tf_keepF hFS ha0 rfl rfl (by decide) hs41
        have hs63 := tf_keepF hFS ha0 rfl rfl (by decide) hs42
        have hs64 := tf_keepF hFS ha0 rfl rfl (by decide) hs43
        have hs65 := tf_keepC hFS hqpi rfl (by decide) hs46
        have hs66 := tf_keepC hFS hqpa rfl (by decide) hs47
        have hs67 := tf_keepF hFS ha0 rfl rfl (by decide) hs48
        have hs68 := tf_keepC hFS htm rfl (by decide) hs49
        have hs69 := tf_keepF hFS ha0 rfl rfl (by decide) hs50
        have hs70 := tf_keepC hFS hwd rfl (by decide) hs51
        obtain ⟨gc1_S, gp1_S, rop1_S, rar1_S, hXS_0, hXS_1, hXS_2, hXS_3, hBS_0, hBS_1, hRS_0, hRS_1, hRS_2, hRS_3, hRS_4, hRS_5, hRS_6⟩ := hpS
        refine lv_aload_n hx hb dX10_behindSum_71 rfl (lv_at hl 1 rfl) ?_
        refine lv_iload_n hx hb dX10_behindSum_72 rfl (lv_at hl 0 rfl) ?_
        refine tf_iconst hx hb dX10_behindSum_73 ?_
        refine tf_callv (va_runV (As := [.int (Int32.ofInt 20), .int (Int32.ofInt 0)]) (rest := []) ⟨hx, hb, hml, hown, hts⟩ (c_X10_push l g T a0 ha0 (20) ⟨by omega, by omega⟩ (0) ⟨by omega, by omega⟩ qpi hqpi qpa hqpa (gp1_S) ⟨by omega, by omega⟩ rpi rpa) (cwV 2 hts gv_X10_265 rfl rfl rfl hd_X10_push ⟨Nat.le_trans (by decide) hR1, Nat.le_trans (by decide) hR2⟩) (tf_preV hk hW ha0 (ci := 10) rfl rfl ⟨hs54, hs55, hXS_1, hs65, hs66⟩) rfl rfl hl.1 rfl (lv_room (Nat.le_of_ble_eq_true rfl)) dX10_behindSum_74 ⟨Nat.zero_le _, Nat.zero_le _⟩) hW (by decide) (fun H71 locs71 hW hF71 hp71 => ?_)
        have hs72 := tf_keepF hF71 ha0 rfl rfl (by decide) hs52
        have hs73 := tf_keepF hF71 ha0 rfl rfl (by decide) hs53
        have hs74 := tf_keepF hF71 ha0 rfl rfl (by decide) hs54
        have hs75 := tf_keepF hF71 ha0 rfl rfl (by decide) hs55
        have hs76 := tf_keepF hF71 ha0 rfl rfl (by decide) hs56
        have hs77 := tf_keepF hF71 ha0 rfl rfl (by decide) hs57
        have hs78 := tf_keepF hF71 ha0 rfl rfl (by decide) hs58
        have hs79 := tf_keepF hF71 ha0 rfl rfl (by decide) hs59
        have hs80 := tf_keepF hF71 ha0 rfl rfl (by decide) hs60
        have hs81 := tf_keepF hF71 ha0 rfl rfl (by decide) hs61
        have hs82 := tf_keepF hF71 ha0 rfl rfl (by decide) hs62
        have hs83 := tf_keepF hF71 ha0 rfl rfl (by decide) hs63
        have hs84 := tf_keepF hF71 ha0 rfl rfl (by decide) hs64
        have hs85 := tf_keepF hF71 ha0 rfl rfl (by decide) hs67
        have hs86 := tf_keepC hF71 htm rfl (by decide) hs68
        have hs87 := tf_keepF hF71 ha0 rfl rfl (by decide) hs69
        have hs88 := tf_keepC hF71 hwd rfl (by decide) hs70
        have hs89 := tf_keepF hF71 ha0 rfl rfl (by decide) hXS_0
        have hs90 := tf_keepC hF71 hqop rfl (by decide) hXS_2
        have hs91 := tf_keepC hF71 hqar rfl (by decide) hXS_3
        obtain ⟨ho71_0, ho71_1, ho71_2⟩ := hp71
        refine lv_aload_n hx hb dX10_behindSum_77 rfl (lv_at hl 1 rfl) ?_
        refine tf_callv (va_runV (As := []) (rest := []) ⟨hx, hb, hml, hown, hts⟩ (c_X10_next l g T a0 ha0 tm htm (gn) ⟨by omega, by omega⟩ (gt) ⟨by omega, by omega⟩ tp (by first | assumption | omega)) (cwV 0 hts gv_X10_204 rfl rfl rfl hd_X10_next ⟨Nat.le_trans (by decide) hR1, Nat.le_trans (by decide) hR2⟩) (tf_preV hk hW ha0 (ci := 10) rfl rfl ⟨hs76, hs78, hs85, hs86⟩) rfl rfl hl.1 rfl (lv_room (Nat.le_of_ble_eq_true rfl)) dX10_behindSum_78 ⟨Nat.zero_le _, Nat.zero_le _⟩) hW (by decide) (fun HN locsN hW hFN hpN => ?_)
        have hs92 := tf_keepF hFN ha0 rfl rfl (by decide) hs72
        have hs93 := tf_keepF hFN ha0 rfl rfl (by decide) hs73
        have hs94 := tf_keepF hFN ha0 rfl rfl (by decide) hs74
        have hs95 := tf_keepF hFN ha0 rfl rfl (by decide) hs75
        have hs96 := tf_keepF hFN ha0 rfl rfl (by decide) hs76
        have hs97 := tf_keepF hFN ha0 rfl rfl (by decide) hs81
        have hs98 := tf_keepF hFN ha0 rfl rfl (by decide) hs82
        have hs99 := tf_keepF hFN ha0 rfl rfl (by decide) hs83
        have hs100 := tf_keepF hFN ha0 rfl rfl (by decide) hs84
        have hs101 := tf_keepF hFN ha0 rfl rfl (by decide) hs85
        have hs102 := tf_keepC hFN htm rfl (by decide) hs86
        have hs103 := tf_keepF hFN ha0 rfl rfl (by decide) hs87
        have hs104 := tf_keepC hFN hwd rfl (by decide) hs88
        have hs105 := tf_keepF hFN ha0 rfl rfl (by decide) hs89
        have hs106 := tf_keepC hFN hqop rfl (by decide) hs90
        have hs107 := tf_keepC hFN hqar rfl (by decide) hs91
        have hs108 := tf_keepF hFN ha0 rfl rfl (by decide) ho71_0
        have hs109 := tf_keepC hFN hqpi rfl (by decide) ho71_1
        have hs110 := tf_keepC hFN hqpa rfl (by decide) ho71_2
        obtain ⟨gf1_N, gt1_N, gs1_N, gw1_N, hXN_0, hXN_1, hXN_2, hXN_3, hBN_0, hBN_1, hBN_2, hBN_3, hRN_0, hRN_1, hRN_2⟩ := hpN
        refine tf_iconst hx hb dX10_behindSum_81 ?_
        exact tf_reti (z := 1) hx hb hr hlocks hQ hW ⟨by omega, by omega, ⟨(gb), (gf1_N), (gt1_N), (gs1_N), (gw1_N), (gc1_S), ((gp1_S + 1)), (gx), (gl), (go), rop1_S, rar1_S, (tf_up (rpi) (gp1_S) (20)), (tf_up (rpa) (gp1_S) (0)), hs97, hXN_0, hXN_1, hXN_2, hXN_3, hs105, hs108, hs98, hs99, hs100, hs106, hs107, hs109, hs110, ⟨by omega, by omega⟩, ⟨by omega, by omega⟩, ⟨by omega, by omega⟩, ⟨by omega, by omega⟩, ⟨by omega, by omega⟩, ⟨by omega, by omega⟩, ⟨by omega, by omega⟩, ⟨by omega, by omega⟩, ⟨by omega, by omega⟩, ⟨by omega, by omega⟩, (by first | assumption | omega), (by first | assumption | omega), (tf_PI_PB (tf_PI_sign (hRS_5 o0 u0 fs hq3) (by omega) (by omega)) (by omega)), (Or.inr (tf_ST1 (tf_PI_sign (hRS_5 o0 u0 fs hq3) (by omega) (by omega)) (tf_Q_push (tf_Q_mono hq4 (by omega)) (by omega)))), (by first | assumption | omega), (tf_er_sum hq5 hq6 (by omega) (by omega) hq3 (by omega) (by omega) hRS_4 (hRS_6 (by omega)) (by omega) (by omega) hRN_2), (by first | assumption | omega)⟩⟩ dX10_behindSum_82
  · refine tf_if_eq (tgt := 14) hx hb ⟨by decide, by decide⟩ dX10_behindSum_6 (by decide) (fun h111 => ?_) (fun h111 => ?_)
    · refine lv_aload_n hx hb dX10_behindSum_14 rfl (lv_at hl 0 rfl) ?_
      refine tf_bipush hx hb dX10_behindSum_15 (by decide) ?_
      refine tf_calli (va_runV (As := [.int (Int32.ofInt 45)]) (rest := []) ⟨hx, hb, hml, hown, hts⟩ (c_X10_isSign l g T a0 ha0 (45) ⟨by omega, by omega⟩ (gs) ⟨by omega, by omega⟩ (gw) ⟨by omega, by omega⟩) (cwV 1 hts gv_X10_271 rfl rfl rfl hd_X10_isSign ⟨Nat.le_trans (by decide) hR1, Nat.le_trans (by decide) hR2⟩) (tf_preV hk hW ha0 (ci := 10) rfl rfl ⟨hs9, hs10⟩) rfl rfl hl.1 rfl (lv_room (Nat.le_of_ble_eq_true rfl)) dX10_behindSum_17 ⟨Nat.zero_le _, Nat.zero_le _⟩) hW (by decide) (fun z112 H112 locs112 hW hF112 hp112 => ?_)
      have hs113 := tf_keepF hF112 ha0 rfl rfl (by decide) hs2
      have hs114 := tf_keepF hF112 ha0 rfl rfl (by decide) hs3
      have hs115 := tf_keepF hF112 ha0 rfl rfl (by decide) hs4
      have hs116 := tf_keepF hF112 ha0 rfl rfl (by decide) hs5
      have hs117 := tf_keepF hF112 ha0 rfl rfl (by decide) hs6
      have hs118 := tf_keepF hF112 ha0 rfl rfl (by decide) hs7
      have hs119 := tf_keepF hF112 ha0 rfl rfl (by decide) hs8
      have hs120 := tf_keepF hF112 ha0 rfl rfl (by decide) hs9
      have hs121 := tf_keepF hF112 ha0 rfl rfl (by decide) hs10
      have hs122 := tf_keepF hF112 ha0 rfl rfl (by decide) hs11
      have hs123 := tf_keepF hF112 ha0 rfl rfl (by decide) hs12
      have hs124 := tf_keepF hF112 ha0 rfl rfl (by decide) hs13
      have hs125 := tf_keepF hF112 ha0 rfl rfl (by decide) hs14
      have hs126 := tf_keepF hF112 ha0 rfl rfl (by decide) hs15
      have hs127 := tf_keepF hF112 ha0 rfl rfl (by decide) hs16
      have hs128 := tf_keepC hF112 hqop rfl (by decide) hs17
      have hs129 := tf_keepC hF112 hqar rfl (by decide) hs18
      have hs130 := tf_keepC hF112 hqpi rfl (by decide) hs19
      have hs131 := tf_keepC hF112 hqpa rfl (by decide) hs20
      have hs132 := tf_keepF hF112 ha0 rfl rfl (by decide) hs21
      have hs133 := tf_keepC hF112 htm rfl (by decide) hs22
      have hs134 := tf_keepF hF112 ha0 rfl rfl (by decide) hs23
      have hs135 := tf_keepC hF112 hwd rfl (by decide) hs24
      rcases hp112 with ⟨rfl, h136⟩ | ⟨rfl, hn45⟩
      · refine tf_if_eq (tgt := 28) hx hb ⟨by decide, by decide⟩ dX10_behindSum_20 (by decide) (fun h137 => ?_) (fun h137 => ?_)
        · exfalso; omega
        · refine tf_bipush hx hb dX10_behindSum_23 (by decide) ?_
          refine lv_goto (tgt := 57) hx hb dX10_behindSum_25 (by decide) ?_
          refine lv_istore_n (lv' := [(2, .int (Int32.ofInt 21)), (0, .ref a0), (1, .int (Int32.ofInt x1))]) hx hb dX10_behindSum_57 rfl hl (by decide) rfl (fun ls hl => ?_)
          refine lv_iload_n hx hb dX10_behindSum_58 rfl (lv_at hl 0 rfl) ?_
          refine tf_iconst hx hb dX10_behindSum_59 ?_
          refine tf_icmp_eq (tgt := 83) hx hb ⟨by decide, by decide⟩ ⟨by decide, by decide⟩ dX10_behindSum_60 (by decide) (fun h138 => ?_) (fun h138 => ?_)
          · exfalso; omega
          · refine lv_aload_n hx hb dX10_behindSum_63 rfl (lv_at hl 1 rfl) ?_
            refine lv_iload_n hx hb dX10_behindSum_64 rfl (lv_at hl 0 rfl) ?_
            refine tf_calli (va_runS (As := [.int (Int32.ofInt 21)]) (rest := [.ref a0]) ⟨hx, hb, hml, hown, hts⟩ (c_X10_binds l g T (21) ⟨by omega, by omega⟩) ⟨callB_of 1 hts (gw_ws cm_X10_binds) rfl rfl rfl (hts _ (tw1 (i := 5) rfl)) (hts _ (tw31 (i := 1) rfl)) hd_X10_binds.2 ⟨Nat.le_trans (by decide) hR1, Nat.le_trans (by decide) hR2⟩, hts _ (tw31 (i := 2) rfl)⟩ (tf_preS hk hW trivial) rfl rfl hl.1 rfl (lv_room (Nat.le_of_ble_eq_true rfl)) dX10_behindSum_65 ⟨Nat.zero_le _, Nat.zero_le _⟩) hW (by decide) (fun z139 H139 locs139 hW hF139 hp139 => ?_)
            have hs140 := tf_keepF hF139 ha0 rfl rfl (by decide) hs113
            have hs141 := tf_keepF hF139 ha0 rfl rfl (by decide) hs114
            have hs142 := tf_keepF hF139 ha0 rfl rfl (by decide) hs115
            have hs143 := tf_keepF hF139 ha0 rfl rfl (by decide) hs116
            have hs144 := tf_keepF hF139 ha0 rfl rfl (by decide) hs117
            have hs145 := tf_keepF hF139 ha0 rfl rfl (by decide) hs118
            have hs146 := tf_keepF hF139 ha0 rfl rfl (by decide) hs119
            have hs147 := tf_keepF hF139 ha0 rfl rfl (by decide) hs120
            have hs148 := tf_keepF hF139 ha0 rfl rfl (by decide) hs121
            have hs149 := tf_keepF hF139 ha0 rfl rfl (by decide) hs122
            have hs150 := tf_keepF hF139 ha0 rfl rfl (by decide) hs123
            have hs151 := tf_keepF hF139 ha0 rfl rfl (by decide) hs124
            have hs152 := tf_keepF hF139 ha0 rfl rfl (by decide) hs125
            have hs153 := tf_keepF hF139 ha0 rfl rfl (by decide) hs126
            have hs154 := tf_keepF hF139 ha0 rfl rfl (by decide) hs127
            have hs155 := tf_keepC hF139 hqop rfl (by decide) hs128
            have hs156 := tf_keepC hF139 hqar rfl (by decide) hs129
            have hs157 := tf_keepC hF139 hqpi rfl (by decide) hs130
            have hs158 := tf_keepC hF139 hqpa rfl (by decide) hs131
            have hs159 := tf_keepF hF139 ha0 rfl rfl (by decide) hs132
            have hs160 := tf_keepC hF139 htm rfl (by decide) hs133
            have hs161 := tf_keepF hF139 ha0 rfl rfl (by decide) hs134
            have hs162 := tf_keepC hF139 hwd rfl (by decide) hs135
            obtain ⟨hp139_0, hp139_1, hp139_2⟩ := hp139
            refine tf_callv (va_runV (As := [.int (Int32.ofInt z139)]) (rest := []) ⟨hx, hb, hml, hown, hts⟩ (c_X10_settle l g T a0 ha0 (z139) ⟨by omega, by omega⟩ qop hqop qar hqar qpi hqpi qpa hqpa (gc) ⟨by omega, by omega⟩ (gp) ⟨by omega, by omega⟩ rop rar rpi rpa (by first | assumption | omega) (tf_PI_PB hq3 (by omega))) (cwV 1 hts gv_X10_291 rfl rfl rfl hd_X10_settle ⟨Nat.le_trans (by decide) hR1, Nat.le_trans (by decide) hR2⟩) (tf_preV hk hW ha0 (ci := 10) rfl rfl ⟨hs140, hs141, hs142, hs143, hs150, hs151, hs155, hs156, hs157, hs158⟩) rfl rfl hl.1 rfl (lv_room (Nat.le_of_ble_eq_true rfl)) dX10_behindSum_68 ⟨Nat.zero_le _, Nat.zero_le _⟩) hW (by decide) (fun HS locsS hW hFS hpS => ?_)
            have hs163 := tf_keepF hFS ha0 rfl rfl (by decide) hs140
            have hs164 := tf_keepF hFS ha0 rfl rfl (by decide) hs141
            have hs165 := tf_keepF hFS ha0 rfl rfl (by decide) hs142
            have hs166 := tf_keepF hFS ha0 rfl rfl (by decide) hs143
            have hs167 := tf_keepF hFS ha0 rfl rfl (by decide) hs144
            have hs168 := tf_keepF hFS ha0 rfl rfl (by decide) hs145
            have hs169 := tf_keepF hFS ha0 rfl rfl (by decide) hs146
            have hs170 := tf_keepF hFS ha0 rfl rfl (by decide) hs147
            have hs171 := tf_keepF hFS ha0 rfl rfl (by decide) hs148
            have hs172 := tf_keepF hFS ha0 rfl rfl (by decide) hs149
            have hs173 := tf_keepF hFS ha0 rfl rfl (by decide) hs152
            have hs174 := tf_keepF hFS ha0 rfl rfl (by decide) hs153
            have hs175 := tf_keepF hFS ha0 rfl rfl (by decide) hs154
            have hs176 := tf_keepC hFS hqpi rfl (by decide) hs157
            have hs177 := tf_keepC hFS hqpa rfl (by decide) hs158
            have hs178 := tf_keepF hFS ha0 rfl rfl (by decide) hs159
            have hs179 := tf_keepC hFS htm rfl (by decide) hs160
            have hs180 := tf_keepF hFS ha0 rfl rfl (by decide) hs161
            have hs181 := tf_keepC hFS hwd rfl (by decide) hs162
            obtain ⟨gc1_S, gp1_S, rop1_S, rar1_S, hXS_0, hXS_1, hXS_2, hXS_3, hBS_0, hBS_1, hRS_0, hRS_1, hRS_2, hRS_3, hRS_4, hRS_5, hRS_6⟩ := hpS
            refine lv_aload_n hx hb dX10_behindSum_71 rfl (lv_at hl 1 rfl) ?_
            refine lv_iload_n hx hb dX10_behindSum_72 rfl (lv_at hl 0 rfl) ?_
            refine tf_iconst hx hb dX10_behindSum_73 ?_
            refine tf_callv (va_runV (As := [.int (Int32.ofInt 21), .int (Int32.ofInt 0)]) (rest := []) ⟨hx, hb, hml, hown, hts⟩ (c_X10_push l g T a0 ha0 (21) ⟨by omega, by omega⟩ (0) ⟨by omega, by omega⟩ qpi hqpi qpa hqpa (gp1_S) ⟨by omega, by omega⟩ rpi rpa) (cwV 2 hts gv_X10_265 rfl rfl rfl hd_X10_push ⟨Nat.le_trans (by decide) hR1, Nat.le_trans (by decide) hR2⟩) (tf_preV hk hW ha0 (ci := 10) rfl rfl ⟨hs165, hs166, hXS_1, hs176, hs177⟩) rfl rfl hl.1 rfl (lv_room (Nat.le_of_ble_eq_true rfl)) dX10_behindSum_74 ⟨Nat.zero_le _, Nat.zero_le _⟩) hW (by decide) (fun H182 locs182 hW hF182 hp182 => ?_)
            have hs183 := tf_keepF hF182 ha0 rfl rfl (by decide) hs163
            have hs184 := tf_keepF hF182 ha0 rfl rfl (by decide) hs164
            have hs185 := tf_keepF hF182 ha0 rfl rfl (by decide) hs165
            have hs186 := tf_keepF hF182 ha0 rfl rfl (by decide) hs166
            have hs187 := tf_keepF hF182 ha0 rfl rfl (by decide) hs167
            have hs188 := tf_keepF hF182 ha0 rfl rfl (by decide) hs168
            have hs189 := tf_keepF hF182 ha0 rfl rfl (by decide) hs169
            have hs190 := tf_keepF hF182 ha0 rfl rfl (by decide) hs170
            have hs191 := tf_keepF hF182 ha0 rfl rfl (by decide) hs171
            have hs192 := tf_keepF hF182 ha0 rfl rfl (by decide) hs172
            have hs193 := tf_keepF hF182 ha0 rfl rfl (by decide) hs173
            have hs194 := tf_keepF hF182 ha0 rfl rfl (by decide) hs174
            have hs195 := tf_keepF hF182 ha0 rfl rfl (by decide) hs175
            have hs196 := tf_keepF hF182 ha0 rfl rfl (by decide) hs178
            have hs197 := tf_keepC hF182 htm rfl (by decide) hs179
            have hs198 := tf_keepF hF182 ha0 rfl rfl (by decide) hs180
            have hs199 := tf_keepC hF182 hwd rfl (by decide) hs181
            have hs200 := tf_keepF hF182 ha0 rfl rfl (by decide) hXS_0
            have hs201 := tf_keepC hF182 hqop rfl (by decide) hXS_2
            have hs202 := tf_keepC hF182 hqar rfl (by decide) hXS_3
            obtain ⟨ho182_0, ho182_1, ho182_2⟩ := hp182
            refine lv_aload_n hx hb dX10_behindSum_77 rfl (lv_at hl 1 rfl) ?_
            refine tf_callv (va_runV (As := []) (rest := []) ⟨hx, hb, hml, hown, hts⟩ (c_X10_next l g T a0 ha0 tm htm (gn) ⟨by omega, by omega⟩ (gt) ⟨by omega, by omega⟩ tp (by first | assumption | omega)) (cwV 0 hts gv_X10_204 rfl rfl rfl hd_X10_next ⟨Nat.le_trans (by decide) hR1, Nat.le_trans (by decide) hR2⟩) (tf_preV hk hW ha0 (ci := 10) rfl rfl ⟨hs187, hs189, hs196, hs197⟩) rfl rfl hl.1 rfl (lv_room (Nat.le_of_ble_eq_true rfl)) dX10_behindSum_78 ⟨Nat.zero_le _, Nat.zero_le _⟩) hW (by decide) (fun HN locsN hW hFN hpN => ?_)
            have hs203 := tf_keepF hFN ha0 rfl rfl (by decide) hs183
            have hs204 := tf_keepF hFN ha0 rfl rfl (by decide) hs184
            have hs205 := tf_keepF hFN ha0 rfl rfl (by decide) hs185
            have hs206 := tf_keepF hFN ha0 rfl rfl (by decide) hs186
            have hs207 := tf_keepF hFN ha0 rfl rfl (by decide) hs187
            have hs208 := tf_keepF hFN ha0 rfl rfl (by decide) hs192
            have hs209 := tf_keepF hFN ha0 rfl rfl (by decide) hs193
            have hs210 := tf_keepF hFN ha0 rfl rfl (by decide) hs194
            have hs211 := tf_keepF hFN ha0 rfl rfl (by decide) hs195
            have hs212 := tf_keepF hFN ha0 rfl rfl (by decide) hs196
            have hs213 := tf_keepC hFN htm rfl (by decide) hs197
            have hs214 := tf_keepF hFN ha0 rfl rfl (by decide) hs198
            have hs215 := tf_keepC hFN hwd rfl (by decide) hs199
            have hs216 := tf_keepF hFN ha0 rfl rfl (by decide) hs200
            have hs217 := tf_keepC hFN hqop rfl (by decide) hs201
            have hs218 := tf_keepC hFN hqar rfl (by decide) hs202
            have hs219 := tf_keepF hFN ha0 rfl rfl (by decide) ho182_0
            have hs220 := tf_keepC hFN hqpi rfl (by decide) ho182_1
            have hs221 := tf_keepC hFN hqpa rfl (by decide) ho182_2
            obtain ⟨gf1_N, gt1_N, gs1_N, gw1_N, hXN_0, hXN_1, hXN_2, hXN_3, hBN_0, hBN_1, hBN_2, hBN_3, hRN_0, hRN_1, hRN_2⟩ := hpN
            refine tf_iconst hx hb dX10_behindSum_81 ?_
            exact tf_reti (z := 1) hx hb hr hlocks hQ hW ⟨by omega, by omega, ⟨(gb), (gf1_N), (gt1_N), (gs1_N), (gw1_N), (gc1_S), ((gp1_S + 1)), (gx), (gl), (go), rop1_S, rar1_S, (tf_up (rpi) (gp1_S) (21)), (tf_up (rpa) (gp1_S) (0)), hs208, hXN_0, hXN_1, hXN_2, hXN_3, hs216, hs219, hs209, hs210, hs211, hs217, hs218, hs220, hs221, ⟨by omega, by omega⟩, ⟨by omega, by omega⟩, ⟨by omega, by omega⟩, ⟨by omega, by omega⟩, ⟨by omega, by omega⟩, ⟨by omega, by omega⟩, ⟨by omega, by omega⟩, ⟨by omega, by omega⟩, ⟨by omega, by omega⟩, ⟨by omega, by omega⟩, (by first | assumption | omega), (by first | assumption | omega), (tf_PI_PB (tf_PI_sign (hRS_5 o0 u0 fs hq3) (by omega) (by omega)) (by omega)), (Or.inr (tf_ST1 (tf_PI_sign (hRS_5 o0 u0 fs hq3) (by omega) (by omega)) (tf_Q_push (tf_Q_mono hq4 (by omega)) (by omega)))), (by first | assumption | omega), (tf_er_sum hq5 hq6 (by omega) (by omega) hq3 (by omega) (by omega) hRS_4 (hRS_6 (by omega)) (by omega) (by omega) hRN_2), (by first | assumption | omega)⟩⟩ dX10_behindSum_82
      · refine tf_if_eq (tgt := 28) hx hb ⟨by decide, by decide⟩ dX10_behindSum_20 (by decide) (fun h222 => ?_) (fun h222 => ?_)
        · refine lv_aload_n hx hb dX10_behindSum_28 rfl (lv_at hl 0 rfl) ?_
          refine tf_bipush hx hb dX10_behindSum_29 (by decide) ?_
          refine tf_calli (va_runV (As := [.int (Int32.ofInt 42)]) (rest := []) ⟨hx, hb, hml, hown, hts⟩ (c_X10_isSign l g T a0 ha0 (42) ⟨by omega, by omega⟩ (gs) ⟨by omega, by omega⟩ (gw) ⟨by omega, by omega⟩) (cwV 1 hts gv_X10_271 rfl rfl rfl hd_X10_isSign ⟨Nat.le_trans (by decide) hR1, Nat.le_trans (by decide) hR2⟩) (tf_preV hk hW ha0 (ci := 10) rfl rfl ⟨hs120, hs121⟩) rfl rfl hl.1 rfl (lv_room (Nat.le_of_ble_eq_true rfl)) dX10_behindSum_31 ⟨Nat.zero_le _, Nat.zero_le _⟩) hW (by decide) (fun z223 H223 locs223 hW hF223 hp223 => ?_)
          have hs224 := tf_keepF hF223 ha0 rfl rfl (by decide) hs113
          have hs225 := tf_keepF hF223 ha0 rfl rfl (by decide) hs114
          have hs226 := tf_keepF hF223 ha0 rfl rfl (by decide) hs115
          have hs227 := tf_keepF hF223 ha0 rfl rfl (by decide) hs116
          have hs228 := tf_keepF hF223 ha0 rfl rfl (by decide) hs117
          have hs229 := tf_keepF hF223 ha0 rfl rfl (by decide) hs118
          have hs230 := tf_keepF hF223 ha0 rfl rfl (by decide) hs119
          have hs231 := tf_keepF hF223 ha0 rfl rfl (by decide) hs120
          have hs232 := tf_keepF hF223 ha0 rfl rfl (by decide) hs121
          have hs233 := tf_keepF hF223 ha0 rfl rfl (by decide) hs122
          have hs234 := tf_keepF hF223 ha0 rfl rfl (by decide) hs123
          have hs235 := tf_keepF hF223 ha0 rfl rfl (by decide) hs124
          have hs236 := tf_keepF hF223 ha0 rfl rfl (by decide) hs125
          have hs237 := tf_keepF hF223 ha0 rfl rfl (by decide) hs126
          have hs238 := tf_keepF hF223 ha0 rfl rfl (by decide) hs127
          have hs239 := tf_keepC hF223 hqop rfl (by decide) hs128
          have hs240 := tf_keepC hF223 hqar rfl (by decide) hs129
          have hs241 := tf_keepC hF223 hqpi rfl (by decide) hs130
          have hs242 := tf_keepC hF223 hqpa rfl (by decide) hs131
          have hs243 := tf_keepF hF223 ha0 rfl rfl (by decide) hs132
          have hs244 := tf_keepC hF223 htm rfl (by decide) hs133
          have hs245 := tf_keepF hF223 ha0 rfl rfl (by decide) hs134
          have hs246 := tf_keepC hF223 hwd rfl (by decide) hs135
          rcases hp223 with ⟨rfl, h247⟩ | ⟨rfl, hn42⟩
          · refine tf_if_eq (tgt := 42) hx hb ⟨by decide, by decide⟩ dX10_behindSum_34 (by decide) (fun h248 => ?_) (fun h248 => ?_)
            · exfalso; omega
            · refine tf_bipush hx hb dX10_behindSum_37 (by decide) ?_
              refine lv_goto (tgt := 57) hx hb dX10_behindSum_39 (by decide) ?_
              refine lv_istore_n (lv' := [(2, .int (Int32.ofInt 22)), (0, .ref a0), (1, .int (Int32.ofInt x1))]) hx hb dX10_behindSum_57 rfl hl (by decide) rfl (fun ls hl => ?_)
              refine lv_iload_n hx hb dX10_behindSum_58 rfl (lv_at hl 0 rfl) ?_
              refine tf_iconst hx hb dX10_behindSum_59 ?_
              refine tf_icmp_eq (tgt := 83) hx hb ⟨by decide, by decide⟩ ⟨by decide, by decide⟩ dX10_behindSum_60 (by decide) (fun h249 => ?_) (fun h249 => ?_)
              · exfalso; omega
              · refine lv_aload_n hx hb dX10_behindSum_63 rfl (lv_at hl 1 rfl) ?_
                refine lv_iload_n hx hb dX10_behindSum_64 rfl (lv_at hl 0 rfl) ?_
                refine tf_calli (va_runS (As := [.int (Int32.ofInt 22)]) (rest := [.ref a0]) ⟨hx, hb, hml, hown, hts⟩ (c_X10_binds l g T (22) ⟨by omega, by omega⟩) ⟨callB_of 1 hts (gw_ws cm_X10_binds) rfl rfl rfl (hts _ (tw1 (i := 5) rfl)) (hts _ (tw31 (i := 1) rfl)) hd_X10_binds.2 ⟨Nat.le_trans (by decide) hR1, Nat.le_trans (by decide) hR2⟩, hts _ (tw31 (i := 2) rfl)⟩ (tf_preS hk hW trivial) rfl rfl hl.1 rfl (lv_room (Nat.le_of_ble_eq_true rfl)) dX10_behindSum_65 ⟨Nat.zero_le _, Nat.zero_le _⟩) hW (by decide) (fun z250 H250 locs250 hW hF250 hp250 => ?_)
                have hs251 := tf_keepF hF250 ha0 rfl rfl (by decide) hs224
                have hs252 := tf_keepF hF250 ha0 rfl rfl (by decide) hs225
                have hs253 := tf_keepF hF250 ha0 rfl rfl (by decide) hs226
                have hs254 := tf_keepF hF250 ha0 rfl rfl (by decide) hs227
                have hs255 := tf_keepF hF250 ha0 rfl rfl (by decide) hs228
                have hs256 := tf_keepF hF250 ha0 rfl rfl (by decide) hs229
                have hs257 := tf_keepF hF250 ha0 rfl rfl (by decide) hs230
                have hs258 := tf_keepF hF250 ha0 rfl rfl (by decide) hs231
                have hs259 := tf_keepF hF250 ha0 rfl rfl (by decide) hs232
                have hs260 := tf_keepF hF250 ha0 rfl rfl (by decide) hs233
                have hs261 := tf_keepF hF250 ha0 rfl rfl (by decide) hs234
                have hs262 := tf_keepF hF250 ha0 rfl rfl (by decide) hs235
                have hs263 := tf_keepF hF250 ha0 rfl rfl (by decide) hs236
                have hs264 := tf_keepF hF250 ha0 rfl rfl (by decide) hs237
                have hs265 := tf_keepF hF250 ha0 rfl rfl (by decide) hs238
                have hs266 := tf_keepC hF250 hqop rfl (by decide) hs239
                have hs267 := tf_keepC hF250 hqar rfl (by decide) hs240
                have hs268 := tf_keepC hF250 hqpi rfl (by decide) hs241
                have hs269 := tf_keepC hF250 hqpa rfl (by decide) hs242
                have hs270 := tf_keepF hF250 ha0 rfl rfl (by decide) hs243
                have hs271 := tf_keepC hF250 htm rfl (by decide) hs244
                have hs272 := tf_keepF hF250 ha0 rfl rfl (by decide) hs245
                have hs273 := tf_keepC hF250 hwd rfl (by decide) hs246
                obtain ⟨hp250_0, hp250_1, hp250_2⟩ := hp250
                refine tf_callv (va_runV (As := [.int (Int32.ofInt z250)]) (rest := []) ⟨hx, hb, hml, hown, hts⟩ (c_X10_settle l g T a0 ha0 (z250) ⟨by omega, by omega⟩ qop hqop qar hqar qpi hqpi qpa hqpa (gc) ⟨by omega, by omega⟩ (gp) ⟨by omega, by omega⟩ rop rar rpi rpa (by first | assumption | omega) (tf_PI_PB hq3 (by omega))) (cwV 1 hts gv_X10_291 rfl rfl rfl hd_X10_settle ⟨Nat.le_trans (by decide) hR1, Nat.le_trans (by decide) hR2⟩) (tf_preV hk hW ha0 (ci := 10) rfl rfl ⟨hs251, hs252, hs253, hs254, hs261, hs262, hs266, hs267, hs268, hs269⟩) rfl rfl hl.1 rfl (lv_room (Nat.le_of_ble_eq_true rfl)) dX10_behindSum_68 ⟨Nat.zero_le _, Nat.zero_le _⟩) hW (by decide) (fun HS locsS hW hFS hpS => ?_)
                have hs274 := tf_keepF hFS ha0 rfl rfl (by decide) hs251
                have hs275 := tf_keepF hFS ha0 rfl rfl (by decide) hs252
                have hs276 := tf_keepF hFS ha0 rfl rfl (by decide) hs253
                have hs277 := tf_keepF hFS ha0 rfl rfl (by decide) hs254
                have hs278 := tf_keepF hFS ha0 rfl rfl (by decide) hs255
                have hs279 := tf_keepF hFS ha0 rfl rfl (by decide) hs256
                have hs280 := tf_keepF hFS ha0 rfl rfl (by decide) hs257
                have hs281 := tf_keepF hFS ha0 rfl rfl (by decide) hs258
                have hs282 := tf_keepF hFS ha0 rfl rfl (by decide) hs259
                have hs283 := tf_keepF hFS ha0 rfl rfl (by decide) hs260
                have hs284 := tf_keepF hFS ha0 rfl rfl (by decide) hs263
                have hs285 := tf_keepF hFS ha0 rfl rfl (by decide) hs264
                have hs286 := tf_keepF hFS ha0 rfl rfl (by decide) hs265
                have hs287 := tf_keepC hFS hqpi rfl (by decide) hs268
                have hs288 := tf_keepC hFS hqpa rfl (by decide) hs269
                have hs289 := tf_keepF hFS ha0 rfl rfl (by decide) hs270
                have hs290 := tf_keepC hFS htm rfl (by decide) hs271
                have hs291 := tf_keepF hFS ha0 rfl rfl (by decide) hs272
                have hs292 := tf_keepC hFS hwd rfl (by decide) hs273
                obtain ⟨gc1_S, gp1_S, rop1_S, rar1_S, hXS_0, hXS_1, hXS_2, hXS_3, hBS_0, hBS_1, hRS_0, hRS_1, hRS_2, hRS_3, hRS_4, hRS_5, hRS_6⟩ := hpS
                refine lv_aload_n hx hb dX10_behindSum_71 rfl (lv_at hl 1 rfl) ?_
                refine lv_iload_n hx hb dX10_behindSum_72 rfl (lv_at hl 0 rfl) ?_
                refine tf_iconst hx hb dX10_behindSum_73 ?_
                refine tf_callv (va_runV (As := [.int (Int32.ofInt 22), .int (Int32.ofInt 0)]) (rest := []) ⟨hx, hb, hml, hown, hts⟩ (c_X10_push l g T a0 ha0 (22) ⟨by omega, by omega⟩ (0) ⟨by omega, by omega⟩ qpi hqpi qpa hqpa (gp1_S) ⟨by omega, by omega⟩ rpi rpa) (cwV 2 hts gv_X10_265 rfl rfl rfl hd_X10_push ⟨Nat.le_trans (by decide) hR1, Nat.le_trans (by decide) hR2⟩) (tf_preV hk hW ha0 (ci := 10) rfl rfl ⟨hs276, hs277, hXS_1, hs287, hs288⟩) rfl rfl hl.1 rfl (lv_room (Nat.le_of_ble_eq_true rfl)) dX10_behindSum_74 ⟨Nat.zero_le _, Nat.zero_le _⟩) hW (by decide) (fun H293 locs293 hW hF293 hp293 => ?_)
                have hs294 := tf_keepF hF293 ha0 rfl rfl (by decide) hs274
                have hs295 := tf_keepF hF293 ha0 rfl rfl (by decide) hs275
                have hs296 := tf_keepF hF293 ha0 rfl rfl (by decide) hs276
                have hs297 := tf_keepF hF293 ha0 rfl rfl (by decide) hs277
                have hs298 := tf_keepF hF293 ha0 rfl rfl (by decide) hs278
                have hs299 := tf_keepF hF293 ha0 rfl rfl (by decide) hs279
                have hs300 := tf_keepF hF293 ha0 rfl rfl (by decide) hs280
                have hs301 := tf_keepF hF293 ha0 rfl rfl (by decide) hs281
                have hs302 := tf_keepF hF293 ha0 rfl rfl (by decide) hs282
                have hs303 := tf_keepF hF293 ha0 rfl rfl (by decide) hs283
                have hs304 := tf_keepF hF293 ha0 rfl rfl (by decide) hs284
                have hs305 := tf_keepF hF293 ha0 rfl rfl (by decide) hs285
                have hs306 := tf_keepF hF293 ha0 rfl rfl (by decide) hs286
                have hs307 := tf_keepF hF293 ha0 rfl rfl (by decide) hs289
                have hs308 := tf_keepC hF293 htm rfl (by decide) hs290
                have hs309 := tf_keepF hF293 ha0 rfl rfl (by decide) hs291
                have hs310 := tf_keepC hF293 hwd rfl (by decide) hs292
                have hs311 := tf_keepF hF293 ha0 rfl rfl (by decide) hXS_0
                have hs312 := tf_keepC hF293 hqop rfl (by decide) hXS_2
                have hs313 := tf_keepC hF293 hqar rfl (by decide) hXS_3
                obtain ⟨ho293_0, ho293_1, ho293_2⟩ := hp293
                refine lv_aload_n hx hb dX10_behindSum_77 rfl (lv_at hl 1 rfl) ?_
                refine tf_callv (va_runV (As := []) (rest := []) ⟨hx, hb, hml, hown, hts⟩ (c_X10_next l g T a0 ha0 tm htm (gn) ⟨by omega, by omega⟩ (gt) ⟨by omega, by omega⟩ tp (by first | assumption | omega)) (cwV 0 hts gv_X10_204 rfl rfl rfl hd_X10_next ⟨Nat.le_trans (by decide) hR1, Nat.le_trans (by decide) hR2⟩) (tf_preV hk hW ha0 (ci := 10) rfl rfl ⟨hs298, hs300, hs307, hs308⟩) rfl rfl hl.1 rfl (lv_room (Nat.le_of_ble_eq_true rfl)) dX10_behindSum_78 ⟨Nat.zero_le _, Nat.zero_le _⟩) hW (by decide) (fun HN locsN hW hFN hpN => ?_)
                have hs314 := tf_keepF hFN ha0 rfl rfl (by decide) hs294
                have hs315 := tf_keepF hFN ha0 rfl rfl (by decide) hs295
                have hs316 := tf_keepF hFN ha0 rfl rfl (by decide) hs296
                have hs317 := tf_keepF hFN ha0 rfl rfl (by decide) hs297
                have hs318 := tf_keepF hFN ha0 rfl rfl (by decide) hs298
                have hs319 := tf_keepF hFN ha0 rfl rfl (by decide) hs303
                have hs320 := tf_keepF hFN ha0 rfl rfl (by decide) hs304
                have hs321 := tf_keepF hFN ha0 rfl rfl (by decide) hs305
                have hs322 := tf_keepF hFN ha0 rfl rfl (by decide) hs306
                have hs323 := tf_keepF hFN ha0 rfl rfl (by decide) hs307
                have hs324 := tf_keepC hFN htm rfl (by decide) hs308
                have hs325 := tf_keepF hFN ha0 rfl rfl (by decide) hs309
                have hs326 := tf_keepC hFN hwd rfl (by decide) hs310
                have hs327 := tf_keepF hFN ha0 rfl rfl (by decide) hs311
                have hs328 := tf_keepC hFN hqop rfl (by decide) hs312
                have hs329 := tf_keepC hFN hqar rfl (by decide) hs313
                have hs330 := tf_keepF hFN ha0 rfl rfl (by decide) ho293_0
                have hs331 := tf_keepC hFN hqpi rfl (by decide) ho293_1
                have hs332 := tf_keepC hFN hqpa rfl (by decide) ho293_2
                obtain ⟨gf1_N, gt1_N, gs1_N, gw1_N, hXN_0, hXN_1, hXN_2, hXN_3, hBN_0, hBN_1, hBN_2, hBN_3, hRN_0, hRN_1, hRN_2⟩ := hpN
                refine tf_iconst hx hb dX10_behindSum_81 ?_
                exact tf_reti (z := 1) hx hb hr hlocks hQ hW ⟨by omega, by omega, ⟨(gb), (gf1_N), (gt1_N), (gs1_N), (gw1_N), (gc1_S), ((gp1_S + 1)), (gx), (gl), (go), rop1_S, rar1_S, (tf_up (rpi) (gp1_S) (22)), (tf_up (rpa) (gp1_S) (0)), hs319, hXN_0, hXN_1, hXN_2, hXN_3, hs327, hs330, hs320, hs321, hs322, hs328, hs329, hs331, hs332, ⟨by omega, by omega⟩, ⟨by omega, by omega⟩, ⟨by omega, by omega⟩, ⟨by omega, by omega⟩, ⟨by omega, by omega⟩, ⟨by omega, by omega⟩, ⟨by omega, by omega⟩, ⟨by omega, by omega⟩, ⟨by omega, by omega⟩, ⟨by omega, by omega⟩, (by first | assumption | omega), (by first | assumption | omega), (tf_PI_PB (tf_PI_sign (hRS_5 o0 u0 fs hq3) (by omega) (by omega)) (by omega)), (Or.inr (tf_ST1 (tf_PI_sign (hRS_5 o0 u0 fs hq3) (by omega) (by omega)) (tf_Q_push (tf_Q_mono hq4 (by omega)) (by omega)))), (by first | assumption | omega), (tf_er_sum hq5 hq6 (by omega) (by omega) hq3 (by omega) (by omega) hRS_4 (hRS_6 (by omega)) (by omega) (by omega) hRN_2), (by first | assumption | omega)⟩⟩ dX10_behindSum_82
          · refine tf_if_eq (tgt := 42) hx hb ⟨by decide, by decide⟩ dX10_behindSum_34 (by decide) (fun h333 => ?_) (fun h333 => ?_)
            · refine lv_aload_n hx hb dX10_behindSum_42 rfl (lv_at hl 0 rfl) ?_
              refine tf_bipush hx hb dX10_behindSum_43 (by decide) ?_
              refine tf_calli (va_runV (As := [.int (Int32.ofInt 47)]) (rest := []) ⟨hx, hb, hml, hown, hts⟩ (c_X10_isSign l g T a0 ha0 (47) ⟨by omega, by omega⟩ (gs) ⟨by omega, by omega⟩ (gw) ⟨by omega, by omega⟩) (cwV 1 hts gv_X10_271 rfl rfl rfl hd_X10_isSign ⟨Nat.le_trans (by decide) hR1, Nat.le_trans (by decide) hR2⟩) (tf_preV hk hW ha0 (ci := 10) rfl rfl ⟨hs231, hs232⟩) rfl rfl hl.1 rfl (lv_room (Nat.le_of_ble_eq_true rfl)) dX10_behindSum_45 ⟨Nat.zero_le _, Nat.zero_le _⟩) hW (by decide) (fun z334 H334 locs334 hW hF334 hp334 => ?_)
              have hs335 := tf_keepF hF334 ha0 rfl rfl (by decide) hs224
              have hs336 := tf_keepF hF334 ha0 rfl rfl (by decide) hs225
              have hs337 := tf_keepF hF334 ha0 rfl rfl (by decide) hs226
              have hs338 := tf_keepF hF334 ha0 rfl rfl (by decide) hs227
              have hs339 := tf_keepF hF334 ha0 rfl rfl (by decide) hs228
              have hs340 := tf_keepF hF334 ha0 rfl rfl (by decide) hs229
              have hs341 := tf_keepF hF334 ha0 rfl rfl (by decide) hs230
              have hs342 := tf_keepF hF334 ha0 rfl rfl (by decide) hs231
              have hs343 := tf_keepF hF334 ha0 rfl rfl (by decide) hs232
              have hs344 := tf_keepF hF334 ha0 rfl rfl (by decide) hs233
              have hs345 := tf_keepF hF334 ha0 rfl rfl (by decide) hs234
              have hs346 := tf_keepF hF334 ha0 rfl rfl (by decide) hs235
              have hs347 := tf_keepF hF334 ha0 rfl rfl (by decide) hs236
              have hs348 := tf_keepF hF334 ha0 rfl rfl (by decide) hs237
              have hs349 := tf_keepF hF334 ha0 rfl rfl (by decide) hs238
              have hs350 := tf_keepC hF334 hqop rfl (by decide) hs239
              have hs351 := tf_keepC hF334 hqar rfl (by decide) hs240
              have hs352 := tf_keepC hF334 hqpi rfl (by decide) hs241
              have hs353 := tf_keepC hF334 hqpa rfl (by decide) hs242
              have hs354 := tf_keepF hF334 ha0 rfl rfl (by decide) hs243
              have hs355 := tf_keepC hF334 htm rfl (by decide) hs244
              have hs356 := tf_keepF hF334 ha0 rfl rfl (by decide) hs245
              have hs357 := tf_keepC hF334 hwd rfl (by decide) hs246
              rcases hp334 with ⟨rfl, h358⟩ | ⟨rfl, hn47⟩
              · refine tf_if_eq (tgt := 56) hx hb ⟨by decide, by decide⟩ dX10_behindSum_48 (by decide) (fun h359 => ?_) (fun h359 => ?_)
                · exfalso; omega
                · refine tf_bipush hx hb dX10_behindSum_51 (by decide) ?_
                  refine lv_goto (tgt := 57) hx hb dX10_behindSum_53 (by decide) ?_
                  refine lv_istore_n (lv' := [(2, .int (Int32.ofInt 23)), (0, .ref a0), (1, .int (Int32.ofInt x1))]) hx hb dX10_behindSum_57 rfl hl (by decide) rfl (fun ls hl => ?_)
                  refine lv_iload_n hx hb dX10_behindSum_58 rfl (lv_at hl 0 rfl) ?_
                  refine tf_iconst hx hb dX10_behindSum_59 ?_
                  refine tf_icmp_eq (tgt := 83) hx hb ⟨by decide, by decide⟩ ⟨by decide, by decide⟩ dX10_behindSum_60 (by decide) (fun h360 => ?_) (fun h360 => ?_)
                  · exfalso; omega
                  · refine lv_aload_n hx hb dX10_behindSum_63 rfl (lv_at hl 1 rfl) ?_
                    refine lv_iload_n hx hb dX10_behindSum_64 rfl (lv_at hl 0 rfl) ?_
                    refine tf_calli (va_runS (As := [.int (Int32.ofInt 23)]) (rest := [.ref a0]) ⟨hx, hb, hml, hown, hts⟩ (c_X10_binds l g T (23) ⟨by omega, by omega⟩) ⟨callB_of 1 hts (gw_ws cm_X10_binds) rfl rfl rfl (hts _ (tw1 (i := 5) rfl)) (hts _ (tw31 (i := 1) rfl)) hd_X10_binds.2 ⟨Nat.le_trans (by decide) hR1, Nat.le_trans (by decide) hR2⟩, hts _ (tw31 (i := 2) rfl)⟩ (tf_preS hk hW trivial) rfl rfl hl.1 rfl (lv_room (Nat.le_of_ble_eq_true rfl)) dX10_behindSum_65 ⟨Nat.zero_le _, Nat.zero_le _⟩) hW (by decide) (fun z361 H361 locs361 hW hF361 hp361 => ?_)
                    have hs362 := tf_keepF hF361 ha0 rfl rfl (by decide) hs335
                    have hs363 := tf_keepF hF361 ha0 rfl rfl (by decide) hs336
                    have hs364 := tf_keepF hF361 ha0 rfl rfl (by decide) hs337
                    have hs365 := tf_keepF hF361 ha0 rfl rfl (by decide) hs338
                    have hs366 := tf_keepF hF361 ha0 rfl rfl (by decide) hs339
                    have hs367 := tf_keepF hF361 ha0 rfl rfl (by decide) hs340
                    have hs368 := tf_keepF hF361 ha0 rfl rfl (by decide) hs341
                    have hs369 := tf_keepF hF361 ha0 rfl rfl (by decide) hs342
                    have hs370 := tf_keepF hF361 ha0 rfl rfl (by decide) hs343
                    have hs371 := tf_keepF hF361 ha0 rfl rfl (by decide) hs344
                    have hs372 := tf_keepF hF361 ha0 rfl rfl (by decide) hs345
                    have hs373 := tf_keepF hF361 ha0 rfl rfl (by decide) hs346
                    have hs374 := tf_keepF hF361 ha0 rfl rfl (by decide) hs347
                    have hs375 := tf_keepF hF361 ha0 rfl rfl (by decide) hs348
                    have hs376 := tf_keepF hF361 ha0 rfl rfl (by decide) hs349
                    have hs377 := tf_keepC hF361 hqop rfl (by decide) hs350
                    have hs378 := tf_keepC hF361 hqar rfl (by decide) hs351
                    have hs379 := tf_keepC hF361 hqpi rfl (by decide) hs352
                    have hs380 := tf_keepC hF361 hqpa rfl (by decide) hs353
                    have hs381 := tf_keepF hF361 ha0 rfl rfl (by decide) hs354
                    have hs382 := tf_keepC hF361 htm rfl (by decide) hs355
                    have hs383 := tf_keepF hF361 ha0 rfl rfl (by decide) hs356
                    have hs384 := tf_keepC hF361 hwd rfl (by decide) hs357
                    obtain ⟨hp361_0, hp361_1, hp361_2⟩ := hp361
                    refine tf_callv (va_runV (As := [.int (Int32.ofInt z361)]) (rest := []) ⟨hx, hb, hml, hown, hts⟩ (c_X10_settle l g T a0 ha0 (z361) ⟨by omega, by omega⟩ qop hqop qar hqar qpi hqpi qpa hqpa (gc) ⟨by omega, by omega⟩ (gp) ⟨by omega, by omega⟩ rop rar rpi rpa (by first | assumption | omega) (tf_PI_PB hq3 (by omega))) (cwV 1 hts gv_X10_291 rfl rfl rfl hd_X10_settle ⟨Nat.le_trans (by decide) hR1, Nat.le_trans (by decide) hR2⟩) (tf_preV hk hW ha0 (ci := 10) rfl rfl ⟨hs362, hs363, hs364, hs365, hs372, hs373, hs377, hs378, hs379, hs380⟩) rfl rfl hl.1 rfl (lv_room (Nat.le_of_ble_eq_true rfl)) dX10_behindSum_68 ⟨Nat.zero_le _, Nat.zero_le _⟩) hW (by decide) (fun HS locsS hW hFS hpS => ?_)
                    have hs385 := tf_keepF hFS ha0 rfl rfl (by decide) hs362
                    have hs386 := tf_keepF hFS ha0 rfl rfl (by decide) hs363
                    have hs387 := tf_keepF hFS ha0 rfl rfl (by decide) hs364
                    have hs388 := tf_keepF hFS ha0 rfl rfl (by decide) hs365
                    have hs389 := tf_keepF hFS ha0 rfl rfl (by decide) hs366
                    have hs390 := tf_keepF hFS ha0 rfl rfl (by decide) hs367
                    have hs391 := tf_keepF hFS ha0 rfl rfl (by decide) hs368
                    have hs392 := tf_keepF hFS ha0 rfl rfl (by decide) hs369
                    have hs393 := tf_keepF hFS ha0 rfl rfl (by decide) hs370
                    have hs394 := tf_keepF hFS ha0 rfl rfl (by decide) hs371
                    have hs395 := tf_keepF hFS ha0 rfl rfl (by decide) hs374
                    have hs396 := tf_keepF hFS ha0 rfl rfl (by decide) hs375
                    have hs397 := tf_keepF hFS ha0 rfl rfl (by decide) hs376
                    have hs398 := tf_keepC hFS hqpi rfl (by decide) hs379
                    have hs399 := tf_keepC hFS hqpa rfl (by decide) hs380
                    have hs400 := tf_keepF hFS ha0 rfl rfl (by decide) hs381
                    have hs401 := tf_keepC hFS htm rfl (by decide) hs382
                    have hs402 := tf_keepF hFS ha0 rfl rfl (by decide) hs383
                    have hs403 := tf_keepC hFS hwd rfl (by decide) hs384
                    obtain ⟨gc1_S, gp1_S, rop1_S, rar1_S, hXS_0, hXS_1, hXS_2, hXS_3, hBS_0, hBS_1, hRS_0, hRS_1, hRS_2, hRS_3, hRS_4, hRS_5, hRS_6⟩ := hpS
                    refine lv_aload_n hx hb dX10_behindSum_71 rfl (lv_at hl 1 rfl) ?_
                    refine lv_iload_n hx hb dX10_behindSum_72 rfl (lv_at hl 0 rfl) ?_
                    refine tf_iconst hx hb dX10_behindSum_73 ?_
                    refine tf_callv (va_runV (As := [.int (Int32.ofInt 23), .int (Int32.ofInt 0)]) (rest := []) ⟨hx, hb, hml, hown, hts⟩ (c_X10_push l g T a0 ha0 (23) ⟨by omega, by omega⟩ (0) ⟨by omega, by omega⟩ qpi hqpi qpa hqpa (gp1_S) ⟨by omega, by omega⟩ rpi rpa) (cwV 2 hts gv_X10_265 rfl rfl rfl hd_X10_push ⟨Nat.le_trans (by decide) hR1, Nat.le_trans (by decide) hR2⟩) (tf_preV hk hW ha0 (ci := 10) rfl rfl ⟨hs387, hs388, hXS_1, hs398, hs399⟩) rfl rfl hl.1 rfl (lv_room (Nat.le_of_ble_eq_true rfl)) dX10_behindSum_74 ⟨Nat.zero_le _, Nat.zero_le _⟩) hW (by decide) (fun H404 locs404 hW hF404 hp404 => ?_)
                    have hs405 := tf_keepF hF404 ha0 rfl rfl (by decide) hs385
                    have hs406 := tf_keepF hF404 ha0 rfl rfl (by decide) hs386
                    have hs407 := tf_keepF hF404 ha0 rfl rfl (by decide) hs387
                    have hs408 := tf_keepF hF404 ha0 rfl rfl (by decide) hs388
                    have hs409 := tf_keepF hF404 ha0 rfl rfl (by decide) hs389
                    have hs410 := tf_keepF hF404 ha0 rfl rfl (by decide) hs390
                    have hs411 := tf_keepF hF404 ha0 rfl rfl (by decide) hs391
                    have hs412 := tf_keepF hF404 ha0 rfl rfl (by decide) hs392
                    have hs413 := tf_keepF hF404 ha0 rfl rfl (by decide) hs393
                    have hs414 := tf_keepF hF404 ha0 rfl rfl (by decide) hs394
                    have hs415 := tf_keepF hF404 ha0 rfl rfl (by decide) hs395
                    have hs416 := tf_keepF hF404 ha0 rfl rfl (by decide) hs396
                    have hs417 := tf_keepF hF404 ha0 rfl rfl (by decide) hs397
                    have hs418 := tf_keepF hF404 ha0 rfl rfl (by decide) hs400
                    have hs419 := tf_keepC hF404 htm rfl (by decide) hs401
                    have hs420 := tf_keepF hF404 ha0 rfl rfl (by decide) hs402
                    have hs421 := tf_keepC hF404 hwd rfl (by decide) hs403
                    have hs422 := tf_keepF hF404 ha0 rfl rfl (by decide) hXS_0
                    have hs423 := tf_keepC hF404 hqop rfl (by decide) hXS_2
                    have hs424 := tf_keepC hF404 hqar rfl (by decide) hXS_3
                    obtain ⟨ho404_0, ho404_1, ho404_2⟩ := hp404
                    refine lv_aload_n hx hb dX10_behindSum_77 rfl (lv_at hl 1 rfl) ?_
                    refine tf_callv (va_runV (As := []) (rest := []) ⟨hx, hb, hml, hown, hts⟩ (c_X10_next l g T a0 ha0 tm htm (gn) ⟨by omega, by omega⟩ (gt) ⟨by omega, by omega⟩ tp (by first | assumption | omega)) (cwV 0 hts gv_X10_204 rfl rfl rfl hd_X10_next ⟨Nat.le_trans (by decide) hR1, Nat.le_trans (by decide) hR2⟩) (tf_preV hk hW ha0 (ci := 10) rfl rfl ⟨hs409, hs411, hs418, hs419⟩) rfl rfl hl.1 rfl (lv_room (Nat.le_of_ble_eq_true rfl)) dX10_behindSum_78 ⟨Nat.zero_le _, Nat.zero_le _⟩) hW (by decide) (fun HN locsN hW hFN hpN => ?_)
                    have hs425 := tf_keepF hFN ha0 rfl rfl (by decide) hs405
                    have hs426 := tf_keepF hFN ha0 rfl rfl (by decide) hs406
                    have hs427 := tf_keepF hFN ha0 rfl rfl (by decide) hs407
                    have hs428 := tf_keepF hFN ha0 rfl rfl (by decide) hs408
                    have hs429 := tf_keepF hFN ha0 rfl rfl (by decide) hs409
                    have hs430 := tf_keepF hFN ha0 rfl rfl (by decide) hs414
                    have hs431 := tf_keepF hFN ha0 rfl rfl (by decide) hs415
                    have hs432 := tf_keepF hFN ha0 rfl rfl (by decide) hs416
                    have hs433 := tf_keepF hFN ha0 rfl rfl (by decide) hs417
                    have hs434 := tf_keepF hFN ha0 rfl rfl (by decide) hs418
                    have hs435 := tf_keepC hFN htm rfl (by decide) hs419
                    have hs436 := tf_keepF hFN ha0 rfl rfl (by decide) hs420
                    have hs437 := tf_keepC hFN hwd rfl (by decide) hs421
                    have hs438 := tf_keepF hFN ha0 rfl rfl (by decide) hs422
                    have hs439 := tf_keepC hFN hqop rfl (by decide) hs423
                    have hs440 := tf_keepC hFN hqar rfl (by decide) hs424
                    have hs441 := tf_keepF hFN ha0 rfl rfl (by decide) ho404_0
                    have hs442 := tf_keepC hFN hqpi rfl (by decide) ho404_1
                    have hs443 := tf_keepC hFN hqpa rfl (by decide) ho404_2
                    obtain ⟨gf1_N, gt1_N, gs1_N, gw1_N, hXN_0, hXN_1, hXN_2, hXN_3, hBN_0, hBN_1, hBN_2, hBN_3, hRN_0, hRN_1, hRN_2⟩ := hpN
                    refine tf_iconst hx hb dX10_behindSum_81 ?_
                    exact tf_reti (z := 1) hx hb hr hlocks hQ hW ⟨by omega, by omega, ⟨(gb), (gf1_N), (gt1_N), (gs1_N), (gw1_N), (gc1_S), ((gp1_S + 1)), (gx), (gl), (go), rop1_S, rar1_S, (tf_up (rpi) (gp1_S) (23)), (tf_up (rpa) (gp1_S) (0)), hs430, hXN_0, hXN_1, hXN_2, hXN_3, hs438, hs441, hs431, hs432, hs433, hs439, hs440, hs442, hs443, ⟨by omega, by omega⟩, ⟨by omega, by omega⟩, ⟨by omega, by omega⟩, ⟨by omega, by omega⟩, ⟨by omega, by omega⟩, ⟨by omega, by omega⟩, ⟨by omega, by omega⟩, ⟨by omega, by omega⟩, ⟨by omega, by omega⟩, ⟨by omega, by omega⟩, (by first | assumption | omega), (by first | assumption | omega), (tf_PI_PB (tf_PI_sign (hRS_5 o0 u0 fs hq3) (by omega) (by omega)) (by omega)), (Or.inr (tf_ST1 (tf_PI_sign (hRS_5 o0 u0 fs hq3) (by omega) (by omega)) (tf_Q_push (tf_Q_mono hq4 (by omega)) (by omega)))), (by first | assumption | omega), (tf_er_sum hq5 hq6 (by omega) (by omega) hq3 (by omega) (by omega) hRS_4 (hRS_6 (by omega)) (by omega) (by omega) hRN_2), (by first | assumption | omega)⟩⟩ dX10_behindSum_82
              · refine tf_if_eq (tgt := 56) hx hb ⟨by decide, by decide⟩ dX10_behindSum_48 (by decide) (fun h444 => ?_) (fun h444 => ?_)
                · refine tf_iconst hx hb dX10_behindSum_56 ?_
                  refine lv_istore_n (lv' := [(2, .int (Int32.ofInt ((-1)))), (0, .ref a0), (1, .int (Int32.ofInt x1))]) hx hb dX10_behindSum_57 rfl hl (by decide) rfl (fun ls hl => ?_)
                  refine lv_iload_n hx hb dX10_behindSum_58 rfl (lv_at hl 0 rfl) ?_
                  refine tf_iconst hx hb dX10_behindSum_59 ?_
                  refine tf_icmp_eq (tgt := 83) hx hb ⟨by decide, by decide⟩ ⟨by decide, by decide⟩ dX10_behindSum_60 (by decide) (fun h445 => ?_) (fun h445 => ?_)
                  · refine lv_aload_n hx hb dX10_behindSum_83 rfl (lv_at hl 1 rfl) ?_
                    refine tf_calli (va_runV (As := []) (rest := []) ⟨hx, hb, hml, hown, hts⟩ (c_X10_inner l g T a0 ha0 qpi hqpi (gp) ⟨by omega, by omega⟩ rpi) (cwV 0 hts gv_X10_294 rfl rfl rfl hd_X10_inner ⟨Nat.le_trans (by decide) hR1, Nat.le_trans (by decide) hR2⟩) (tf_preV hk hW ha0 (ci := 10) rfl rfl ⟨hs337, hs346, hs352⟩) rfl rfl hl.1 rfl (lv_room (Nat.le_of_ble_eq_true rfl)) dX10_behindSum_84 ⟨Nat.zero_le _, Nat.zero_le _⟩) hW (by decide) (fun zI HI locsI hW hFI hpI => ?_)
                    have hs446 := tf_keepF hFI ha0 rfl rfl (by decide) hs335
                    have hs447 := tf_keepF hFI ha0 rfl rfl (by decide) hs336
                    have hs448 := tf_keepF hFI ha0 rfl rfl (by decide) hs337
                    have hs449 := tf_keepF hFI ha0 rfl rfl (by decide) hs338
                    have hs450 := tf_keepF hFI ha0 rfl rfl (by decide) hs339
                    have hs451 := tf_keepF hFI ha0 rfl rfl (by decide) hs340
                    have hs452 := tf_keepF hFI ha0 rfl rfl (by decide) hs341
                    have hs453 := tf_keepF hFI ha0 rfl rfl (by decide) hs342
                    have hs454 := tf_keepF hFI ha0 rfl rfl (by decide) hs343
                    have hs455 := tf_keepF hFI ha0 rfl rfl (by decide) hs344
                    have hs456 := tf_keepF hFI ha0 rfl rfl (by decide) hs345
                    have hs457 := tf_keepF hFI ha0 rfl rfl (by decide) hs346
                    have hs458 := tf_keepF hFI ha0 rfl rfl (by decide) hs347
                    have hs459 := tf_keepF hFI ha0 rfl rfl (by decide) hs348
                    have hs460 := tf_keepF hFI ha0 rfl rfl (by decide) hs349
                    have hs461 := tf_keepC hFI hqop rfl (by decide) hs350
                    have hs462 := tf_keepC hFI hqar rfl (by decide) hs351
                    have hs463 := tf_keepC hFI hqpi rfl (by decide) hs352
                    have hs464 := tf_keepC hFI hqpa rfl (by decide) hs353
                    have hs465 := tf_keepF hFI ha0 rfl rfl (by decide) hs354
                    have hs466 := tf_keepC hFI htm rfl (by decide) hs355
                    have hs467 := tf_keepF hFI ha0 rfl rfl (by decide) hs356
                    have hs468 := tf_keepC hFI hwd rfl (by decide) hs357
                    obtain ⟨hpI_0, hpI_1, hpI_2⟩ := hpI
                    refine lv_istore_n (lv' := [(3, .int (Int32.ofInt zI)), (2, .int (Int32.ofInt ((-1)))), (0, .ref a0), (1, .int (Int32.ofInt x1))]) hx hb dX10_behindSum_87 rfl hl (by decide) rfl (fun ls hl => ?_)
                    refine lv_iload_n hx hb dX10_behindSum_88 rfl (lv_at hl 0 rfl) ?_
                    refine tf_bipush hx hb dX10_behindSum_89 (by decide) ?_
                    refine tf_icmp_ne (tgt := 138) hx hb ⟨by omega, by omega⟩ ⟨by decide, by decide⟩ dX10_behindSum_91 (by decide) (fun h469 => ?_) (fun h469 => ?_)
                    · refine lv_iload_n hx hb dX10_behindSum_138 rfl (lv_at hl 0 rfl) ?_
                      refine tf_iconst hx hb dX10_behindSum_139 ?_
                      refine tf_icmp_ne (tgt := 149) hx hb ⟨by omega, by omega⟩ ⟨by decide, by decide⟩ dX10_behindSum_140 (by decide) (fun h470 => ?_) (fun h470 => ?_)
                      · have hNS := tf_inn_NS hpI_2 (by omega) hq4
                        refine lv_aload_n hx hb dX10_behindSum_149 rfl (lv_at hl 2 rfl) ?_
                        refine tf_calli (va_runV (As := []) (rest := []) ⟨hx, hb, hml, hown, hts⟩ (c_X10_isCompared l g T a0 ha0 qpi hqpi (gp) ⟨by omega, by omega⟩ rpi) (cwV 0 hts gv_X10_297 rfl rfl rfl hd_X10_isCompared ⟨Nat.le_trans (by decide) hR1, Nat.le_trans (by decide) hR2⟩) (tf_preV hk hW ha0 (ci := 10) rfl rfl ⟨hs448, hs457, hs463⟩) rfl rfl hl.1 rfl (lv_room (Nat.le_of_ble_eq_true rfl)) dX10_behindSum_150 ⟨Nat.zero_le _, Nat.zero_le _⟩) hW (by decide) (fun z471 H471 locs471 hW hF471 hp471 => ?_)
                        have hs472 := tf_keepF hF471 ha0 rfl rfl (by decide) hs446
                        have hs473 := tf_keepF hF471 ha0 rfl rfl (by decide) hs447
                        have hs474 := tf_keepF hF471 ha0 rfl rfl (by decide) hs448
                        have hs475 := tf_keepF hF471 ha0 rfl rfl (by decide) hs449
                        have hs476 := tf_keepF hF471 ha0 rfl rfl (by decide) hs450
                        have hs477 := tf_keepF hF471 ha0 rfl rfl (by decide) hs451
                        have hs478 := tf_keepF hF471 ha0 rfl rfl (by decide) hs452
                        have hs479 := tf_keepF hF471 ha0 rfl rfl (by decide) hs453
                        have hs480 := tf_keepF hF471 ha0 rfl rfl (by decide) hs454
                        have hs481 := tf_keepF hF471 ha0 rfl rfl (by decide) hs455
                        have hs482 := tf_keepF hF471 ha0 rfl rfl (by decide) hs456
                        have hs483 := tf_keepF hF471 ha0 rfl rfl (by decide) hs457
                        have hs484 := tf_keepF hF471 ha0 rfl rfl (by decide) hs458
                        have hs485 := tf_keepF hF471 ha0 rfl rfl (by decide) hs459
                        have hs486 := tf_keepF hF471 ha0 rfl rfl (by decide) hs460
                        have hs487 := tf_keepC hF471 hqop rfl (by decide) hs461
                        have hs488 := tf_keepC hF471 hqar rfl (by decide) hs462
                        have hs489 := tf_keepC hF471 hqpi rfl (by decide) hs463
                        have hs490 := tf_keepC hF471 hqpa rfl (by decide) hs464
                        have hs491 := tf_keepF hF471 ha0 rfl rfl (by decide) hs465
                        have hs492 := tf_keepC hF471 htm rfl (by decide) hs466
                        have hs493 := tf_keepF hF471 ha0 rfl rfl (by decide) hs467
                        have hs494 := tf_keepC hF471 hwd rfl (by decide) hs468
                        rcases hp471 with ⟨rfl, hcm1⟩ | ⟨rfl, hcm0⟩
                        · refine tf_if_eq (tgt := 158) hx hb ⟨by decide, by decide⟩ dX10_behindSum_153 (by decide) (fun h495 => ?_) (fun h495 => ?_)
                          · exfalso; omega
                          · refine tf_iconst hx hb dX10_behindSum_156 ?_
                            exact tf_reti (z := 2) hx hb hr hlocks hQ hW ⟨by omega, by omega, ⟨(gb), (gf), (gt), (gs), (gw), (gc), (gp), (gx), (gl), (go), rop, rar, rpi, rpa, hs481, hs477, hs478, hs479, hs480, hs482, hs483, hs484, hs485, hs486, hs487, hs488, hs489, hs490, ⟨by omega, by omega⟩, ⟨by omega, by omega⟩, ⟨by omega, by omega⟩, ⟨by omega, by omega⟩, ⟨by omega, by omega⟩, ⟨by omega, by omega⟩, ⟨by omega, by omega⟩, ⟨by omega, by omega⟩, ⟨by omega, by omega⟩, ⟨by omega, by omega⟩, (by first | assumption | omega), (by first | assumption | omega), (tf_PI_PB hq3 (by omega)), (Or.inr (tf_ST2 hq3 hNS)), (by first | assumption | omega), (tf_er_told hq6 hpI_2 (by omega) (by omega) (tf_no4 hn43 hn45 hn42 hn47) hcm1 (by omega)), (by first | assumption | omega)⟩⟩ dX10_behindSum_157
                        · refine tf_if_eq (tgt := 158) hx hb ⟨by decide, by decide⟩ dX10_behindSum_153 (by decide) (fun h496 => ?_) (fun h496 => ?_)
                          · refine lv_aload_n hx hb dX10_behindSum_158 rfl (lv_at hl 2 rfl) ?_
                            refine tf_bipush hx hb dX10_behindSum_159 (by decide) ?_
                            refine tf_calli (va_runV (As := [.int (Int32.ofInt 60)]) (rest := []) ⟨hx, hb, hml, hown, hts⟩ (c_X10_isSign l g T a0 ha0 (60) ⟨by omega, by omega⟩ (gs) ⟨by omega, by omega⟩ (gw) ⟨by omega, by omega⟩) (cwV 1 hts gv_X10_271 rfl rfl rfl hd_X10_isSign ⟨Nat.le_trans (by decide) hR1, Nat.le_trans (by decide) hR2⟩) (tf_preV hk hW ha0 (ci := 10) rfl rfl ⟨hs479, hs480⟩) rfl rfl hl.1 rfl (lv_room (Nat.le_of_ble_eq_true rfl)) dX10_behindSum_161 ⟨Nat.zero_le _, Nat.zero_le _⟩) hW (by decide) (fun z497 H497 locs497 hW hF497 hp497 => ?_)
                            have hs498 := tf_keepF hF497 ha0 rfl rfl (by decide) hs472
                            have hs499 := tf_keepF hF497 ha0 rfl rfl (by decide) hs473
                            have hs500 := tf_keepF hF497 ha0 rfl rfl (by decide) hs474
                            have hs501 := tf_keepF hF497 ha0 rfl rfl (by decide) hs475
                            have hs502 := tf_keepF hF497 ha0 rfl rfl (by decide) hs476
                            have hs503 := tf_keepF hF497 ha0 rfl rfl (by decide) hs477
                            have hs504 := tf_keepF hF497 ha0 rfl rfl (by decide) hs478
                            have hs505 := tf_keepF hF497 ha0 rfl rfl (by decide) hs479
                            have hs506 := tf_keepF hF497 ha0 rfl rfl (by decide) hs480
                            have hs507 := tf_keepF hF497 ha0 rfl rfl (by decide) hs481
                            have hs508 := tf_keepF hF497 ha0 rfl rfl (by decide) hs482
                            have hs509 := tf_keepF hF497 ha0 rfl rfl (by decide) hs483
                            have hs510 := tf_keepF hF497 ha0 rfl rfl (by decide) hs484
                            have hs511 := tf_keepF hF497 ha0 rfl rfl (by decide) hs485
                            have hs512 := tf_keepF hF497 ha0 rfl rfl (by decide) hs486
                            have hs513 := tf_keepC hF497 hqop rfl (by decide) hs487
                            have hs514 := tf_keepC hF497 hqar rfl (by decide) hs488
                            have hs515 := tf_keepC hF497 hqpi rfl (by decide) hs489
                            have hs516 := tf_keepC hF497 hqpa rfl (by decide) hs490
                            have hs517 := tf_keepF hF497 ha0 rfl rfl (by decide) hs491
                            have hs518 := tf_keepC hF497 htm rfl (by decide) hs492
                            have hs519 := tf_keepF hF497 ha0 rfl rfl (by decide) hs493
                            have hs520 := tf_keepC hF497 hwd rfl (by decide) hs494
                            rcases hp497 with ⟨rfl, h521⟩ | ⟨rfl, hn60⟩
                            · refine tf_if_eq (tgt := 172) hx hb ⟨by decide, by decide⟩ dX10_behindSum_164 (by decide) (fun h522 => ?_) (fun h522 => ?_)
                              · exfalso; omega
                              · refine tf_bipush hx hb dX10_behindSum_167 (by decide) ?_
                                refine lv_goto (tgt := 188) hx hb dX10_behindSum_169 (by decide) ?_
                                refine lv_istore_n (lv' := [(2, .int (Int32.ofInt 24)), (3, .int (Int32.ofInt zI)), (0, .ref a0), (1, .int (Int32.ofInt x1))]) hx hb dX10_behindSum_188 rfl hl (by decide) rfl (fun ls hl => ?_)
                                refine lv_aload_n hx hb dX10_behindSum_189 rfl (lv_at hl 2 rfl) ?_
                                refine lv_iload_n hx hb dX10_behindSum_190 rfl (lv_at hl 0 rfl) ?_
                                refine tf_bipush hx hb dX10_behindSum_191 (by decide) ?_
                                refine tf_icmp_ne (tgt := 205) hx hb ⟨by decide, by decide⟩ ⟨by decide, by decide⟩ dX10_behindSum_193 (by decide) (fun h523 => ?_) (fun h523 => ?_)
                                · refine tf_iconst hx hb dX10_behindSum_205 ?_
                                  refine lv_goto (tgt := 210) hx hb dX10_behindSum_206 (by decide) ?_
                                  refine tf_callv (va_runV (As := [.int (Int32.ofInt 1)]) (rest := []) ⟨hx, hb, hml, hown, hts⟩ (c_X10_must l g T a0 ha0 (1) ⟨by omega, by omega⟩ tm htm (gn) ⟨by omega, by omega⟩ (gf) ⟨by omega, by omega⟩ (gt) ⟨by omega, by omega⟩ (gs) ⟨by omega, by omega⟩ (gw) ⟨by omega, by omega⟩ (gb) ⟨by omega, by omega⟩ (gx) ⟨by omega, by omega⟩ tp (by first | assumption | omega)) (cwV 1 hts gv_X10_235 rfl rfl rfl hd_X10_must ⟨Nat.le_trans (by decide) hR1, Nat.le_trans (by decide) hR2⟩) (tf_preV hk hW ha0 (ci := 10) rfl rfl ⟨hs502, hs503, hs504, hs505, hs506, hs507, hs510, hs517, hs518⟩) rfl rfl hl.1 rfl (lv_room (Nat.le_of_ble_eq_true rfl)) dX10_behindSum_210 ⟨Nat.zero_le _, Nat.zero_le _⟩) hW (by decide) (fun HV locsV hW hFV hpV => ?_)
                                  have hs524 := tf_keepF hFV ha0 rfl rfl (by decide) hs498
                                  have hs525 := tf_keepF hFV ha0 rfl rfl (by decide) hs499
                                  have hs526 := tf_keepF hFV ha0 rfl rfl (by decide) hs500
                                  have hs527 := tf_keepF hFV ha0 rfl rfl (by decide) hs501
                                  have hs528 := tf_keepF hFV ha0 rfl rfl (by decide) hs502
                                  have hs529 := tf_keepF hFV ha0 rfl rfl (by decide) hs508
                                  have hs530 := tf_keepF hFV ha0 rfl rfl (by decide) hs509
                                  have hs531 := tf_keepF hFV ha0 rfl rfl (by decide) hs511
                                  have hs532 := tf_keepF hFV ha0 rfl rfl (by decide) hs512
                                  have hs533 := tf_keepC hFV hqop rfl (by decide) hs513
                                  have hs534 := tf_keepC hFV hqar rfl (by decide) hs514
                                  have hs535 := tf_keepC hFV hqpi rfl (by decide) hs515
                                  have hs536 := tf_keepC hFV hqpa rfl (by decide) hs516
                                  have hs537 := tf_keepF hFV ha0 rfl rfl (by decide) hs517
                                  have hs538 := tf_keepC hFV htm rfl (by decide) hs518
                                  have hs539 := tf_keepF hFV ha0 rfl rfl (by decide) hs519
                                  have hs540 := tf_keepC hFV hwd rfl (by decide) hs520
                                  obtain ⟨gb1_V, gf1_V, gt1_V, gs1_V, gw1_V, gx1_V, hXV_0, hXV_1, hXV_2, hXV_3, hXV_4, hXV_5, hBV_0, hBV_1, hBV_2, hBV_3, hBV_4, hBV_5, hRV_0, hRV_1, hRV_2, hRV_3⟩ := hpV
                                  refine lv_aload_n hx hb dX10_behindSum_213 rfl (lv_at hl 2 rfl) ?_
                                  refine tf_get hx hb hts inlX10 hown hK (ci := 10) rfl hW ha0 rfl 14 rfl (by decide) (hts _ fl_X10_200) dX10_behindSum_214 (fun v541 hv541 hsv541 => ?_)
                                  obtain rfl : v541 = .int (Int32.ofInt gb1_V) := Option.some.inj (hsv541.symm.trans hXV_0)
                                  refine tf_if_ne (tgt := 231) hx hb ⟨by omega, by omega⟩ dX10_behindSum_217 (by decide) (fun h542 => ?_) (fun h542 => ?_)
                                  · refine tf_iconst hx hb dX10_behindSum_231 ?_
                                    exact tf_reti (z := 1) hx hb hr hlocks hQ hW ⟨by omega, by omega, ⟨(gb1_V), (gf1_V), (gt1_V), (gs1_V), (gw1_V), (gc), (gp), (gx1_V), (gl), (go), rop, rar, rpi, rpa, hXV_0, hXV_1, hXV_2, hXV_3, hXV_4, hs529, hs530, hXV_5, hs531, hs532, hs533, hs534, hs535, hs536, ⟨by omega, by omega⟩, ⟨by omega, by omega⟩, ⟨by omega, by omega⟩, ⟨by omega, by omega⟩, ⟨by omega, by omega⟩, ⟨by omega, by omega⟩, ⟨by omega, by omega⟩, ⟨by omega, by omega⟩, ⟨by omega, by omega⟩, ⟨by omega, by omega⟩, (by first | assumption | omega), (by first | assumption | omega), (by first | exact tf_PI_PB (tf_PI_sign (hRW_5 o0 u0 fs hq3) (by omega) (by omega)) (by omega) | exact tf_PI_PB hq3 (by omega)), (by first | exact Or.inr (tf_ST1 (tf_PI_sign (hRW_5 o0 u0 fs hq3) (by omega) (by omega)) (tf_NS_Q (tf_NS_push (tf_NS_mono hNS (by omega)) (by omega)))) | exact Or.inl (by omega)), (by first | assumption | omega), (by first | exact tf_er_cmp hq5 hq6 hpI_2 (by omega) (by omega) hcm0 (by omega) (by omega) (by omega) (by omega) hRW_4 (by omega) (by omega) (hRV_1.resolve_left (by omega)) | exact tf_er_cmp0 hq6 hpI_2 (by omega) (by omega) (tf_no4 hn43 hn45 hn42 hn47) hcm0 (tf_no3 hn60 hn61 hn62) (by omega) (by omega) | exact absurd (show (1 : Int) = 0 by omega) (by decide)), (by first | assumption | omega)⟩⟩ dX10_behindSum_232
                                  · refine lv_aload_n hx hb dX10_behindSum_220 rfl (lv_at hl 2 rfl) ?_
                                    refine tf_iconst hx hb dX10_behindSum_221 ?_
                                    refine tf_callv (va_runV (As := [.int (Int32.ofInt 5)]) (rest := []) ⟨hx, hb, hml, hown, hts⟩ (c_X10_settle l g T a0 ha0 (5) ⟨by omega, by omega⟩ qop hqop qar hqar qpi hqpi qpa hqpa (gc) ⟨by omega, by omega⟩ (gp) ⟨by omega, by omega⟩ rop rar rpi rpa (by first | assumption | omega) (tf_PI_PB hq3 (by omega))) (cwV 1 hts gv_X10_291 rfl rfl rfl hd_X10_settle ⟨Nat.le_trans (by decide) hR1, Nat.le_trans (by decide) hR2⟩) (tf_preV hk hW ha0 (ci := 10) rfl rfl ⟨hs524, hs525, hs526, hs527, hs529, hs530, hs533, hs534, hs535, hs536⟩) rfl rfl hl.1 rfl (lv_room (Nat.le_of_ble_eq_true rfl)) dX10_behindSum_222 ⟨Nat.zero_le _, Nat.zero_le _⟩) hW (by decide) (fun HW locsW hW hFW hpW => ?_)
                                    have hs543 := tf_keepF hFW ha0 rfl rfl (by decide) hs524
                                    have hs544 := tf_keepF hFW ha0 rfl rfl (by decide) hs525
                                    have hs545 := tf_keepF hFW ha0 rfl rfl (by decide) hs526
                                    have hs546 := tf_keepF hFW ha0 rfl rfl (by decide) hs527
                                    have hs547 := tf_keepF hFW ha0 rfl rfl (by decide) hs528
                                    have hs548 := tf_keepF hFW ha0 rfl rfl (by decide) hs531
                                    have hs549 := tf_keepF hFW ha0 rfl rfl (by decide) hs532
                                    have hs550 := tf_keepC hFW hqpi rfl (by decide) hs535
                                    have hs551 := tf_keepC hFW hqpa rfl (by decide) hs536
                                    have hs552 := tf_keepF hFW ha0 rfl rfl (by decide) hs537
                                    have hs553 := tf_keepC hFW htm rfl (by decide) hs538
                                    have hs554 := tf_keepF hFW ha0 rfl rfl (by decide) hs539
                                    have hs555 := tf_keepC hFW hwd rfl (by decide) hs540
                                    have hs556 := tf_keepF hFW ha0 rfl rfl (by decide) hXV_0
                                    have hs557 := tf_keepF hFW ha0 rfl rfl (by decide) hXV_1
                                    have hs558 := tf_keepF hFW ha0 rfl rfl (by decide) hXV_2
                                    have hs559 := tf_keepF hFW ha0 rfl rfl (by decide) hXV_3
                                    have hs560 := tf_keepF hFW ha0 rfl rfl (by decide) hXV_4
                                    have hs561 := tf_keepF hFW ha0 rfl rfl (by decide) hXV_5
                                    obtain ⟨gc1_W, gp1_W, rop1_W, rar1_W, hXW_0, hXW_1, hXW_2, hXW_3, hBW_0, hBW_1, hRW_0, hRW_1, hRW_2, hRW_3, hRW_4, hRW_5, hRW_6⟩ := hpW
                                    refine lv_aload_n hx hb dX10_behindSum_225 rfl (lv_at hl 2 rfl) ?_
                                    refine lv_iload_n hx hb dX10_behindSum_226 rfl (lv_at hl 0 rfl) ?_
                                    refine tf_iconst hx hb dX10_behindSum_227 ?_
                                    refine tf_callv (va_runV (As := [.int (Int32.ofInt 24), .int (Int32.ofInt 0)]) (rest := []) ⟨hx, hb, hml, hown, hts⟩ (c_X10_push l g T a0 ha0 (24) ⟨by omega, by omega⟩ (0) ⟨by omega, by omega⟩ qpi hqpi qpa hqpa (gp1_W) ⟨by omega, by omega⟩ rpi rpa) (cwV 2 hts gv_X10_265 rfl rfl rfl hd_X10_push ⟨Nat.le_trans (by decide) hR1, Nat.le_trans (by decide) hR2⟩) (tf_preV hk hW ha0 (ci := 10) rfl rfl ⟨hs545, hs546, hXW_1, hs550, hs551⟩) rfl rfl hl.1 rfl (lv_room (Nat.le_of_ble_eq_true rfl)) dX10_behindSum_228 ⟨Nat.zero_le _, Nat.zero_le _⟩) hW (by decide) (fun H562 locs562 hW hF562 hp562 => ?_)
                                    have hs563 := tf_keepF hF562 ha0 rfl rfl (by decide) hs543
                                    have hs564 := tf_keepF hF562 ha0 rfl rfl (by decide) hs544
                                    have hs565 := tf_keepF hF562 ha0 rfl rfl (by decide) hs545
                                    have hs566 := tf_keepF hF562 ha0 rfl rfl (by decide) hs546
                                    have hs567 := tf_keepF hF562 ha0 rfl rfl (by decide) hs547
                                    have hs568 := tf_keepF hF562 ha0 rfl rfl (by decide) hs548
                                    have hs569 := tf_keepF hF562 ha0 rfl rfl (by decide) hs549
                                    have hs570 := tf_keepF hF562 ha0 rfl rfl (by decide) hs552
                                    have hs571 := tf_keepC hF562 htm rfl (by decide) hs553
                                    have hs572 := tf_keepF hF562 ha0 rfl rfl (by decide) hs554
                                    have hs573 := tf_keepC hF562 hwd rfl (by decide) hs555
                                    have hs574 := tf_keepF hF562 ha0 rfl rfl (by decide) hs556
                                    have hs575 := tf_keepF hF562 ha0 rfl rfl (by decide) hs557
                                    have hs576 := tf_keepF hF562 ha0 rfl rfl (by decide) hs558
                                    have hs577 := tf_keepF hF562 ha0 rfl rfl (by decide) hs559
                                    have hs578 := tf_keepF hF562 ha0 rfl rfl (by decide) hs560
                                    have hs579 := tf_keepF hF562 ha0 rfl rfl (by decide) hs561
                                    have hs580 := tf_keepF hF562 ha0 rfl rfl (by decide) hXW_0
                                    have hs581 := tf_keepC hF562 hqop rfl (by decide) hXW_2
                                    have hs582 := tf_keepC hF562 hqar rfl (by decide) hXW_3
                                    obtain ⟨ho562_0, ho562_1, ho562_2⟩ := hp562
                                    refine tf_iconst hx hb dX10_behindSum_231 ?_
                                    exact tf_reti (z := 1) hx hb hr hlocks hQ hW ⟨by omega, by omega, ⟨(gb1_V), (gf1_V), (gt1_V), (gs1_V), (gw1_V), (gc1_W), ((gp1_W + 1)), (gx1_V), (gl), (go), rop1_W, rar1_W, (tf_up (rpi) (gp1_W) (24)), (tf_up (rpa) (gp1_W) (0)), hs574, hs575, hs576, hs577, hs578, hs580, ho562_0, hs579, hs568, hs569, hs581, hs582, ho562_1, ho562_2, ⟨by omega, by omega⟩, ⟨by omega, by omega⟩, ⟨by omega, by omega⟩, ⟨by omega, by omega⟩, ⟨by omega, by omega⟩, ⟨by omega, by omega⟩, ⟨by omega, by omega⟩, ⟨by omega, by omega⟩, ⟨by omega, by omega⟩, ⟨by omega, by omega⟩, (by first | assumption | omega), (by first | assumption | omega), (by first | exact tf_PI_PB (tf_PI_sign (hRW_5 o0 u0 fs hq3) (by omega) (by omega)) (by omega) | exact tf_PI_PB hq3 (by omega)), (by first | exact Or.inr (tf_ST1 (tf_PI_sign (hRW_5 o0 u0 fs hq3) (by omega) (by omega)) (tf_NS_Q (tf_NS_push (tf_NS_mono hNS (by omega)) (by omega)))) | exact Or.inl (by omega)), (by first | assumption | omega), (by first | exact tf_er_cmp hq5 hq6 hpI_2 (by omega) (by omega) hcm0 (by omega) (by omega) (by omega) (by omega) hRW_4 (by omega) (by omega) (hRV_1.resolve_left (by omega)) | exact tf_er_cmp0 hq6 hpI_2 (by omega) (by omega) (tf_no4 hn43 hn45 hn42 hn47) hcm0 (tf_no3 hn60 hn61 hn62) (by omega) (by omega) | exact absurd (show (1 : Int) = 0 by omega) (by decide)), (by first | assumption | omega)⟩⟩ dX10_behindSum_232
                                · exfalso; omega
                            · refine tf_if_eq (tgt := 172) hx hb ⟨by decide, by decide⟩ dX10_behindSum_164 (by decide) (fun h583 => ?_) (fun h583 => ?_)
                              · refine lv_aload_n hx hb dX10_behindSum_172 rfl (lv_at hl 2 rfl) ?_
                                refine tf_bipush hx hb dX10_behindSum_173 (by decide) ?_
                                refine tf_calli (va_runV (As := [.int (Int32.ofInt 62)]) (rest := []) ⟨hx, hb, hml, hown, hts⟩ (c_X10_isSign l g T a0 ha0 (62) ⟨by omega, by omega⟩ (gs) ⟨by omega, by omega⟩ (gw) ⟨by omega, by omega⟩) (cwV 1 hts gv_X10_271 rfl rfl rfl hd_X10_isSign ⟨Nat.le_trans (by decide) hR1, Nat.le_trans (by decide) hR2⟩) (tf_preV hk hW ha0 (ci := 10) rfl rfl ⟨hs505, hs506⟩) rfl rfl hl.1 rfl (lv_room (Nat.le_of_ble_eq_true rfl)) dX10_behindSum_175 ⟨Nat.zero_le _, Nat.zero_le _⟩) hW (by decide) (fun z584 H584 locs584 hW hF584 hp584 => ?_)
                                have hs585 := tf_keepF hF584 ha0 rfl rfl (by decide) hs498
                                have hs586 := tf_keepF hF584 ha0 rfl rfl (by decide) hs499
                                have hs587 := tf_keepF hF584 ha0 rfl rfl (by decide) hs500
                                have hs588 := tf_keepF hF584 ha0 rfl rfl (by decide) hs501
                                have hs589 := tf_keepF hF584 ha0 rfl rfl (by decide) hs502
                                have hs590 := tf_keepF hF584 ha0 rfl rfl (by decide) hs503
                                have hs591 := tf_keepF hF584 ha0 rfl rfl (by decide) hs504
                                have hs592 := tf_keepF hF584 ha0 rfl rfl (by decide) hs505
                                have hs593 := tf_keepF hF584 ha0 rfl rfl (by decide) hs506
                                have hs594 := tf_keepF hF584 ha0 rfl rfl (by decide) hs507
                                have hs595 := tf_keepF hF584 ha0 rfl rfl (by decide) hs508
                                have hs596 := tf_keepF hF584 ha0 rfl rfl (by decide) hs509
                                have hs597 := tf_keepF hF584 ha0 rfl rfl (by decide) hs510
                                have hs598 := tf_keepF hF584 ha0 rfl rfl (by decide) hs511
                                have hs599 := tf_keepF hF584 ha0 rfl rfl (by decide) hs512
                                have hs600 := tf_keepC hF584 hqop rfl (by decide) hs513
                                have hs601 := tf_keepC hF584 hqar rfl (by decide) hs514
                                have hs602 := tf_keepC hF584 hqpi rfl (by decide) hs515
                                have hs603 := tf_keepC hF584 hqpa rfl (by decide) hs516
                                have hs604 := tf_keepF hF584 ha0 rfl rfl (by decide) hs517
                                have hs605 := tf_keepC hF584 htm rfl (by decide) hs518
                                have hs606 := tf_keepF hF584 ha0 rfl rfl (by decide) hs519
                                have hs607 := tf_keepC hF584 hwd rfl (by decide) hs520
                                rcases hp584 with ⟨rfl, h608⟩ | ⟨rfl, hn62⟩
                                · refine tf_if_eq (tgt := 186) hx hb ⟨by decide, by decide⟩ dX10_behindSum_178 (by decide) (fun h609 => ?_) (fun h609 => ?_)
                                  · exfalso; omega
                                  · refine tf_bipush hx hb dX10_behindSum_181 (by decide) ?_
                                    refine lv_goto (tgt := 188) hx hb dX10_behindSum_183 (by decide) ?_
                                    refine lv_istore_n (lv' := [(2, .int (Int32.ofInt 25)), (3, .int (Int32.ofInt zI)), (0, .ref a0), (1, .int (Int32.ofInt x1))]) hx hb dX10_behindSum_188 rfl hl (by decide) rfl (fun ls hl => ?_)
                                    refine lv_aload_n hx hb dX10_behindSum_189 rfl (lv_at hl 2 rfl) ?_
                                    refine lv_iload_n hx hb dX10_behindSum_190 rfl (lv_at hl 0 rfl) ?_
                                    refine tf_bipush hx hb dX10_behindSum_191 (by decide) ?_
                                    refine tf_icmp_ne (tgt := 205) hx hb ⟨by decide, by decide⟩ ⟨by decide, by decide⟩ dX10_behindSum_193 (by decide) (fun h610 => ?_) (fun h610 => ?_)
                                    · refine tf_iconst hx hb dX10_behindSum_205 ?_
                                      refine lv_goto (tgt := 210) hx hb dX10_behindSum_206 (by decide) ?_
                                      refine tf_callv (va_runV (As := [.int (Int32.ofInt 1)]) (rest := []) ⟨hx, hb, hml, hown, hts⟩ (c_X10_must l g T a0 ha0 (1) ⟨by omega, by omega⟩ tm htm (gn) ⟨by omega, by omega⟩ (gf) ⟨by omega, by omega⟩ (gt) ⟨by omega, by omega⟩ (gs) ⟨by omega, by omega⟩ (gw) ⟨by omega, by omega⟩ (gb) ⟨by omega, by omega⟩ (gx) ⟨by omega, by omega⟩ tp (by first | assumption | omega)) (cwV 1 hts gv_X10_235 rfl rfl rfl hd_X10_must ⟨Nat.le_trans (by decide) hR1, Nat.le_trans (by decide) hR2⟩) (tf_preV hk hW ha0 (ci := 10) rfl rfl ⟨hs589, hs590, hs591, hs592, hs593, hs594, hs597, hs604, hs605⟩) rfl rfl hl.1 rfl (lv_room (Nat.le_of_ble_eq_true rfl)) dX10_behindSum_210 ⟨Nat.zero_le _, Nat.zero_le _⟩) hW (by decide) (fun HV locsV hW hFV hpV => ?_)
                                      have hs611 := tf_keepF hFV ha0 rfl rfl (by decide) hs585
                                      have hs612 := tf_keepF hFV ha0 rfl rfl (by decide) hs586
                                      have hs613 := tf_keepF hFV ha0 rfl rfl (by decide) hs587
                                      have hs614 := tf_keepF hFV ha0 rfl rfl (by decide) hs588
                                      have hs615 := tf_keepF hFV ha0 rfl rfl (by decide) hs589
                                      have hs616 := tf_keepF hFV ha0 rfl rfl (by decide) hs595
                                      have hs617 := tf_keepF hFV ha0 rfl rfl (by decide) hs596
                                      have hs618 := tf_keepF hFV ha0 rfl rfl (by decide) hs598
                                      have hs619 := tf_keepF hFV ha0 rfl rfl (by decide) hs599
                                      have hs620 := tf_keepC hFV hqop rfl (by decide) hs600
                                      have hs621 := tf_keepC hFV hqar rfl (by decide) hs601
                                      have hs622 := tf_keepC hFV hqpi rfl (by decide) hs602
                                      have hs623 := tf_keepC hFV hqpa rfl (by decide) hs603
                                      have hs624 := tf_keepF hFV ha0 rfl rfl (by decide) hs604
                                      have hs625 := tf_keepC hFV htm rfl (by decide) hs605
                                      have hs626 := tf_keepF hFV ha0 rfl rfl (by decide) hs606
                                      have hs627 := tf_keepC hFV hwd rfl (by decide) hs607
                                      obtain ⟨gb1_V, gf1_V, gt1_V, gs1_V, gw1_V, gx1_V, hXV_0, hXV_1, hXV_2, hXV_3, hXV_4, hXV_5, hBV_0, hBV_1, hBV_2, hBV_3, hBV_4, hBV_5, hRV_0, hRV_1, hRV_2, hRV_3⟩ := hpV
                                      refine lv_aload_n hx hb dX10_behindSum_213 rfl (lv_at hl 2 rfl) ?_
                                      refine tf_get hx hb hts inlX10 hown hK (ci := 10) rfl hW ha0 rfl 14 rfl (by decide) (hts _ fl_X10_200) dX10_behindSum_214 (fun v628 hv628 hsv628 => ?_)
                                      obtain rfl : v628 = .int (Int32.ofInt gb1_V) := Option.some.inj (hsv628.symm.trans hXV_0)
                                      refine tf_if_ne (tgt := 231) hx hb ⟨by omega, by omega⟩ dX10_behindSum_217 (by decide) (fun h629 => ?_) (fun h629 => ?_)
                                      · refine tf_iconst hx hb dX10_behindSum_231 ?_
                                        exact tf_reti (z := 1) hx hb hr hlocks hQ hW ⟨by omega, by omega, ⟨(gb1_V), (gf1_V), (gt1_V), (gs1_V), (gw1_V), (gc), (gp), (gx1_V), (gl), (go), rop, rar, rpi, rpa, hXV_0, hXV_1, hXV_2, hXV_3, hXV_4, hs616, hs617, hXV_5, hs618, hs619, hs620, hs621, hs622, hs623, ⟨by omega, by omega⟩, ⟨by omega, by omega⟩, ⟨by omega, by omega⟩, ⟨by omega, by omega⟩, ⟨by omega, by omega⟩, ⟨by omega, by omega⟩, ⟨by omega, by omega⟩, ⟨by omega, by omega⟩, ⟨by omega, by omega⟩, ⟨by omega, by omega⟩, (by first | assumption | omega), (by first | assumption | omega), (by first | exact tf_PI_PB (tf_PI_sign (hRW_5 o0 u0 fs hq3) (by omega) (by omega)) (by omega) | exact tf_PI_PB hq3 (by omega)), (by first | exact Or.inr (tf_ST1 (tf_PI_sign (hRW_5 o0 u0 fs hq3) (by omega) (by omega)) (tf_NS_Q (tf_NS_push (tf_NS_mono hNS (by omega)) (by omega)))) | exact Or.inl (by omega)), (by first | assumption | omega), (by first | exact tf_er_cmp hq5 hq6 hpI_2 (by omega) (by omega) hcm0 (by omega) (by omega) (by omega) (by omega) hRW_4 (by omega) (by omega) (hRV_1.resolve_left (by omega)) | exact tf_er_cmp0 hq6 hpI_2 (by omega) (by omega) (tf_no4 hn43 hn45 hn42 hn47) hcm0 (tf_no3 hn60 hn61 hn62) (by omega) (by omega) | exact absurd (show (1 : Int) = 0 by omega) (by decide)), (by first | assumption | omega)⟩⟩ dX10_behindSum_232
                                      · refine lv_aload_n hx hb dX10_behindSum_220 rfl (lv_at hl 2 rfl) ?_
                                        refine tf_iconst hx hb dX10_behindSum_221 ?_
                                        refine tf_callv (va_runV (As := [.int (Int32.ofInt 5)]) (rest := []) ⟨hx, hb, hml, hown, hts⟩ (c_X10_settle l g T a0 ha0 (5) ⟨by omega, by omega⟩ qop hqop qar hqar qpi hqpi qpa hqpa (gc) ⟨by omega, by omega⟩ (gp) ⟨by omega, by omega⟩ rop rar rpi rpa (by first | assumption | omega) (tf_PI_PB hq3 (by omega))) (cwV 1 hts gv_X10_291 rfl rfl rfl hd_X10_settle ⟨Nat.le_trans (by decide) hR1, Nat.le_trans (by decide) hR2⟩) (tf_preV hk hW ha0 (ci := 10) rfl rfl ⟨hs611, hs612, hs613, hs614, hs616, hs617, hs620, hs621, hs622, hs623⟩) rfl rfl hl.1 rfl (lv_room (Nat.le_of_ble_eq_true rfl)) dX10_behindSum_222 ⟨Nat.zero_le _, Nat.zero_le _⟩) hW (by decide) (fun HW locsW hW hFW hpW => ?_)
                                        have hs630 := tf_keepF hFW ha0 rfl rfl (by decide) hs611
                                        have hs631 := tf_keepF hFW ha0 rfl rfl (by decide) hs612
                                        have hs632 := tf_keepF hFW ha0 rfl rfl (by decide) hs613
                                        have hs633 := tf_keepF hFW ha0 rfl rfl (by decide) hs614
                                        have hs634 := tf_keepF hFW ha0 rfl rfl (by decide) hs615
                                        have hs635 := tf_keepF hFW ha0 rfl rfl (by decide) hs618
                                        have hs636 := tf_keepF hFW ha0 rfl rfl (by decide) hs619
                                        have hs637 := tf_keepC hFW hqpi rfl (by decide) hs622
                                        have hs638 := tf_keepC hFW hqpa rfl (by decide) hs623
                                        have hs639 := tf_keepF hFW ha0 rfl rfl (by decide) hs624
                                        have hs640 := tf_keepC hFW htm rfl (by decide) hs625
                                        have hs641 := tf_keepF hFW ha0 rfl rfl (by decide) hs626
                                        have hs642 := tf_keepC hFW hwd rfl (by decide) hs627
                                        have hs643 := tf_keepF hFW ha0 rfl rfl (by decide) hXV_0
                                        have hs644 := tf_keepF hFW ha0 rfl rfl (by decide) hXV_1
                                        have hs645 := tf_keepF hFW ha0 rfl rfl (by decide) hXV_2
                                        have hs646 := tf_keepF hFW ha0 rfl rfl (by decide) hXV_3
                                        have hs647 := tf_keepF hFW ha0 rfl rfl (by decide) hXV_4
                                        have hs648 := tf_keepF hFW ha0 rfl rfl (by decide) hXV_5
                                        obtain ⟨gc1_W, gp1_W, rop1_W, rar1_W, hXW_0, hXW_1, hXW_2, hXW_3, hBW_0, hBW_1, hRW_0, hRW_1, hRW_2, hRW_3, hRW_4, hRW_5, hRW_6⟩ := hpW
                                        refine lv_aload_n hx hb dX10_behindSum_225 rfl (lv_at hl 2 rfl) ?_
                                        refine lv_iload_n hx hb dX10_behindSum_226 rfl (lv_at hl 0 rfl) ?_
                                        refine tf_iconst hx hb dX10_behindSum_227 ?_
                                        refine tf_callv (va_runV (As := [.int (Int32.ofInt 25), .int (Int32.ofInt 0)]) (rest := []) ⟨hx, hb, hml, hown, hts⟩ (c_X10_push l g T a0 ha0 (25) ⟨by omega, by omega⟩ (0) ⟨by omega, by omega⟩ qpi hqpi qpa hqpa (gp1_W) ⟨by omega, by omega⟩ rpi rpa) (cwV 2 hts gv_X10_265 rfl rfl rfl hd_X10_push ⟨Nat.le_trans (by decide) hR1, Nat.le_trans (by decide) hR2⟩) (tf_preV hk hW ha0 (ci := 10) rfl rfl ⟨hs632, hs633, hXW_1, hs637, hs638⟩) rfl rfl hl.1 rfl (lv_room (Nat.le_of_ble_eq_true rfl)) dX10_behindSum_228 ⟨Nat.zero_le _, Nat.zero_le _⟩) hW (by decide) (fun H649 locs649 hW hF649 hp649 => ?_)
                                        have hs650 := tf_keepF hF649 ha0 rfl rfl (by decide) hs630
                                        have hs651 := tf_keepF hF649 ha0 rfl rfl (by decide) hs631
                                        have hs652 := tf_keepF hF649 ha0 rfl rfl (by decide) hs632
                                        have hs653 := tf_keepF hF649 ha0 rfl rfl (by decide) hs633
                                        have hs654 := tf_keepF hF649 ha0 rfl rfl (by decide) hs634
                                        have hs655 := tf_keepF hF649 ha0 rfl rfl (by decide) hs635
                                        have hs656 := tf_keepF hF649 ha0 rfl rfl (by decide) hs636
                                        have hs657 := tf_keepF hF649 ha0 rfl rfl (by decide) hs639
                                        have hs658 := tf_keepC hF649 htm rfl (by decide) hs640
                                        have hs659 := tf_keepF hF649 ha0 rfl rfl (by decide) hs641
                                        have hs660 := tf_keepC hF649 hwd rfl (by decide) hs642
                                        have hs661 := tf_keepF hF649 ha0 rfl rfl (by decide) hs643
                                        have hs662 := tf_keepF hF649 ha0 rfl rfl (by decide) hs644
                                        have hs663 := tf_keepF hF649 ha0 rfl rfl (by decide) hs645
                                        have hs664 := tf_keepF hF649 ha0 rfl rfl (by decide) hs646
                                        have hs665 := tf_keepF hF649 ha0 rfl rfl (by decide) hs647
                                        have hs666 := tf_keepF hF649 ha0 rfl rfl (by decide) hs648
                                        have hs667 := tf_keepF hF649 ha0 rfl rfl (by decide) hXW_0
                                        have hs668 := tf_keepC hF649 hqop rfl (by decide) hXW_2
                                        have hs669 := tf_keepC hF649 hqar rfl (by decide) hXW_3
                                        obtain ⟨ho649_0, ho649_1, ho649_2⟩ := hp649
                                        refine tf_iconst hx hb dX10_behindSum_231 ?_
                                        exact tf_reti (z := 1) hx hb hr hlocks hQ hW ⟨by omega, by omega, ⟨(gb1_V), (gf1_V), (gt1_V), (gs1_V), (gw1_V), (gc1_W), ((gp1_W + 1)), (gx1_V), (gl), (go), rop1_W, rar1_W, (tf_up (rpi) (gp1_W) (25)), (tf_up (rpa) (gp1_W) (0)), hs661, hs662, hs663, hs664, hs665, hs667, ho649_0, hs666, hs655, hs656, hs668, hs669, ho649_1, ho649_2, ⟨by omega, by omega⟩, ⟨by omega, by omega⟩, ⟨by omega, by omega⟩, ⟨by omega, by omega⟩, ⟨by omega, by omega⟩, ⟨by omega, by omega⟩, ⟨by omega, by omega⟩, ⟨by omega, by omega⟩, ⟨by omega, by omega⟩, ⟨by omega, by omega⟩, (by first | assumption | omega), (by first | assumption | omega), (by first | exact tf_PI_PB (tf_PI_sign (hRW_5 o0 u0 fs hq3) (by omega) (by omega)) (by omega) | exact tf_PI_PB hq3 (by omega)), (by first | exact Or.inr (tf_ST1 (tf_PI_sign (hRW_5 o0 u0 fs hq3) (by omega) (by omega)) (tf_NS_Q (tf_NS_push (tf_NS_mono hNS (by omega)) (by omega)))) | exact Or.inl (by omega)), (by first | assumption | omega), (by first | exact tf_er_cmp hq5 hq6 hpI_2 (by omega) (by omega) hcm0 (by omega) (by omega) (by omega) (by omega) hRW_4 (by omega) (by omega) (hRV_1.resolve_left (by omega)) | exact tf_er_cmp0 hq6 hpI_2 (by omega) (by omega) (tf_no4 hn43 hn45 hn42 hn47) hcm0 (tf_no3 hn60 hn61 hn62) (by omega) (by omega) | exact absurd (show (1 : Int) = 0 by omega) (by decide)), (by first | assumption | omega)⟩⟩ dX10_behindSum_232
                                    · exfalso; omega
                                · refine tf_if_eq (tgt := 186) hx hb ⟨by decide, by decide⟩ dX10_behindSum_178 (by decide) (fun h670 => ?_) (fun h670 => ?_)
                                  · refine tf_bipush hx hb dX10_behindSum_186 (by decide) ?_
                                    refine lv_istore_n (lv' := [(2, .int (Int32.ofInt 26)), (3, .int (Int32.ofInt zI)), (0, .ref a0), (1, .int (Int32.ofInt x1))]) hx hb dX10_behindSum_188 rfl hl (by decide) rfl (fun ls hl => ?_)
                                    refine lv_aload_n hx hb dX10_behindSum_189 rfl (lv_at hl 2 rfl) ?_
                                    refine lv_iload_n hx hb dX10_behindSum_190 rfl (lv_at hl 0 rfl) ?_
                                    refine tf_bipush hx hb dX10_behindSum_191 (by decide) ?_
                                    refine tf_icmp_ne (tgt := 205) hx hb ⟨by decide, by decide⟩ ⟨by decide, by decide⟩ dX10_behindSum_193 (by decide) (fun h671 => ?_) (fun h671 => ?_)
                                    · exfalso; omega
                                    · refine lv_aload_n hx hb dX10_behindSum_196 rfl (lv_at hl 2 rfl) ?_
                                      refine tf_bipush hx hb dX10_behindSum_197 (by decide) ?_
                                      refine tf_calli (va_runV (As := [.int (Int32.ofInt 61)]) (rest := [.ref a0]) ⟨hx, hb, hml, hown, hts⟩ (c_X10_isSign l g T a0 ha0 (61) ⟨by omega, by omega⟩ (gs) ⟨by omega, by omega⟩ (gw) ⟨by omega, by omega⟩) (cwV 1 hts gv_X10_271 rfl rfl rfl hd_X10_isSign ⟨Nat.le_trans (by decide) hR1, Nat.le_trans (by decide) hR2⟩) (tf_preV hk hW ha0 (ci := 10) rfl rfl ⟨hs592, hs593⟩) rfl rfl hl.1 rfl (lv_room (Nat.le_of_ble_eq_true rfl)) dX10_behindSum_199 ⟨Nat.zero_le _, Nat.zero_le _⟩) hW (by decide) (fun z672 H672 locs672 hW hF672 hp672 => ?_)
                                      have hs673 := tf_keepF hF672 ha0 rfl rfl (by decide) hs585
                                      have hs674 := tf_keepF hF672 ha0 rfl rfl (by decide) hs586
                                      have hs675 := tf_keepF hF672 ha0 rfl rfl (by decide) hs587
                                      have hs676 := tf_keepF hF672 ha0 rfl rfl (by decide) hs588
                                      have hs677 := tf_keepF hF672 ha0 rfl rfl (by decide) hs589
                                      have hs678 := tf_keepF hF672 ha0 rfl rfl (by decide) hs590
                                      have hs679 := tf_keepF hF672 ha0 rfl rfl (by decide) hs591
                                      have hs680 := tf_keepF hF672 ha0 rfl rfl (by decide) hs592
                                      have hs681 := tf_keepF hF672 ha0 rfl rfl (by decide) hs593
                                      have hs682 := tf_keepF hF672 ha0 rfl rfl (by decide) hs594
                                      have hs683 := tf_keepF hF672 ha0 rfl rfl (by decide) hs595
                                      have hs684 := tf_keepF hF672 ha0 rfl rfl (by decide) hs596
                                      have hs685 := tf_keepF hF672 ha0 rfl rfl (by decide) hs597
                                      have hs686 := tf_keepF hF672 ha0 rfl rfl (by decide) hs598
                                      have hs687 := tf_keepF hF672 ha0 rfl rfl (by decide) hs599
                                      have hs688 := tf_keepC hF672 hqop rfl (by decide) hs600
                                      have hs689 := tf_keepC hF672 hqar rfl (by decide) hs601
                                      have hs690 := tf_keepC hF672 hqpi rfl (by decide) hs602
                                      have hs691 := tf_keepC hF672 hqpa rfl (by decide) hs603
                                      have hs692 := tf_keepF hF672 ha0 rfl rfl (by decide) hs604
                                      have hs693 := tf_keepC hF672 htm rfl (by decide) hs605
                                      have hs694 := tf_keepF hF672 ha0 rfl rfl (by decide) hs606
                                      have hs695 := tf_keepC hF672 hwd rfl (by decide) hs607
                                      rcases hp672 with ⟨rfl, h696⟩ | ⟨rfl, hn61⟩
                                      · refine tf_if_eq (tgt := 209) hx hb ⟨by decide, by decide⟩ dX10_behindSum_202 (by decide) (fun h697 => ?_) (fun h697 => ?_)
                                        · exfalso; omega
                                        · refine tf_iconst hx hb dX10_behindSum_205 ?_
                                          refine lv_goto (tgt := 210) hx hb dX10_behindSum_206 (by decide) ?_
                                          refine tf_callv (va_runV (As := [.int (Int32.ofInt 1)]) (rest := []) ⟨hx, hb, hml, hown, hts⟩ (c_X10_must l g T a0 ha0 (1) ⟨by omega, by omega⟩ tm htm (gn) ⟨by omega, by omega⟩ (gf) ⟨by omega, by omega⟩ (gt) ⟨by omega, by omega⟩ (gs) ⟨by omega, by omega⟩ (gw) ⟨by omega, by omega⟩ (gb) ⟨by omega, by omega⟩ (gx) ⟨by omega, by omega⟩ tp (by first | assumption | omega)) (cwV 1 hts gv_X10_235 rfl rfl rfl hd_X10_must ⟨Nat.le_trans (by decide) hR1, Nat.le_trans (by decide) hR2⟩) (tf_preV hk hW ha0 (ci := 10) rfl rfl ⟨hs677, hs678, hs679, hs680, hs681, hs682, hs685, hs692, hs693⟩) rfl rfl hl.1 rfl (lv_room (Nat.le_of_ble_eq_true rfl)) dX10_behindSum_210 ⟨Nat.zero_le _, Nat.zero_le _⟩) hW (by decide) (fun HV locsV hW hFV hpV => ?_)
                                          have hs698 := tf_keepF hFV ha0 rfl rfl (by decide) hs673
                                          have hs699 := tf_keepF hFV ha0 rfl rfl (by decide) hs674
                                          have hs700 := tf_keepF hFV ha0 rfl rfl (by decide) hs675
                                          have hs701 := tf_keepF hFV ha0 rfl rfl (by decide) hs676
                                          have hs702 := tf_keepF hFV ha0 rfl rfl (by decide) hs677
                                          have hs703 := tf_keepF hFV ha0 rfl rfl (by decide) hs683
                                          have hs704 := tf_keepF hFV ha0 rfl rfl (by decide) hs684
                                          have hs705 := tf_keepF hFV ha0 rfl rfl (by decide) hs686
                                          have hs706 := tf_keepF hFV ha0 rfl rfl (by decide) hs687
                                          have hs707 := tf_keepC hFV hqop rfl (by decide) hs688
                                          have hs708 := tf_keepC hFV hqar rfl (by decide) hs689
                                          have hs709 := tf_keepC hFV hqpi rfl (by decide) hs690
                                          have hs710 := tf_keepC hFV hqpa rfl (by decide) hs691
                                          have hs711 := tf_keepF hFV ha0 rfl rfl (by decide) hs692
                                          have hs712 := tf_keepC hFV htm rfl (by decide) hs693
                                          have hs713 := tf_keepF hFV ha0 rfl rfl (by decide) hs694
                                          have hs714 := tf_keepC hFV hwd rfl (by decide) hs695
                                          obtain ⟨gb1_V, gf1_V, gt1_V, gs1_V, gw1_V, gx1_V, hXV_0, hXV_1, hXV_2, hXV_3, hXV_4, hXV_5, hBV_0, hBV_1, hBV_2, hBV_3, hBV_4, hBV_5, hRV_0, hRV_1, hRV_2, hRV_3⟩ := hpV
                                          refine lv_aload_n hx hb dX10_behindSum_213 rfl (lv_at hl 2 rfl) ?_
                                          refine tf_get hx hb hts inlX10 hown hK (ci := 10) rfl hW ha0 rfl 14 rfl (by decide) (hts _ fl_X10_200) dX10_behindSum_214 (fun v715 hv715 hsv715 => ?_)
                                          obtain rfl : v715 = .int (Int32.ofInt gb1_V) := Option.some.inj (hsv715.symm.trans hXV_0)
                                          refine tf_if_ne (tgt := 231) hx hb ⟨by omega, by omega⟩ dX10_behindSum_217 (by decide) (fun h716 => ?_) (fun h716 => ?_)
                                          · refine tf_iconst hx hb dX10_behindSum_231 ?_
                                            exact tf_reti (z := 1) hx hb hr hlocks hQ hW ⟨by omega, by omega, ⟨(gb1_V), (gf1_V), (gt1_V), (gs1_V), (gw1_V), (gc), (gp), (gx1_V), (gl), (go), rop, rar, rpi, rpa, hXV_0, hXV_1, hXV_2, hXV_3, hXV_4, hs703, hs704, hXV_5, hs705, hs706, hs707, hs708, hs709, hs710, ⟨by omega, by omega⟩, ⟨by omega, by omega⟩, ⟨by omega, by omega⟩, ⟨by omega, by omega⟩, ⟨by omega, by omega⟩, ⟨by omega, by omega⟩, ⟨by omega, by omega⟩, ⟨by omega, by omega⟩, ⟨by omega, by omega⟩, ⟨by omega, by omega⟩, (by first | assumption | omega), (by first | assumption | omega), (by first | exact tf_PI_PB (tf_PI_sign (hRW_5 o0 u0 fs hq3) (by omega) (by omega)) (by omega) | exact tf_PI_PB hq3 (by omega)), (by first | exact Or.inr (tf_ST1 (tf_PI_sign (hRW_5 o0 u0 fs hq3) (by omega) (by omega)) (tf_NS_Q (tf_NS_push (tf_NS_mono hNS (by omega)) (by omega)))) | exact Or.inl (by omega)), (by first | assumption | omega), (by first | exact tf_er_cmp hq5 hq6 hpI_2 (by omega) (by omega) hcm0 (by omega) (by omega) (by omega) (by omega) hRW_4 (by omega) (by omega) (hRV_1.resolve_left (by omega)) | exact tf_er_cmp0 hq6 hpI_2 (by omega) (by omega) (tf_no4 hn43 hn45 hn42 hn47) hcm0 (tf_no3 hn60 hn61 hn62) (by omega) (by omega) | exact absurd (show (1 : Int) = 0 by omega) (by decide)), (by first | assumption | omega)⟩⟩ dX10_behindSum_232
                                          · refine lv_aload_n hx hb dX10_behindSum_220 rfl (lv_at hl 2 rfl) ?_
                                            refine tf_iconst hx hb dX10_behindSum_221 ?_
                                            refine tf_callv (va_runV (As := [.int (Int32.ofInt 5)]) (rest := []) ⟨hx, hb, hml, hown, hts⟩ (c_X10_settle l g T a0 ha0 (5) ⟨by omega, by omega⟩ qop hqop qar hqar qpi hqpi qpa hqpa (gc) ⟨by omega, by omega⟩ (gp) ⟨by omega, by omega⟩ rop rar rpi rpa (by first | assumption | omega) (tf_PI_PB hq3 (by omega))) (cwV 1 hts gv_X10_291 rfl rfl rfl hd_X10_settle ⟨Nat.le_trans (by decide) hR1, Nat.le_trans (by decide) hR2⟩) (tf_preV hk hW ha0 (ci := 10) rfl rfl ⟨hs698, hs699, hs700, hs701, hs703, hs704, hs707, hs708, hs709, hs710⟩) rfl rfl hl.1 rfl (lv_room (Nat.le_of_ble_eq_true rfl)) dX10_behindSum_222 ⟨Nat.zero_le _, Nat.zero_le _⟩) hW (by decide) (fun HW locsW hW hFW hpW => ?_)
                                            have hs717 := tf_keepF hFW ha0 rfl rfl (by decide) hs698
                                            have hs718 := tf_keepF hFW ha0 rfl rfl (by decide) hs699
                                            have hs719 := tf_keepF hFW ha0 rfl rfl (by decide) hs700
                                            have hs720 := tf_keepF hFW ha0 rfl rfl (by decide) hs701
                                            have hs721 := tf_keepF hFW ha0 rfl rfl (by decide) hs702
                                            have hs722 := tf_keepF hFW ha0 rfl rfl (by decide) hs705
                                            have hs723 := tf_keepF hFW ha0 rfl rfl (by decide) hs706
                                            have hs724 := tf_keepC hFW hqpi rfl (by decide) hs709
                                            have hs725 := tf_keepC hFW hqpa rfl (by decide) hs710
                                            have hs726 := tf_keepF hFW ha0 rfl rfl (by decide) hs711
                                            have hs727 := tf_keepC hFW htm rfl (by decide) hs712
                                            have hs728 := tf_keepF hFW ha0 rfl rfl (by decide) hs713
                                            have hs729 := tf_keepC hFW hwd rfl (by decide) hs714
                                            have hs730 := tf_keepF hFW ha0 rfl rfl (by decide) hXV_0
                                            have hs731 := tf_keepF hFW ha0 rfl rfl (by decide) hXV_1
                                            have hs732 := tf_keepF hFW ha0 rfl rfl (by decide) hXV_2
                                            have hs733 := tf_keepF hFW ha0 rfl rfl (by decide) hXV_3
                                            have hs734 := tf_keepF hFW ha0 rfl rfl (by decide) hXV_4
                                            have hs735 := tf_keepF hFW ha0 rfl rfl (by decide) hXV_5
                                            obtain ⟨gc1_W, gp1_W, rop1_W, rar1_W, hXW_0, hXW_1, hXW_2, hXW_3, hBW_0, hBW_1, hRW_0, hRW_1, hRW_2, hRW_3, hRW_4, hRW_5, hRW_6⟩ := hpW
                                            refine lv_aload_n hx hb dX10_behindSum_225 rfl (lv_at hl 2 rfl) ?_
                                            refine lv_iload_n hx hb dX10_behindSum_226 rfl (lv_at hl 0 rfl) ?_
                                            refine tf_iconst hx hb dX10_behindSum_227 ?_
                                            refine tf_callv (va_runV (As := [.int (Int32.ofInt 26), .int (Int32.ofInt 0)]) (rest := []) ⟨hx, hb, hml, hown, hts⟩ (c_X10_push l g T a0 ha0 (26) ⟨by omega, by omega⟩ (0) ⟨by omega, by omega⟩ qpi hqpi qpa hqpa (gp1_W) ⟨by omega, by omega⟩ rpi rpa) (cwV 2 hts gv_X10_265 rfl rfl rfl hd_X10_push ⟨Nat.le_trans (by decide) hR1, Nat.le_trans (by decide) hR2⟩) (tf_preV hk hW ha0 (ci := 10) rfl rfl ⟨hs719, hs720, hXW_1, hs724, hs725⟩) rfl rfl hl.1 rfl (lv_room (Nat.le_of_ble_eq_true rfl)) dX10_behindSum_228 ⟨Nat.zero_le _, Nat.zero_le _⟩) hW (by decide) (fun H736 locs736 hW hF736 hp736 => ?_)
                                            have hs737 := tf_keepF hF736 ha0 rfl rfl (by decide) hs717
                                            have hs738 := tf_keepF hF736 ha0 rfl rfl (by decide) hs718
                                            have hs739 := tf_keepF hF736 ha0 rfl rfl (by decide) hs719
                                            have hs740 := tf_keepF hF736 ha0 rfl rfl (by decide) hs720
                                            have hs741 := tf_keepF hF736 ha0 rfl rfl (by decide) hs721
                                            have hs742 := tf_keepF hF736 ha0 rfl rfl (by decide) hs722
                                            have hs743 := tf_keepF hF736 ha0 rfl rfl (by decide) hs723
                                            have hs744 := tf_keepF hF736 ha0 rfl rfl (by decide) hs726
                                            have hs745 := tf_keepC hF736 htm rfl (by decide) hs727
                                            have hs746 := tf_keepF hF736 ha0 rfl rfl (by decide) hs728
                                            have hs747 := tf_keepC hF736 hwd rfl (by decide) hs729
                                            have hs748 := tf_keepF hF736 ha0 rfl rfl (by decide) hs730
                                            have hs749 := tf_keepF hF736 ha0 rfl rfl (by decide) hs731
                                            have hs750 := tf_keepF hF736 ha0 rfl rfl (by decide) hs732
                                            have hs751 := tf_keepF hF736 ha0 rfl rfl (by decide) hs733
                                            have hs752 := tf_keepF hF736 ha0 rfl rfl (by decide) hs734
                                            have hs753 := tf_keepF hF736 ha0 rfl rfl (by decide) hs735
                                            have hs754 := tf_keepF hF736 ha0 rfl rfl (by decide) hXW_0
                                            have hs755 := tf_keepC hF736 hqop rfl (by decide) hXW_2
                                            have hs756 := tf_keepC hF736 hqar rfl (by decide) hXW_3
                                            obtain ⟨ho736_0, ho736_1, ho736_2⟩ := hp736
                                            refine tf_iconst hx hb dX10_behindSum_231 ?_
                                            exact tf_reti (z := 1) hx hb hr hlocks hQ hW ⟨by omega, by omega, ⟨(gb1_V), (gf1_V), (gt1_V), (gs1_V), (gw1_V), (gc1_W), ((gp1_W + 1)), (gx1_V), (gl), (go), rop1_W, rar1_W, (tf_up (rpi) (gp1_W) (26)), (tf_up (rpa) (gp1_W) (0)), hs748, hs749, hs750, hs751, hs752, hs754, ho736_0, hs753, hs742, hs743, hs755, hs756, ho736_1, ho736_2, ⟨by omega, by omega⟩, ⟨by omega, by omega⟩, ⟨by omega, by omega⟩, ⟨by omega, by omega⟩, ⟨by omega, by omega⟩, ⟨by omega, by omega⟩, ⟨by omega, by omega⟩, ⟨by omega, by omega⟩, ⟨by omega, by omega⟩, ⟨by omega, by omega⟩, (by first | assumption | omega), (by first | assumption | omega), (by first | exact tf_PI_PB (tf_PI_sign (hRW_5 o0 u0 fs hq3) (by omega) (by omega)) (by omega) | exact tf_PI_PB hq3 (by omega)), (by first | exact Or.inr (tf_ST1 (tf_PI_sign (hRW_5 o0 u0 fs hq3) (by omega) (by omega)) (tf_NS_Q (tf_NS_push (tf_NS_mono hNS (by omega)) (by omega)))) | exact Or.inl (by omega)), (by first | assumption | omega), (by first | exact tf_er_cmp hq5 hq6 hpI_2 (by omega) (by omega) hcm0 (by omega) (by omega) (by omega) (by omega) hRW_4 (by omega) (by omega) (hRV_1.resolve_left (by omega)) | exact tf_er_cmp0 hq6 hpI_2 (by omega) (by omega) (tf_no4 hn43 hn45 hn42 hn47) hcm0 (tf_no3 hn60 hn61 hn62) (by omega) (by omega) | exact absurd (show (1 : Int) = 0 by omega) (by decide)), (by first | assumption | omega)⟩⟩ dX10_behindSum_232
                                      · refine tf_if_eq (tgt := 209) hx hb ⟨by decide, by decide⟩ dX10_behindSum_202 (by decide) (fun h757 => ?_) (fun h757 => ?_)
                                        · refine tf_iconst hx hb dX10_behindSum_209 ?_
                                          refine tf_callv (va_runV (As := [.int (Int32.ofInt 0)]) (rest := []) ⟨hx, hb, hml, hown, hts⟩ (c_X10_must l g T a0 ha0 (0) ⟨by omega, by omega⟩ tm htm (gn) ⟨by omega, by omega⟩ (gf) ⟨by omega, by omega⟩ (gt) ⟨by omega, by omega⟩ (gs) ⟨by omega, by omega⟩ (gw) ⟨by omega, by omega⟩ (gb) ⟨by omega, by omega⟩ (gx) ⟨by omega, by omega⟩ tp (by first | assumption | omega)) (cwV 1 hts gv_X10_235 rfl rfl rfl hd_X10_must ⟨Nat.le_trans (by decide) hR1, Nat.le_trans (by decide) hR2⟩) (tf_preV hk hW ha0 (ci := 10) rfl rfl ⟨hs677, hs678, hs679, hs680, hs681, hs682, hs685, hs692, hs693⟩) rfl rfl hl.1 rfl (lv_room (Nat.le_of_ble_eq_true rfl)) dX10_behindSum_210 ⟨Nat.zero_le _, Nat.zero_le _⟩) hW (by decide) (fun HV locsV hW hFV hpV => ?_)
                                          have hs758 := tf_keepF hFV ha0 rfl rfl (by decide) hs673
                                          have hs759 := tf_keepF hFV ha0 rfl rfl (by decide) hs674
                                          have hs760 := tf_keepF hFV ha0 rfl rfl (by decide) hs675
                                          have hs761 := tf_keepF hFV ha0 rfl rfl (by decide) hs676
                                          have hs762 := tf_keepF hFV ha0 rfl rfl (by decide) hs677
                                          have hs763 := tf_keepF hFV ha0 rfl rfl (by decide) hs683
                                          have hs764 := tf_keepF hFV ha0 rfl rfl (by decide) hs684
                                          have hs765 := tf_keepF hFV ha0 rfl rfl (by decide) hs686
                                          have hs766 := tf_keepF hFV ha0 rfl rfl (by decide) hs687
                                          have hs767 := tf_keepC hFV hqop rfl (by decide) hs688
                                          have hs768 := tf_keepC hFV hqar rfl (by decide) hs689
                                          have hs769 := tf_keepC hFV hqpi rfl (by decide) hs690
                                          have hs770 := tf_keepC hFV hqpa rfl (by decide) hs691
                                          have hs771 := tf_keepF hFV ha0 rfl rfl (by decide) hs692
                                          have hs772 := tf_keepC hFV htm rfl (by decide) hs693
                                          have hs773 := tf_keepF hFV ha0 rfl rfl (by decide) hs694
                                          have hs774 := tf_keepC hFV hwd rfl (by decide) hs695
                                          obtain ⟨gb1_V, gf1_V, gt1_V, gs1_V, gw1_V, gx1_V, hXV_0, hXV_1, hXV_2, hXV_3, hXV_4, hXV_5, hBV_0, hBV_1, hBV_2, hBV_3, hBV_4, hBV_5, hRV_0, hRV_1, hRV_2, hRV_3⟩ := hpV
                                          refine lv_aload_n hx hb dX10_behindSum_213 rfl (lv_at hl 2 rfl) ?_
                                          refine tf_get hx hb hts inlX10 hown hK (ci := 10) rfl hW ha0 rfl 14 rfl (by decide) (hts _ fl_X10_200) dX10_behindSum_214 (fun v775 hv775 hsv775 => ?_)
                                          obtain rfl : v775 = .int (Int32.ofInt gb1_V) := Option.some.inj (hsv775.symm.trans hXV_0)
                                          refine tf_if_ne (tgt := 231) hx hb ⟨by omega, by omega⟩ dX10_behindSum_217 (by decide) (fun h776 => ?_) (fun h776 => ?_)
                                          · refine tf_iconst hx hb dX10_behindSum_231 ?_
                                            exact tf_reti (z := 1) hx hb hr hlocks hQ hW ⟨by omega, by omega, ⟨(gb1_V), (gf1_V), (gt1_V), (gs1_V), (gw1_V), (gc), (gp), (gx1_V), (gl), (go), rop, rar, rpi, rpa, hXV_0, hXV_1, hXV_2, hXV_3, hXV_4, hs763, hs764, hXV_5, hs765, hs766, hs767, hs768, hs769, hs770, ⟨by omega, by omega⟩, ⟨by omega, by omega⟩, ⟨by omega, by omega⟩, ⟨by omega, by omega⟩, ⟨by omega, by omega⟩, ⟨by omega, by omega⟩, ⟨by omega, by omega⟩, ⟨by omega, by omega⟩, ⟨by omega, by omega⟩, ⟨by omega, by omega⟩, (by first | assumption | omega), (by first | assumption | omega), (by first | exact tf_PI_PB (tf_PI_sign (hRW_5 o0 u0 fs hq3) (by omega) (by omega)) (by omega) | exact tf_PI_PB hq3 (by omega)), (by first | exact Or.inr (tf_ST1 (tf_PI_sign (hRW_5 o0 u0 fs hq3) (by omega) (by omega)) (tf_NS_Q (tf_NS_push (tf_NS_mono hNS (by omega)) (by omega)))) | exact Or.inl (by omega)), (by first | assumption | omega), (by first | exact tf_er_cmp hq5 hq6 hpI_2 (by omega) (by omega) hcm0 (by omega) (by omega) (by omega) (by omega) hRW_4 (by omega) (by omega) (hRV_1.resolve_left (by omega)) | exact tf_er_cmp0 hq6 hpI_2 (by omega) (by omega) (tf_no4 hn43 hn45 hn42 hn47) hcm0 (tf_no3 hn60 hn61 hn62) (by omega) (by omega) | exact absurd (show (1 : Int) = 0 by omega) (by decide)), (by first | assumption | omega)⟩⟩ dX10_behindSum_232
                                          · refine lv_aload_n hx hb dX10_behindSum_220 rfl (lv_at hl 2 rfl) ?_
                                            refine tf_iconst hx hb dX10_behindSum_221 ?_
                                            refine tf_callv (va_runV (As := [.int (Int32.ofInt 5)]) (rest := []) ⟨hx, hb, hml, hown, hts⟩ (c_X10_settle l g T a0 ha0 (5) ⟨by omega, by omega⟩ qop hqop qar hqar qpi hqpi qpa hqpa (gc) ⟨by omega, by omega⟩ (gp) ⟨by omega, by omega⟩ rop rar rpi rpa (by first | assumption | omega) (tf_PI_PB hq3 (by omega))) (cwV 1 hts gv_X10_291 rfl rfl rfl hd_X10_settle ⟨Nat.le_trans (by decide) hR1, Nat.le_trans (by decide) hR2⟩) (tf_preV hk hW ha0 (ci := 10) rfl rfl ⟨hs758, hs759, hs760, hs761, hs763, hs764, hs767, hs768, hs769, hs770⟩) rfl rfl hl.1 rfl (lv_room (Nat.le_of_ble_eq_true rfl)) dX10_behindSum_222 ⟨Nat.zero_le _, Nat.zero_le _⟩) hW (by decide) (fun HW locsW hW hFW hpW => ?_)
                                            have hs777 := tf_keepF hFW ha0 rfl rfl (by decide) hs758
                                            have hs778 := tf_keepF hFW ha0 rfl rfl (by decide) hs759
                                            have hs779 := tf_keepF hFW ha0 rfl rfl (by decide) hs760
                                            have hs780 := tf_keepF hFW ha0 rfl rfl (by decide) hs761
                                            have hs781 := tf_keepF hFW ha0 rfl rfl (by decide) hs762
                                            have hs782 := tf_keepF hFW ha0 rfl rfl (by decide) hs765
                                            have hs783 := tf_keepF hFW ha0 rfl rfl (by decide) hs766
                                            have hs784 := tf_keepC hFW hqpi rfl (by decide) hs769
                                            have hs785 := tf_keepC hFW hqpa rfl (by decide) hs770
                                            have hs786 := tf_keepF hFW ha0 rfl rfl (by decide) hs771
                                            have hs787 := tf_keepC hFW htm rfl (by decide) hs772
                                            have hs788 := tf_keepF hFW ha0 rfl rfl (by decide) hs773
                                            have hs789 := tf_keepC hFW hwd rfl (by decide) hs774
                                            have hs790 := tf_keepF hFW ha0 rfl rfl (by decide) hXV_0
                                            have hs791 := tf_keepF hFW ha0 rfl rfl (by decide) hXV_1
                                            have hs792 := tf_keepF hFW ha0 rfl rfl (by decide) hXV_2
                                            have hs793 := tf_keepF hFW ha0 rfl rfl (by decide) hXV_3
                                            have hs794 := tf_keepF hFW ha0 rfl rfl (by decide) hXV_4
                                            have hs795 := tf_keepF hFW ha0 rfl rfl (by decide) hXV_5
                                            obtain ⟨gc1_W, gp1_W, rop1_W, rar1_W, hXW_0, hXW_1, hXW_2, hXW_3, hBW_0, hBW_1, hRW_0, hRW_1, hRW_2, hRW_3, hRW_4, hRW_5, hRW_6⟩ := hpW
                                            refine lv_aload_n hx hb dX10_behindSum_225 rfl (lv_at hl 2 rfl) ?_
                                            refine lv_iload_n hx hb dX10_behindSum_226 rfl (lv_at hl 0 rfl) ?_
                                            refine tf_iconst hx hb dX10_behindSum_227 ?_
                                            refine tf_callv (va_runV (As := [.int (Int32.ofInt 26), .int (Int32.ofInt 0)]) (rest := []) ⟨hx, hb, hml, hown, hts⟩ (c_X10_push l g T a0 ha0 (26) ⟨by omega, by omega⟩ (0) ⟨by omega, by omega⟩ qpi hqpi qpa hqpa (gp1_W) ⟨by omega, by omega⟩ rpi rpa) (cwV 2 hts gv_X10_265 rfl rfl rfl hd_X10_push ⟨Nat.le_trans (by decide) hR1, Nat.le_trans (by decide) hR2⟩) (tf_preV hk hW ha0 (ci := 10) rfl rfl ⟨hs779, hs780, hXW_1, hs784, hs785⟩) rfl rfl hl.1 rfl (lv_room (Nat.le_of_ble_eq_true rfl)) dX10_behindSum_228 ⟨Nat.zero_le _, Nat.zero_le _⟩) hW (by decide) (fun H796 locs796 hW hF796 hp796 => ?_)
                                            have hs797 := tf_keepF hF796 ha0 rfl rfl (by decide) hs777
                                            have hs798 := tf_keepF hF796 ha0 rfl rfl (by decide) hs778
                                            have hs799 := tf_keepF hF796 ha0 rfl rfl (by decide) hs779
                                            have hs800 := tf_keepF hF796 ha0 rfl rfl (by decide) hs780
                                            have hs801 := tf_keepF hF796 ha0 rfl rfl (by decide) hs781
                                            have hs802 := tf_keepF hF796 ha0 rfl rfl (by decide) hs782
                                            have hs803 := tf_keepF hF796 ha0 rfl rfl (by decide) hs783
                                            have hs804 := tf_keepF hF796 ha0 rfl rfl (by decide) hs786
                                            have hs805 := tf_keepC hF796 htm rfl (by decide) hs787
                                            have hs806 := tf_keepF hF796 ha0 rfl rfl (by decide) hs788
                                            have hs807 := tf_keepC hF796 hwd rfl (by decide) hs789
                                            have hs808 := tf_keepF hF796 ha0 rfl rfl (by decide) hs790
                                            have hs809 := tf_keepF hF796 ha0 rfl rfl (by decide) hs791
                                            have hs810 := tf_keepF hF796 ha0 rfl rfl (by decide) hs792
                                            have hs811 := tf_keepF hF796 ha0 rfl rfl (by decide) hs793
                                            have hs812 := tf_keepF hF796 ha0 rfl rfl (by decide) hs794
                                            have hs813 := tf_keepF hF796 ha0 rfl rfl (by decide) hs795
                                            have hs814 := tf_keepF hF796 ha0 rfl rfl (by decide) hXW_0
                                            have hs815 := tf_keepC hF796 hqop rfl (by decide) hXW_2
                                            have hs816 := tf_keepC hF796 hqar rfl (by decide) hXW_3
                                            obtain ⟨ho796_0, ho796_1, ho796_2⟩ := hp796
                                            refine tf_iconst hx hb dX10_behindSum_231 ?_
                                            exact tf_reti (z := 1) hx hb hr hlocks hQ hW ⟨by omega, by omega, ⟨(gb1_V), (gf1_V), (gt1_V), (gs1_V), (gw1_V), (gc1_W), ((gp1_W + 1)), (gx1_V), (gl), (go), rop1_W, rar1_W, (tf_up (rpi) (gp1_W) (26)), (tf_up (rpa) (gp1_W) (0)), hs808, hs809, hs810, hs811, hs812, hs814, ho796_0, hs813, hs802, hs803, hs815, hs816, ho796_1, ho796_2, ⟨by omega, by omega⟩, ⟨by omega, by omega⟩, ⟨by omega, by omega⟩, ⟨by omega, by omega⟩, ⟨by omega, by omega⟩, ⟨by omega, by omega⟩, ⟨by omega, by omega⟩, ⟨by omega, by omega⟩, ⟨by omega, by omega⟩, ⟨by omega, by omega⟩, (by first | assumption | omega), (by first | assumption | omega), (by first | exact tf_PI_PB (tf_PI_sign (hRW_5 o0 u0 fs hq3) (by omega) (by omega)) (by omega) | exact tf_PI_PB hq3 (by omega)), (by first | exact Or.inr (tf_ST1 (tf_PI_sign (hRW_5 o0 u0 fs hq3) (by omega) (by omega)) (tf_NS_Q (tf_NS_push (tf_NS_mono hNS (by omega)) (by omega)))) | exact Or.inl (by omega)), (by first | assumption | omega), (by first | exact tf_er_cmp hq5 hq6 hpI_2 (by omega) (by omega) hcm0 (by omega) (by omega) (by omega) (by omega) hRW_4 (by omega) (by omega) (hRV_1.resolve_left (by omega)) | exact tf_er_cmp0 hq6 hpI_2 (by omega) (by omega) (tf_no4 hn43 hn45 hn42 hn47) hcm0 (tf_no3 hn60 hn61 hn62) (by omega) (by omega) | exact absurd (show (1 : Int) = 0 by omega) (by decide)), (by first | assumption | omega)⟩⟩ dX10_behindSum_232
                                        · exfalso; omega
                                  · exfalso; omega
                              · exfalso; omega
                          · exfalso; omega
                      · refine lv_iload_n hx hb dX10_behindSum_143 rfl (lv_at hl 3 rfl) ?_
                        refine tf_if_ne (tgt := 149) hx hb ⟨by omega, by omega⟩ dX10_behindSum_144 (by decide) (fun h817 => ?_) (fun h817 => ?_)
                        · have hNS := tf_inn_NS hpI_2 (by omega) hq4
                          refine lv_aload_n hx hb dX10_behindSum_149 rfl (lv_at hl 2 rfl) ?_
                          refine tf_calli (va_runV (As := []) (rest := []) ⟨hx, hb, hml, hown, hts⟩ (c_X10_isCompared l g T a0 ha0 qpi hqpi (gp) ⟨by omega, by omega⟩ rpi) (cwV 0 hts gv_X10_297 rfl rfl rfl hd_X10_isCompared ⟨Nat.le_trans (by decide) hR1, Nat.le_trans (by decide) hR2⟩) (tf_preV hk hW ha0 (ci := 10) rfl rfl ⟨hs448, hs457, hs463⟩) rfl rfl hl.1 rfl (lv_room (Nat.le_of_ble_eq_true rfl)) dX10_behindSum_150 ⟨Nat.zero_le _, Nat.zero_le _⟩) hW (by decide) (fun z818 H818 locs818 hW hF818 hp818 => ?_)
                          have hs819 := tf_keepF hF818 ha0 rfl rfl (by decide) hs446
                          have hs820 := tf_keepF hF818 ha0 rfl rfl (by decide) hs447
                          have hs821 := tf_keepF hF818 ha0 rfl rfl (by decide) hs448
                          have hs822 := tf_keepF hF818 ha0 rfl rfl (by decide) hs449
                          have hs823 := tf_keepF hF818 ha0 rfl rfl (by decide) hs450
                          have hs824 := tf_keepF hF818 ha0 rfl rfl (by decide) hs451
                          have hs825 := tf_keepF hF818 ha0 rfl rfl (by decide) hs452
                          have hs826 := tf_keepF hF818 ha0 rfl rfl (by decide) hs453
                          have hs827 := tf_keepF hF818 ha0 rfl rfl (by decide) hs454
                          have hs828 := tf_keepF hF818 ha0 rfl rfl (by decide) hs455
                          have hs829 := tf_keepF hF818 ha0 rfl rfl (by decide) hs456
                          have hs830 := tf_keepF hF818 ha0 rfl rfl (by decide) hs457
                          have hs831 := tf_keepF hF818 ha0 rfl rfl (by decide) hs458
                          have hs832 := tf_keepF hF818 ha0 rfl rfl (by decide) hs459
                          have hs833 := tf_keepF hF818 ha0 rfl rfl (by decide) hs460
                          have hs834 := tf_keepC hF818 hqop rfl (by decide) hs461
                          have hs835 := tf_keepC hF818 hqar rfl (by decide) hs462
                          have hs836 := tf_keepC hF818 hqpi rfl (by decide) hs463
                          have hs837 := tf_keepC hF818 hqpa rfl (by decide) hs464
                          have hs838 := tf_keepF hF818 ha0 rfl rfl (by decide) hs465
                          have hs839 := tf_keepC hF818 htm rfl (by decide) hs466
                          have hs840 := tf_keepF hF818 ha0 rfl rfl (by decide) hs467
                          have hs841 := tf_keepC hF818 hwd rfl (by decide) hs468
                          rcases hp818 with ⟨rfl, hcm1⟩ | ⟨rfl, hcm0⟩
                          · refine tf_if_eq (tgt := 158) hx hb ⟨by decide, by decide⟩ dX10_behindSum_153 (by decide) (fun h842 => ?_) (fun h842 => ?_)
                            · exfalso; omega
                            · refine tf_iconst hx hb dX10_behindSum_156 ?_
                              exact tf_reti (z := 2) hx hb hr hlocks hQ hW ⟨by omega, by omega, ⟨(gb), (gf), (gt), (gs), (gw), (gc), (gp), (gx), (gl), (go), rop, rar, rpi, rpa, hs828, hs824, hs825, hs826, hs827, hs829, hs830, hs831, hs832, hs833, hs834, hs835, hs836, hs837, ⟨by omega, by omega⟩, ⟨by omega, by omega⟩, ⟨by omega, by omega⟩, ⟨by omega, by omega⟩, ⟨by omega, by omega⟩, ⟨by omega, by omega⟩, ⟨by omega, by omega⟩, ⟨by omega, by omega⟩, ⟨by omega, by omega⟩, ⟨by omega, by omega⟩, (by first | assumption | omega), (by first | assumption | omega), (tf_PI_PB hq3 (by omega)), (Or.inr (tf_ST2 hq3 hNS)), (by first | assumption | omega), (tf_er_told hq6 hpI_2 (by omega) (by omega) (tf_no4 hn43 hn45 hn42 hn47) hcm1 (by omega)), (by first | assumption | omega)⟩⟩ dX10_behindSum_157
                          · refine tf_if_eq (tgt := 158) hx hb ⟨by decide, by decide⟩ dX10_behindSum_153 (by decide) (fun h843 => ?_) (fun h843 => ?_)
                            · refine lv_aload_n hx hb dX10_behindSum_158 rfl (lv_at hl 2 rfl) ?_
                              refine tf_bipush hx hb dX10_behindSum_159 (by decide) ?_
                              refine tf_calli (va_runV (As := [.int (Int32.ofInt 60)]) (rest := []) ⟨hx, hb, hml, hown, hts⟩ (c_X10_isSign l g T a0 ha0 (60) ⟨by omega, by omega⟩ (gs) ⟨by omega, by omega⟩ (gw) ⟨by omega, by omega⟩) (cwV 1 hts gv_X10_271 rfl rfl rfl hd_X10_isSign ⟨Nat.le_trans (by decide) hR1, Nat.le_trans (by decide) hR2⟩) (tf_preV hk hW ha0 (ci := 10) rfl rfl ⟨hs826, hs827⟩) rfl rfl hl.1 rfl (lv_room (Nat.le_of_ble_eq_true rfl)) dX10_behindSum_161 ⟨Nat.zero_le _, Nat.zero_le _⟩) hW (by decide) (fun z844 H844 locs844 hW hF844 hp844 => ?_)
                              have hs845 := tf_keepF hF844 ha0 rfl rfl (by decide) hs819
                              have hs846 := tf_keepF hF844 ha0 rfl rfl (by decide) hs820
                              have hs847 := tf_keepF hF844 ha0 rfl rfl (by decide) hs821
                              have hs848 := tf_keepF hF844 ha0 rfl rfl (by decide) hs822
                              have hs849 := tf_keepF hF844 ha0 rfl rfl (by decide) hs823
                              have hs850 := tf_keepF hF844 ha0 rfl rfl (by decide) hs824
                              have hs851 := tf_keepF hF844 ha0 rfl rfl (by decide) hs825
                              have hs852 := tf_keepF hF844 ha0 rfl rfl (by decide) hs826
                              have hs853 := tf_keepF hF844 ha0 rfl rfl (by decide) hs827
                              have hs854 := tf_keepF hF844 ha0 rfl rfl (by decide) hs828
                              have hs855 := tf_keepF hF844 ha0 rfl rfl (by decide) hs829
                              have hs856 := tf_keepF hF844 ha0 rfl rfl (by decide) hs830
                              have hs857 := tf_keepF hF844 ha0 rfl rfl (by decide) hs831
                              have hs858 := tf_keepF hF844 ha0 rfl rfl (by decide) hs832
                              have hs859 := tf_keepF hF844 ha0 rfl rfl (by decide) hs833
                              have hs860 := tf_keepC hF844 hqop rfl (by decide) hs834
                              have hs861 := tf_keepC hF844 hqar rfl (by decide) hs835
                              have hs862 := tf_keepC hF844 hqpi rfl (by decide) hs836
                              have hs863 := tf_keepC hF844 hqpa rfl (by decide) hs837
                              have hs864 := tf_keepF hF844 ha0 rfl rfl (by decide) hs838
                              have hs865 := tf_keepC hF844 htm rfl (by decide) hs839
                              have hs866 := tf_keepF hF844 ha0 rfl rfl (by decide) hs840
                              have hs867 := tf_keepC hF844 hwd rfl (by decide) hs841
                              rcases hp844 with ⟨rfl, h868⟩ | ⟨rfl, hn60⟩
                              · refine tf_if_eq (tgt := 172) hx hb ⟨by decide, by decide⟩ dX10_behindSum_164 (by decide) (fun h869 => ?_) (fun h869 => ?_)
                                · exfalso; omega
                                · refine tf_bipush hx hb dX10_behindSum_167 (by decide) ?_
                                  refine lv_goto (tgt := 188) hx hb dX10_behindSum_169 (by decide) ?_
                                  refine lv_istore_n (lv' := [(2, .int (Int32.ofInt 24)), (3, .int (Int32.ofInt zI)), (0, .ref a0), (1, .int (Int32.ofInt x1))]) hx hb dX10_behindSum_188 rfl hl (by decide) rfl (fun ls hl => ?_)
                                  refine lv_aload_n hx hb dX10_behindSum_189 rfl (lv_at hl 2 rfl) ?_
                                  refine lv_iload_n hx hb dX10_behindSum_190 rfl (lv_at hl 0 rfl) ?_
                                  refine tf_bipush hx hb dX10_behindSum_191 (by decide) ?_
                                  refine tf_icmp_ne (tgt := 205) hx hb ⟨by decide, by decide⟩ ⟨by decide, by decide⟩ dX10_behindSum_193 (by decide) (fun h870 => ?_) (fun h870 => ?_)
                                  · refine tf_iconst hx hb dX10_behindSum_205 ?_
                                    refine lv_goto (tgt := 210) hx hb dX10_behindSum_206 (by decide) ?_
                                    refine tf_callv (va_runV (As := [.int (Int32.ofInt 1)]) (rest := []) ⟨hx, hb, hml, hown, hts⟩ (c_X10_must l g T a0 ha0 (1) ⟨by omega, by omega⟩ tm htm (gn) ⟨by omega, by omega⟩ (gf) ⟨by omega, by omega⟩ (gt) ⟨by omega, by omega⟩ (gs) ⟨by omega, by omega⟩ (gw) ⟨by omega, by omega⟩ (gb) ⟨by omega, by omega⟩ (gx) ⟨by omega, by omega⟩ tp (by first | assumption | omega)) (cwV 1 hts gv_X10_235 rfl rfl rfl hd_X10_must ⟨Nat.le_trans (by decide) hR1, Nat.le_trans (by decide) hR2⟩) (tf_preV hk hW ha0 (ci := 10) rfl rfl ⟨hs849, hs850, hs851, hs852, hs853, hs854, hs857, hs864, hs865⟩) rfl rfl hl.1 rfl (lv_room (Nat.le_of_ble_eq_true rfl)) dX10_behindSum_210 ⟨Nat.zero_le _, Nat.zero_le _⟩) hW (by decide) (fun HV locsV hW hFV hpV => ?_)
                                    have hs871 := tf_keepF hFV ha0 rfl rfl (by decide) hs845
                                    have hs872 := tf_keepF hFV ha0 rfl rfl (by decide) hs846
                                    have hs873 := tf_keepF hFV ha0 rfl rfl (by decide) hs847
                                    have hs874 := tf_keepF hFV ha0 rfl rfl (by decide) hs848
                                    have hs875 := tf_keepF hFV ha0 rfl rfl (by decide) hs849
                                    have hs876 := tf_keepF hFV ha0 rfl rfl (by decide) hs855
                                    have hs877 := tf_keepF hFV ha0 rfl rfl (by decide) hs856
                                    have hs878 := tf_keepF hFV ha0 rfl rfl (by decide) hs858
                                    have hs879 := tf_keepF hFV ha0 rfl rfl (by decide) hs859
                                    have hs880 := tf_keepC hFV hqop rfl (by decide) hs860
                                    have hs881 := tf_keepC hFV hqar rfl (by decide) hs861
                                    have hs882 := tf_keepC hFV hqpi rfl (by decide) hs862
                                    have hs883 := tf_keepC hFV hqpa rfl (by decide) hs863
                                    have hs884 := tf_keepF hFV ha0 rfl rfl (by decide) hs864
                                    have hs885 := tf_keepC hFV htm rfl (by decide) hs865
                                    have hs886 := tf_keepF hFV ha0 rfl rfl (by decide) hs866
                                    have hs887 := tf_keepC hFV hwd rfl (by decide) hs867
                                    obtain ⟨gb1_V, gf1_V, gt1_V, gs1_V, gw1_V, gx1_V, hXV_0, hXV_1, hXV_2, hXV_3, hXV_4, hXV_5, hBV_0, hBV_1, hBV_2, hBV_3, hBV_4, hBV_5, hRV_0, hRV_1, hRV_2, hRV_3⟩ := hpV
                                    refine lv_aload_n hx hb dX10_behindSum_213 rfl (lv_at hl 2 rfl) ?_
                                    refine tf_get hx hb hts inlX10 hown hK (ci := 10) rfl hW ha0 rfl 14 rfl (by decide) (hts _ fl_X10_200) dX10_behindSum_214 (fun v888 hv888 hsv888 => ?_)
                                    obtain rfl : v888 = .int (Int32.ofInt gb1_V) := Option.some.inj (hsv888.symm.trans hXV_0)
                                    refine tf_if_ne (tgt := 231) hx hb ⟨by omega, by omega⟩ dX10_behindSum_217 (by decide) (fun h889 => ?_) (fun h889 => ?_)
                                    · refine tf_iconst hx hb dX10_behindSum_231 ?_
                                      exact tf_reti (z := 1) hx hb hr hlocks hQ hW ⟨by omega, by omega, ⟨(gb1_V), (gf1_V), (gt1_V), (gs1_V), (gw1_V), (gc), (gp), (gx1_V), (gl), (go), rop, rar, rpi, rpa, hXV_0, hXV_1, hXV_2, hXV_3, hXV_4, hs876, hs877, hXV_5, hs878, hs879, hs880, hs881, hs882, hs883, ⟨by omega, by omega⟩, ⟨by omega, by omega⟩, ⟨by omega, by omega⟩, ⟨by omega, by omega⟩, ⟨by omega, by omega⟩, ⟨by omega, by omega⟩, ⟨by omega, by omega⟩, ⟨by omega, by omega⟩, ⟨by omega, by omega⟩, ⟨by omega, by omega⟩, (by first | assumption | omega), (by first | assumption | omega), (by first | exact tf_PI_PB (tf_PI_sign (hRW_5 o0 u0 fs hq3) (by omega) (by omega)) (by omega) | exact tf_PI_PB hq3 (by omega)), (by first | exact Or.inr (tf_ST1 (tf_PI_sign (hRW_5 o0 u0 fs hq3) (by omega) (by omega)) (tf_NS_Q (tf_NS_push (tf_NS_mono hNS (by omega)) (by omega)))) | exact Or.inl (by omega)), (by first | assumption | omega), (by first | exact tf_er_cmp hq5 hq6 hpI_2 (by omega) (by omega) hcm0 (by omega) (by omega) (by omega) (by omega) hRW_4 (by omega) (by omega) (hRV_1.resolve_left (by omega)) | exact tf_er_cmp0 hq6 hpI_2 (by omega) (by omega) (tf_no4 hn43 hn45 hn42 hn47) hcm0 (tf_no3 hn60 hn61 hn62) (by omega) (by omega) | exact absurd (show (1 : Int) = 0 by omega) (by decide)), (by first | assumption | omega)⟩⟩ dX10_behindSum_232
                                    · refine lv_aload_n hx hb dX10_behindSum_220 rfl (lv_at hl 2 rfl) ?_
                                      refine tf_iconst hx hb dX10_behindSum_221 ?_
                                      refine tf_callv (va_runV (As := [.int (Int32.ofInt 5)]) (rest := []) ⟨hx, hb, hml, hown, hts⟩ (c_X10_settle l g T a0 ha0 (5) ⟨by omega, by omega⟩ qop hqop qar hqar qpi hqpi qpa hqpa (gc) ⟨by omega, by omega⟩ (gp) ⟨by omega, by omega⟩ rop rar rpi rpa (by first | assumption | omega) (tf_PI_PB hq3 (by omega))) (cwV 1 hts gv_X10_291 rfl rfl rfl hd_X10_settle ⟨Nat.le_trans (by decide) hR1, Nat.le_trans (by decide) hR2⟩) (tf_preV hk hW ha0 (ci := 10) rfl rfl ⟨hs871, hs872, hs873, hs874, hs876, hs877, hs880, hs881, hs882, hs883⟩) rfl rfl hl.1 rfl (lv_room (Nat.le_of_ble_eq_true rfl)) dX10_behindSum_222 ⟨Nat.zero_le _, Nat.zero_le _⟩) hW (by decide) (fun HW locsW hW hFW hpW => ?_)
                                      have hs890 := tf_keepF hFW ha0 rfl rfl (by decide) hs871
                                      have hs891 := tf_keepF hFW ha0 rfl rfl (by decide) hs872
                                      have hs892 := tf_keepF hFW ha0 rfl rfl (by decide) hs873
                                      have hs893 := tf_keepF hFW ha0 rfl rfl (by decide) hs874
                                      have hs894 := tf_keepF hFW ha0 rfl rfl (by decide) hs875
                                      have hs895 := tf_keepF hFW ha0 rfl rfl (by decide) hs878
                                      have hs896 := tf_keepF hFW ha0 rfl rfl (by decide) hs879
                                      have hs897 := tf_keepC hFW hqpi rfl (by decide) hs882
                                      have hs898 := tf_keepC hFW hqpa rfl (by decide) hs883
                                      have hs899 := tf_keepF hFW ha0 rfl rfl (by decide) hs884
                                      have hs900 := tf_keepC hFW htm rfl (by decide) hs885
                                      have hs901 := tf_keepF hFW ha0 rfl rfl (by decide) hs886
                                      have hs902 := tf_keepC hFW hwd rfl (by decide) hs887
                                      have hs903 := tf_keepF hFW ha0 rfl rfl (by decide) hXV_0
                                      have hs904 := tf_keepF hFW ha0 rfl rfl (by decide) hXV_1
                                      have hs905 := tf_keepF hFW ha0 rfl rfl (by decide) hXV_2
                                      have hs906 := tf_keepF hFW ha0 rfl rfl (by decide) hXV_3
                                      have hs907 := tf_keepF hFW ha0 rfl rfl (by decide) hXV_4
                                      have hs908 := tf_keepF hFW ha0 rfl rfl (by decide) hXV_5
                                      obtain ⟨gc1_W, gp1_W, rop1_W, rar1_W, hXW_0, hXW_1, hXW_2, hXW_3, hBW_0, hBW_1, hRW_0, hRW_1, hRW_2, hRW_3, hRW_4, hRW_5, hRW_6⟩ := hpW
                                      refine lv_aload_n hx hb dX10_behindSum_225 rfl (lv_at hl 2 rfl) ?_
                                      refine lv_iload_n hx hb dX10_behindSum_226 rfl (lv_at hl 0 rfl) ?_
                                      refine tf_iconst hx hb dX10_behindSum_227 ?_
                                      refine tf_callv (va_runV (As := [.int (Int32.ofInt 24), .int (Int32.ofInt 0)]) (rest := []) ⟨hx, hb, hml, hown, hts⟩ (c_X10_push l g T a0 ha0 (24) ⟨by omega, by omega⟩ (0) ⟨by omega, by omega⟩ qpi hqpi qpa hqpa (gp1_W) ⟨by omega, by omega⟩ rpi rpa) (cwV 2 hts gv_X10_265 rfl rfl rfl hd_X10_push ⟨Nat.le_trans (by decide) hR1, Nat.le_trans (by decide) hR2⟩) (tf_preV hk hW ha0 (ci := 10) rfl rfl ⟨hs892, hs893, hXW_1, hs897, hs898⟩) rfl rfl hl.1 rfl (lv_room (Nat.le_of_ble_eq_true rfl)) dX10_behindSum_228 ⟨Nat.zero_le _, Nat.zero_le _⟩) hW (by decide) (fun H909 locs909 hW hF909 hp909 => ?_)
                                      have hs910 := tf_keepF hF909 ha0 rfl rfl (by decide) hs890
                                      have hs911 := tf_keepF hF909 ha0 rfl rfl (by decide) hs891
                                      have hs912 := tf_keepF hF909 ha0 rfl rfl (by decide) hs892
                                      have hs913 := tf_keepF hF909 ha0 rfl rfl (by decide) hs893
                                      have hs914 := tf_keepF hF909 ha0 rfl rfl (by decide) hs894
                                      have hs915 := tf_keepF hF909 ha0 rfl rfl (by decide) hs895
                                      have hs916 := tf_keepF hF909 ha0 rfl rfl (by decide) hs896
                                      have hs917 := tf_keepF hF909 ha0 rfl rfl (by decide) hs899
                                      have hs918 := tf_keepC hF909 htm rfl (by decide) hs900
                                      have hs919 := tf_keepF hF909 ha0 rfl rfl (by decide) hs901
                                      have hs920 := tf_keepC hF909 hwd rfl (by decide) hs902
                                      have hs921 := tf_keepF hF909 ha0 rfl rfl (by decide) hs903
                                      have hs922 := tf_keepF hF909 ha0 rfl rfl (by decide) hs904
                                      have hs923 := tf_keepF hF909 ha0 rfl rfl (by decide) hs905
                                      have hs924 := tf_keepF hF909 ha0 rfl rfl (by decide) hs906
                                      have hs925 := tf_keepF hF909 ha0 rfl rfl (by decide) hs907
                                      have hs926 := tf_keepF hF909 ha0 rfl rfl (by decide) hs908
                                      have hs927 := tf_keepF hF909 ha0 rfl rfl (by decide) hXW_0
                                      have hs928 := tf_keepC hF909 hqop rfl (by decide) hXW_2
                                      have hs929 := tf_keepC hF909 hqar rfl (by decide) hXW_3
                                      obtain ⟨ho909_0, ho909_1, ho909_2⟩ := hp909
                                      refine tf_iconst hx hb dX10_behindSum_231 ?_
                                      exact tf_reti (z := 1) hx hb hr hlocks hQ hW ⟨by omega, by omega, ⟨(gb1_V), (gf1_V), (gt1_V), (gs1_V), (gw1_V), (gc1_W), ((gp1_W + 1)), (gx1_V), (gl), (go), rop1_W, rar1_W, (tf_up (rpi) (gp1_W) (24)), (tf_up (rpa) (gp1_W) (0)), hs921, hs922, hs923, hs924, hs925, hs927, ho909_0, hs926, hs915, hs916, hs928, hs929, ho909_1, ho909_2, ⟨by omega, by omega⟩, ⟨by omega, by omega⟩, ⟨by omega, by omega⟩, ⟨by omega, by omega⟩, ⟨by omega, by omega⟩, ⟨by omega, by omega⟩, ⟨by omega, by omega⟩, ⟨by omega, by omega⟩, ⟨by omega, by omega⟩, ⟨by omega, by omega⟩, (by first | assumption | omega), (by first | assumption | omega), (by first | exact tf_PI_PB (tf_PI_sign (hRW_5 o0 u0 fs hq3) (by omega) (by omega)) (by omega) | exact tf_PI_PB hq3 (by omega)), (by first | exact Or.inr (tf_ST1 (tf_PI_sign (hRW_5 o0 u0 fs hq3) (by omega) (by omega)) (tf_NS_Q (tf_NS_push (tf_NS_mono hNS (by omega)) (by omega)))) | exact Or.inl (by omega)), (by first | assumption | omega), (by first | exact tf_er_cmp hq5 hq6 hpI_2 (by omega) (by omega) hcm0 (by omega) (by omega) (by omega) (by omega) hRW_4 (by omega) (by omega) (hRV_1.resolve_left (by omega)) | exact tf_er_cmp0 hq6 hpI_2 (by omega) (by omega) (tf_no4 hn43 hn45 hn42 hn47) hcm0 (tf_no3 hn60 hn61 hn62) (by omega) (by omega) | exact absurd (show (1 : Int) = 0 by omega) (by decide)), (by first | assumption | omega)⟩⟩ dX10_behindSum_232
                                  · exfalso; omega
                              · refine tf_if_eq (tgt := 172) hx hb ⟨by decide, by decide⟩ dX10_behindSum_164 (by decide) (fun h930 => ?_) (fun h930 => ?_)
                                · refine lv_aload_n hx hb dX10_behindSum_172 rfl (lv_at hl 2 rfl) ?_
                                  refine tf_bipush hx hb dX10_behindSum_173 (by decide) ?_
                                  refine tf_calli (va_runV (As := [.int (Int32.ofInt 62)]) (rest := []) ⟨hx, hb, hml, hown, hts⟩ (c_X10_isSign l g T a0 ha0 (62) ⟨by omega, by omega⟩ (gs) ⟨by omega, by omega⟩ (gw) ⟨by omega, by omega⟩) (cwV 1 hts gv_X10_271 rfl rfl rfl hd_X10_isSign ⟨Nat.le_trans (by decide) hR1, Nat.le_trans (by decide) hR2⟩) (tf_preV hk hW ha0 (ci := 10) rfl rfl ⟨hs852, hs853⟩) rfl rfl hl.1 rfl (lv_room (Nat.le_of_ble_eq_true rfl)) dX10_behindSum_175 ⟨Nat.zero_le _, Nat.zero_le _⟩) hW (by decide) (fun z931 H931 locs931 hW hF931 hp931 => ?_)
                                  have hs932 := tf_keepF hF931 ha0 rfl rfl (by decide) hs845
                                  have hs933 := tf_keepF hF931 ha0 rfl rfl (by decide) hs846
                                  have hs934 := tf_keepF hF931 ha0 rfl rfl (by decide) hs847
                                  have hs935 := tf_keepF hF931 ha0 rfl rfl (by decide) hs848
                                  have hs936 := tf_keepF hF931 ha0 rfl rfl (by decide) hs849
                                  have hs937 := tf_keepF hF931 ha0 rfl rfl (by decide) hs850
                                  have hs938 := tf_keepF hF931 ha0 rfl rfl (by decide) hs851
                                  have hs939 := tf_keepF hF931 ha0 rfl rfl (by decide) hs852
                                  have hs940 := tf_keepF hF931 ha0 rfl rfl (by decide) hs853
                                  have hs941 := tf_keepF hF931 ha0 rfl rfl (by decide) hs854
                                  have hs942 := tf_keepF hF931 ha0 rfl rfl (by decide) hs855
                                  have hs943 := tf_keepF hF931 ha0 rfl rfl (by decide) hs856
                                  have hs944 := tf_keepF hF931 ha0 rfl rfl (by decide) hs857
                                  have hs945 := tf_keepF hF931 ha0 rfl rfl (by decide) hs858
                                  have hs946 := tf_keepF hF931 ha0 rfl rfl (by decide) hs859
                                  have hs947 := tf_keepC hF931 hqop rfl (by decide) hs860
                                  have hs948 := tf_keepC hF931 hqar rfl (by decide) hs861
                                  have hs949 := tf_keepC hF931 hqpi rfl (by decide) hs862
                                  have hs950 := tf_keepC hF931 hqpa rfl (by decide) hs863
                                  have hs951 := tf_keepF hF931 ha0 rfl rfl (by decide) hs864
                                  have hs952 := tf_keepC hF931 htm rfl (by decide) hs865
                                  have hs953 := tf_keepF hF931 ha0 rfl rfl (by decide) hs866
                                  have hs954 := tf_keepC hF931 hwd rfl (by decide) hs867
                                  rcases hp931 with ⟨rfl, h955⟩ | ⟨rfl, hn62⟩
                                  · refine tf_if_eq (tgt := 186) hx hb ⟨by decide, by decide⟩ dX10_behindSum_178 (by decide) (fun h956 => ?_) (fun h956 => ?_)
                                    · exfalso; omega
                                    · refine tf_bipush hx hb dX10_behindSum_181 (by decide) ?_
                                      refine lv_goto (tgt := 188) hx hb dX10_behindSum_183 (by decide) ?_
                                      refine lv_istore_n (lv' := [(2, .int (Int32.ofInt 25)), (3, .int (Int32.ofInt zI)), (0, .ref a0), (1, .int (Int32.ofInt x1))]) hx hb dX10_behindSum_188 rfl hl (by decide) rfl (fun ls hl => ?_)
                                      refine lv_aload_n hx hb dX10_behindSum_189 rfl (lv_at hl 2 rfl) ?_
                                      refine lv_iload_n hx hb dX10_behindSum_190 rfl (lv_at hl 0 rfl) ?_
                                      refine tf_bipush hx hb dX10_behindSum_191 (by decide) ?_
                                      refine tf_icmp_ne (tgt := 205) hx hb ⟨by decide, by decide⟩ ⟨by decide, by decide⟩ dX10_behindSum_193 (by decide) (fun h957 => ?_) (fun h957 => ?_)
                                      · refine tf_iconst hx hb dX10_behindSum_205 ?_
                                        refine lv_goto (tgt := 210) hx hb dX10_behindSum_206 (by decide) ?_
                                        refine tf_callv (va_runV (As := [.int (Int32.ofInt 1)]) (rest := []) ⟨hx, hb, hml, hown, hts⟩ (c_X10_must l g T a0 ha0 (1) ⟨by omega, by omega⟩ tm htm (gn) ⟨by omega, by omega⟩ (gf) ⟨by omega, by omega⟩ (gt) ⟨by omega, by omega⟩ (gs) ⟨by omega, by omega⟩ (gw) ⟨by omega, by omega⟩ (gb) ⟨by omega, by omega⟩ (gx) ⟨by omega, by omega⟩ tp (by first | assumption | omega)) (cwV 1 hts gv_X10_235 rfl rfl rfl hd_X10_must ⟨Nat.le_trans (by decide) hR1, Nat.le_trans (by decide) hR2⟩) (tf_preV hk hW ha0 (ci := 10) rfl rfl ⟨hs936, hs937, hs938, hs939, hs940, hs941, hs944, hs951, hs952⟩) rfl rfl hl.1 rfl (lv_room (Nat.le_of_ble_eq_true rfl)) dX10_behindSum_210 ⟨Nat.zero_le _, Nat.zero_le _⟩) hW (by decide) (fun HV locsV hW hFV hpV => ?_)
                                        have hs958 := tf_keepF hFV ha0 rfl rfl (by decide) hs932
                                        have hs959 := tf_keepF hFV ha0 rfl rfl (by decide) hs933
                                        have hs960 := tf_keepF hFV ha0 rfl rfl (by decide) hs934
                                        have hs961 := tf_keepF hFV ha0 rfl rfl (by decide) hs935
                                        have hs962 := tf_keepF hFV ha0 rfl rfl (by decide) hs936
                                        have hs963 := tf_keepF hFV ha0 rfl rfl (by decide) hs942
                                        have hs964 := tf_keepF hFV ha0 rfl rfl (by decide) hs943
                                        have hs965 := tf_keepF hFV ha0 rfl rfl (by decide) hs945
                                        have hs966 := tf_keepF hFV ha0 rfl rfl (by decide) hs946
                                        have hs967 := tf_keepC hFV hqop rfl (by decide) hs947
                                        have hs968 := tf_keepC hFV hqar rfl (by decide) hs948
                                        have hs969 := tf_keepC hFV hqpi rfl (by decide) hs949
                                        have hs970 := tf_keepC hFV hqpa rfl (by decide) hs950
                                        have hs971 := tf_keepF hFV ha0 rfl rfl (by decide) hs951
                                        have hs972 := tf_keepC hFV htm rfl (by decide) hs952
                                        have hs973 := tf_keepF hFV ha0 rfl rfl (by decide) hs953
                                        have hs974 := tf_keepC hFV hwd rfl (by decide) hs954
                                        obtain ⟨gb1_V, gf1_V, gt1_V, gs1_V, gw1_V, gx1_V, hXV_0, hXV_1, hXV_2, hXV_3, hXV_4, hXV_5, hBV_0, hBV_1, hBV_2, hBV_3, hBV_4, hBV_5, hRV_0, hRV_1, hRV_2, hRV_3⟩ := hpV
                                        refine lv_aload_n hx hb dX10_behindSum_213 rfl (lv_at hl 2 rfl) ?_
                                        refine tf_get hx hb hts inlX10 hown hK (ci := 10) rfl hW ha0 rfl 14 rfl (by decide) (hts _ fl_X10_200) dX10_behindSum_214 (fun v975 hv975 hsv975 => ?_)
                                        obtain rfl : v975 = .int (Int32.ofInt gb1_V) := Option.some.inj (hsv975.symm.trans hXV_0)
                                        refine tf_if_ne (tgt := 231) hx hb ⟨by omega, by omega⟩ dX10_behindSum_217 (by decide) (fun h976 => ?_) (fun h976 => ?_)
                                        · refine tf_iconst hx hb dX10_behindSum_231 ?_
                                          exact tf_reti (z := 1) hx hb hr hlocks hQ hW ⟨by omega, by omega, ⟨(gb1_V), (gf1_V), (gt1_V), (gs1_V), (gw1_V), (gc), (gp), (gx1_V), (gl), (go), rop, rar, rpi, rpa, hXV_0, hXV_1, hXV_2, hXV_3, hXV_4, hs963, hs964, hXV_5, hs965, hs966, hs967, hs968, hs969, hs970, ⟨by omega, by omega⟩, ⟨by omega, by omega⟩, ⟨by omega, by omega⟩, ⟨by omega, by omega⟩, ⟨by omega, by omega⟩, ⟨by omega, by omega⟩, ⟨by omega, by omega⟩, ⟨by omega, by omega⟩, ⟨by omega, by omega⟩, ⟨by omega, by omega⟩, (by first | assumption | omega), (by first | assumption | omega), (by first | exact tf_PI_PB (tf_PI_sign (hRW_5 o0 u0 fs hq3) (by omega) (by omega)) (by omega) | exact tf_PI_PB hq3 (by omega)), (by first | exact Or.inr (tf_ST1 (tf_PI_sign (hRW_5 o0 u0 fs hq3) (by omega) (by omega)) (tf_NS_Q (tf_NS_push (tf_NS_mono hNS (by omega)) (by omega)))) | exact Or.inl (by omega)), (by first | assumption | omega), (by first | exact tf_er_cmp hq5 hq6 hpI_2 (by omega) (by omega) hcm0 (by omega) (by omega) (by omega) (by omega) hRW_4 (by omega) (by omega) (hRV_1.resolve_left (by omega)) | exact tf_er_cmp0 hq6 hpI_2 (by omega) (by omega) (tf_no4 hn43 hn45 hn42 hn47) hcm0 (tf_no3 hn60 hn61 hn62) (by omega) (by omega) | exact absurd (show (1 : Int) = 0 by omega) (by decide)), (by first | assumption | omega)⟩⟩ dX10_behindSum_232
                                        · refine lv_aload_n hx hb dX10_behindSum_220 rfl (lv_at hl 2 rfl) ?_
                                          refine tf_iconst hx hb dX10_behindSum_221 ?_
                                          refine tf_callv (va_runV (As := [.int (Int32.ofInt 5)]) (rest := []) ⟨hx, hb, hml, hown, hts⟩ (c_X10_settle l g T a0 ha0 (5) ⟨by omega, by omega⟩ qop hqop qar hqar qpi hqpi qpa hqpa (gc) ⟨by omega, by omega⟩ (gp) ⟨by omega, by omega⟩ rop rar rpi rpa (by first | assumption | omega) (tf_PI_PB hq3 (by omega))) (cwV 1 hts gv_X10_291 rfl rfl rfl hd_X10_settle ⟨Nat.le_trans (by decide) hR1, Nat.le_trans (by decide) hR2⟩) (tf_preV hk hW ha0 (ci := 10) rfl rfl ⟨hs958, hs959, hs960, hs961, hs963, hs964, hs967, hs968, hs969, hs970⟩) rfl rfl hl.1 rfl (lv_room (Nat.le_of_ble_eq_true rfl)) dX10_behindSum_222 ⟨Nat.zero_le _, Nat.zero_le _⟩) hW (by decide) (fun HW locsW hW hFW hpW => ?_)
                                          have hs977 := tf_keepF hFW ha0 rfl rfl (by decide) hs958
                                          have hs978 := tf_keepF hFW ha0 rfl rfl (by decide) hs959
                                          have hs979 := tf_keepF hFW ha0 rfl rfl (by decide) hs960
                                          have hs980 := tf_keepF hFW ha0 rfl rfl (by decide) hs961
                                          have hs981 := tf_keepF hFW ha0 rfl rfl (by decide) hs962
                                          have hs982 := tf_keepF hFW ha0 rfl rfl (by decide) hs965
                                          have hs983 := tf_keepF hFW ha0 rfl rfl (by decide) hs966
                                          have hs984 := tf_keepC hFW hqpi rfl (by decide) hs969
                                          have hs985 := tf_keepC hFW hqpa rfl (by decide) hs970
                                          have hs986 := tf_keepF hFW ha0 rfl rfl (by decide) hs971
                                          have hs987 := tf_keepC hFW htm rfl (by decide) hs972
                                          have hs988 := tf_keepF hFW ha0 rfl rfl (by decide) hs973
                                          have hs989 := tf_keepC hFW hwd rfl (by decide) hs974
                                          have hs990 := tf_keepF hFW ha0 rfl rfl (by decide) hXV_0
                                          have hs991 := tf_keepF hFW ha0 rfl rfl (by decide) hXV_1
                                          have hs992 := tf_keepF hFW ha0 rfl rfl (by decide) hXV_2
                                          have hs993 := tf_keepF hFW ha0 rfl rfl (by decide) hXV_3
                                          have hs994 := tf_keepF hFW ha0 rfl rfl (by decide) hXV_4
                                          have hs995 := tf_keepF hFW ha0 rfl rfl (by decide) hXV_5
                                          obtain ⟨gc1_W, gp1_W, rop1_W, rar1_W, hXW_0, hXW_1, hXW_2, hXW_3, hBW_0, hBW_1, hRW_0, hRW_1, hRW_2, hRW_3, hRW_4, hRW_5, hRW_6⟩ := hpW
                                          refine lv_aload_n hx hb dX10_behindSum_225 rfl (lv_at hl 2 rfl) ?_
                                          refine lv_iload_n hx hb dX10_behindSum_226 rfl (lv_at hl 0 rfl) ?_
                                          refine tf_iconst hx hb dX10_behindSum_227 ?_
                                          refine tf_callv (va_runV (As := [.int (Int32.ofInt 25), .int (Int32.ofInt 0)]) (rest := []) ⟨hx, hb, hml, hown, hts⟩ (c_X10_push l g T a0 ha0 (25) ⟨by omega, by omega⟩ (0) ⟨by omega, by omega⟩ qpi hqpi qpa hqpa (gp1_W) ⟨by omega, by omega⟩ rpi rpa) (cwV 2 hts gv_X10_265 rfl rfl rfl hd_X10_push ⟨Nat.le_trans (by decide) hR1, Nat.le_trans (by decide) hR2⟩) (tf_preV hk hW ha0 (ci := 10) rfl rfl ⟨hs979, hs980, hXW_1, hs984, hs985⟩) rfl rfl hl.1 rfl (lv_room (Nat.le_of_ble_eq_true rfl)) dX10_behindSum_228 ⟨Nat.zero_le _, Nat.zero_le _⟩) hW (by decide) (fun H996 locs996 hW hF996 hp996 => ?_)
                                          have hs997 := tf_keepF hF996 ha0 rfl rfl (by decide) hs977
                                          have hs998 := tf_keepF hF996 ha0 rfl rfl (by decide) hs978
                                          have hs999 := tf_keepF hF996 ha0 rfl rfl (by decide) hs979
                                          have hs1000 := tf_keepF hF996 ha0 rfl rfl (by decide) hs980
                                          have hs1001 := tf_keepF hF996 ha0 rfl rfl (by decide) hs981
                                          have hs1002 := tf_keepF hF996 ha0 rfl rfl (by decide) hs982
                                          have hs1003 := tf_keepF hF996 ha0 rfl rfl (by decide) hs983
                                          have hs1004 := tf_keepF hF996 ha0 rfl rfl (by decide) hs986
                                          have hs1005 := tf_keepC hF996 htm rfl (by decide) hs987
                                          have hs1006 := tf_keepF hF996 ha0 rfl rfl (by decide) hs988
                                          have hs1007 := tf_keepC hF996 hwd rfl (by decide) hs989
                                          have hs1008 := tf_keepF hF996 ha0 rfl rfl (by decide) hs990
                                          have hs1009 := tf_keepF hF996 ha0 rfl rfl (by decide) hs991
                                          have hs1010 := tf_keepF hF996 ha0 rfl rfl (by decide) hs992
                                          have hs1011 := tf_keepF hF996 ha0 rfl rfl (by decide) hs993
                                          have hs1012 := tf_keepF hF996 ha0 rfl rfl (by decide) hs994
                                          have hs1013 := tf_keepF hF996 ha0 rfl rfl (by decide) hs995
                                          have hs1014 := tf_keepF hF996 ha0 rfl rfl (by decide) hXW_0
                                          have hs1015 := tf_keepC hF996 hqop rfl (by decide) hXW_2
                                          have hs1016 := tf_keepC hF996 hqar rfl (by decide) hXW_3
                                          obtain ⟨ho996_0, ho996_1, ho996_2⟩ := hp996
                                          refine tf_iconst hx hb dX10_behindSum_231 ?_
                                          exact tf_reti (z := 1) hx hb hr hlocks hQ hW ⟨by omega, by omega, ⟨(gb1_V), (gf1_V), (gt1_V), (gs1_V), (gw1_V), (gc1_W), ((gp1_W + 1)), (gx1_V), (gl), (go), rop1_W, rar1_W, (tf_up (rpi) (gp1_W) (25)), (tf_up (rpa) (gp1_W) (0)), hs1008, hs1009, hs1010, hs1011, hs1012, hs1014, ho996_0, hs1013, hs1002, hs1003, hs1015, hs1016, ho996_1, ho996_2, ⟨by omega, by omega⟩, ⟨by omega, by omega⟩, ⟨by omega, by omega⟩, ⟨by omega, by omega⟩, ⟨by omega, by omega⟩, ⟨by omega, by omega⟩, ⟨by omega, by omega⟩, ⟨by omega, by omega⟩, ⟨by omega, by omega⟩, ⟨by omega, by omega⟩, (by first | assumption | omega), (by first | assumption | omega), (by first | exact tf_PI_PB (tf_PI_sign (hRW_5 o0 u0 fs hq3) (by omega) (by omega)) (by omega) | exact tf_PI_PB hq3 (by omega)), (by first | exact Or.inr (tf_ST1 (tf_PI_sign (hRW_5 o0 u0 fs hq3) (by omega) (by omega)) (tf_NS_Q (tf_NS_push (tf_NS_mono hNS (by omega)) (by omega)))) | exact Or.inl (by omega)), (by first | assumption | omega), (by first | exact tf_er_cmp hq5 hq6 hpI_2 (by omega) (by omega) hcm0 (by omega) (by omega) (by omega) (by omega) hRW_4 (by omega) (by omega) (hRV_1.resolve_left (by omega)) | exact tf_er_cmp0 hq6 hpI_2 (by omega) (by omega) (tf_no4 hn43 hn45 hn42 hn47) hcm0 (tf_no3 hn60 hn61 hn62) (by omega) (by omega) | exact absurd (show (1 : Int) = 0 by omega) (by decide)), (by first | assumption | omega)⟩⟩ dX10_behindSum_232
                                      · exfalso; omega
                                  · refine tf_if_eq (tgt := 186) hx hb ⟨by decide, by decide⟩ dX10_behindSum_178 (by decide) (fun h1017 => ?_) (fun h1017 => ?_)
                                    · refine tf_bipush hx hb dX10_behindSum_186 (by decide) ?_
                                      refine lv_istore_n (lv' := [(2, .int (Int32.ofInt 26)), (3, .int (Int32.ofInt zI)), (0, .ref a0), (1, .int (Int32.ofInt x1))]) hx hb dX10_behindSum_188 rfl hl (by decide) rfl (fun ls hl => ?_)
                                      refine lv_aload_n hx hb dX10_behindSum_189 rfl (lv_at hl 2 rfl) ?_
                                      refine lv_iload_n hx hb dX10_behindSum_190 rfl (lv_at hl 0 rfl) ?_
                                      refine tf_bipush hx hb dX10_behindSum_191 (by decide) ?_
                                      refine tf_icmp_ne (tgt := 205) hx hb ⟨by decide, by decide⟩ ⟨by decide, by decide⟩ dX10_behindSum_193 (by decide) (fun h1018 => ?_) (fun h1018 => ?_)
                                      · exfalso; omega
                                      · refine lv_aload_n hx hb dX10_behindSum_196 rfl (lv_at hl 2 rfl) ?_
                                        refine tf_bipush hx hb dX10_behindSum_197 (by decide) ?_
                                        refine tf_calli (va_runV (As := [.int (Int32.ofInt 61)]) (rest := [.ref a0]) ⟨hx, hb, hml, hown, hts⟩ (c_X10_isSign l g T a0 ha0 (61) ⟨by omega, by omega⟩ (gs) ⟨by omega, by omega⟩ (gw) ⟨by omega, by omega⟩) (cwV 1 hts gv_X10_271 rfl rfl rfl hd_X10_isSign ⟨Nat.le_trans (by decide) hR1, Nat.le_trans (by decide) hR2⟩) (tf_preV hk hW ha0 (ci := 10) rfl rfl ⟨hs939, hs940⟩) rfl rfl hl.1 rfl (lv_room (Nat.le_of_ble_eq_true rfl)) dX10_behindSum_199 ⟨Nat.zero_le _, Nat.zero_le _⟩) hW (by decide) (fun z1019 H1019 locs1019 hW hF1019 hp1019 => ?_)
                                        have hs1020 := tf_keepF hF1019 ha0 rfl rfl (by decide) hs932
                                        have hs1021 := tf_keepF hF1019 ha0 rfl rfl (by decide) hs933
                                        have hs1022 := tf_keepF hF1019 ha0 rfl rfl (by decide) hs934
                                        have hs1023 := tf_keepF hF1019 ha0 rfl rfl (by decide) hs935
                                        have hs1024 := tf_keepF hF1019 ha0 rfl rfl (by decide) hs936
                                        have hs1025 := tf_keepF hF1019 ha0 rfl rfl (by decide) hs937
                                        have hs1026 := tf_keepF hF1019 ha0 rfl rfl (by decide) hs938
                                        have hs1027 := tf_keepF hF1019 ha0 rfl rfl (by decide) hs939
                                        have hs1028 := tf_keepF hF1019 ha0 rfl rfl (by decide) hs940
                                        have hs1029 := tf_keepF hF1019 ha0 rfl rfl (by decide) hs941
                                        have hs1030 := tf_keepF hF1019 ha0 rfl rfl (by decide) hs942
                                        have hs1031 := tf_keepF hF1019 ha0 rfl rfl (by decide) hs943
                                        have hs1032 := tf_keepF hF1019 ha0 rfl rfl (by decide) hs944
                                        have hs1033 := tf_keepF hF1019 ha0 rfl rfl (by decide) hs945
                                        have hs1034 := tf_keepF hF1019 ha0 rfl rfl (by decide) hs946
                                        have hs1035 := tf_keepC hF1019 hqop rfl (by decide) hs947
                                        have hs1036 := tf_keepC hF1019 hqar rfl (by decide) hs948
                                        have hs1037 := tf_keepC hF1019 hqpi rfl (by decide) hs949
                                        have hs1038 := tf_keepC hF1019 hqpa rfl (by decide) hs950
                                        have hs1039 := tf_keepF hF1019 ha0 rfl rfl (by decide) hs951
                                        have hs1040 := tf_keepC hF1019 htm rfl (by decide) hs952
                                        have hs1041 := tf_keepF hF1019 ha0 rfl rfl (by decide) hs953
                                        have hs1042 := tf_keepC hF1019 hwd rfl (by decide) hs954
                                        rcases hp1019 with ⟨rfl, h1043⟩ | ⟨rfl, hn61⟩
                                        · refine tf_if_eq (tgt := 209) hx hb ⟨by decide, by decide⟩ dX10_behindSum_202 (by decide) (fun h1044 => ?_) (fun h1044 => ?_)
                                          · exfalso; omega
                                          · refine tf_iconst hx hb dX10_behindSum_205 ?_
                                            refine lv_goto (tgt := 210) hx hb dX10_behindSum_206 (by decide) ?_
                                            refine tf_callv (va_runV (As := [.int (Int32.ofInt 1)]) (rest := []) ⟨hx, hb, hml, hown, hts⟩ (c_X10_must l g T a0 ha0 (1) ⟨by omega, by omega⟩ tm htm (gn) ⟨by omega, by omega⟩ (gf) ⟨by omega, by omega⟩ (gt) ⟨by omega, by omega⟩ (gs) ⟨by omega, by omega⟩ (gw) ⟨by omega, by omega⟩ (gb) ⟨by omega, by omega⟩ (gx) ⟨by omega, by omega⟩ tp (by first | assumption | omega)) (cwV 1 hts gv_X10_235 rfl rfl rfl hd_X10_must ⟨Nat.le_trans (by decide) hR1, Nat.le_trans (by decide) hR2⟩) (tf_preV hk hW ha0 (ci := 10) rfl rfl ⟨hs1024, hs1025, hs1026, hs1027, hs1028, hs1029, hs1032, hs1039, hs1040⟩) rfl rfl hl.1 rfl (lv_room (Nat.le_of_ble_eq_true rfl)) dX10_behindSum_210 ⟨Nat.zero_le _, Nat.zero_le _⟩) hW (by decide) (fun HV locsV hW hFV hpV => ?_)
                                            have hs1045 := tf_keepF hFV ha0 rfl rfl (by decide) hs1020
                                            have hs1046 := tf_keepF hFV ha0 rfl rfl (by decide) hs1021
                                            have hs1047 := tf_keepF hFV ha0 rfl rfl (by decide) hs1022
                                            have hs1048 := tf_keepF hFV ha0 rfl rfl (by decide) hs1023
                                            have hs1049 := tf_keepF hFV ha0 rfl rfl (by decide) hs1024
                                            have hs1050 := tf_keepF hFV ha0 rfl rfl (by decide) hs1030
                                            have hs1051 := tf_keepF hFV ha0 rfl rfl (by decide) hs1031
                                            have hs1052 := tf_keepF hFV ha0 rfl rfl (by decide) hs1033
                                            have hs1053 := tf_keepF hFV ha0 rfl rfl (by decide) hs1034
                                            have hs1054 := tf_keepC hFV hqop rfl (by decide) hs1035
                                            have hs1055 := tf_keepC hFV hqar rfl (by decide) hs1036
                                            have hs1056 := tf_keepC hFV hqpi rfl (by decide) hs1037
                                            have hs1057 := tf_keepC hFV hqpa rfl (by decide) hs1038
                                            have hs1058 := tf_keepF hFV ha0 rfl rfl (by decide) hs1039
                                            have hs1059 := tf_keepC hFV htm rfl (by decide) hs1040
                                            have hs1060 := tf_keepF hFV ha0 rfl rfl (by decide) hs1041
                                            have hs1061 := tf_keepC hFV hwd rfl (by decide) hs1042
                                            obtain ⟨gb1_V, gf1_V, gt1_V, gs1_V, gw1_V, gx1_V, hXV_0, hXV_1, hXV_2, hXV_3, hXV_4, hXV_5, hBV_0, hBV_1, hBV_2, hBV_3, hBV_4, hBV_5, hRV_0, hRV_1, hRV_2, hRV_3⟩ := hpV
                                            refine lv_aload_n hx hb dX10_behindSum_213 rfl (lv_at hl 2 rfl) ?_
                                            refine tf_get hx hb hts inlX10 hown hK (ci := 10) rfl hW ha0 rfl 14 rfl (by decide) (hts _ fl_X10_200) dX10_behindSum_214 (fun v1062 hv1062 hsv1062 => ?_)
                                            obtain rfl : v1062 = .int (Int32.ofInt gb1_V) := Option.some.inj (hsv1062.symm.trans hXV_0)
                                            refine tf_if_ne (tgt := 231) hx hb ⟨by omega, by omega⟩ dX10_behindSum_217 (by decide) (fun h1063 => ?_) (fun h1063 => ?_)
                                            · refine tf_iconst hx hb dX10_behindSum_231 ?_
                                              exact tf_reti (z := 1) hx hb hr hlocks hQ hW ⟨by omega, by omega, ⟨(gb1_V), (gf1_V), (gt1_V), (gs1_V), (gw1_V), (gc), (gp), (gx1_V), (gl), (go), rop, rar, rpi, rpa, hXV_0, hXV_1, hXV_2, hXV_3, hXV_4, hs1050, hs1051, hXV_5, hs1052, hs1053, hs1054, hs1055, hs1056, hs1057, ⟨by omega, by omega⟩, ⟨by omega, by omega⟩, ⟨by omega, by omega⟩, ⟨by omega, by omega⟩, ⟨by omega, by omega⟩, ⟨by omega, by omega⟩, ⟨by omega, by omega⟩, ⟨by omega, by omega⟩, ⟨by omega, by omega⟩, ⟨by omega, by omega⟩, (by first | assumption | omega), (by first | assumption | omega), (by first | exact tf_PI_PB (tf_PI_sign (hRW_5 o0 u0 fs hq3) (by omega) (by omega)) (by omega) | exact tf_PI_PB hq3 (by omega)), (by first | exact Or.inr (tf_ST1 (tf_PI_sign (hRW_5 o0 u0 fs hq3) (by omega) (by omega)) (tf_NS_Q (tf_NS_push (tf_NS_mono hNS (by omega)) (by omega)))) | exact Or.inl (by omega)), (by first | assumption | omega), (by first | exact tf_er_cmp hq5 hq6 hpI_2 (by omega) (by omega) hcm0 (by omega) (by omega) (by omega) (by omega) hRW_4 (by omega) (by omega) (hRV_1.resolve_left (by omega)) | exact tf_er_cmp0 hq6 hpI_2 (by omega) (by omega) (tf_no4 hn43 hn45 hn42 hn47) hcm0 (tf_no3 hn60 hn61 hn62) (by omega) (by omega) | exact absurd (show (1 : Int) = 0 by omega) (by decide)), (by first | assumption | omega)⟩⟩ dX10_behindSum_232
                                            · refine lv_aload_n hx hb dX10_behindSum_220 rfl (lv_at hl 2 rfl) ?_
                                              refine tf_iconst hx hb dX10_behindSum_221 ?_
                                              refine tf_callv (va_runV (As := [.int (Int32.ofInt 5)]) (rest := []) ⟨hx, hb, hml, hown, hts⟩ (c_X10_settle l g T a0 ha0 (5) ⟨by omega, by omega⟩ qop hqop qar hqar qpi hqpi qpa hqpa (gc) ⟨by omega, by omega⟩ (gp) ⟨by omega, by omega⟩ rop rar rpi rpa (by first | assumption | omega) (tf_PI_PB hq3 (by omega))) (cwV 1 hts gv_X10_291 rfl rfl rfl hd_X10_settle ⟨Nat.le_trans (by decide) hR1, Nat.le_trans (by decide) hR2⟩) (tf_preV hk hW ha0 (ci := 10) rfl rfl ⟨hs1045, hs1046, hs1047, hs1048, hs1050, hs1051, hs1054, hs1055, hs1056, hs1057⟩) rfl rfl hl.1 rfl (lv_room (Nat.le_of_ble_eq_true rfl)) dX10_behindSum_222 ⟨Nat.zero_le _, Nat.zero_le _⟩) hW (by decide) (fun HW locsW hW hFW hpW => ?_)
                                              have hs1064 := tf_keepF hFW ha0 rfl rfl (by decide) hs1045
                                              have hs1065 := tf_keepF hFW ha0 rfl rfl (by decide) hs1046
                                              have hs1066 := tf_keepF hFW ha0 rfl rfl (by decide) hs1047
                                              have hs1067 := tf_keepF hFW ha0 rfl rfl (by decide) hs1048
                                              have hs1068 := tf_keepF hFW ha0 rfl rfl (by decide) hs1049
                                              have hs1069 := tf_keepF hFW ha0 rfl rfl (by decide) hs1052
                                              have hs1070 := tf_keepF hFW ha0 rfl rfl (by decide) hs1053
                                              have hs1071 := tf_keepC hFW hqpi rfl (by decide) hs1056
                                              have hs1072 := tf_keepC hFW hqpa rfl (by decide) hs1057
                                              have hs1073 := tf_keepF hFW ha0 rfl rfl (by decide) hs1058
                                              have hs1074 := tf_keepC hFW htm rfl (by decide) hs1059
                                              have hs1075 := tf_keepF hFW ha0 rfl rfl (by decide) hs1060
                                              have hs1076 := tf_keepC hFW hwd rfl (by decide) hs1061
                                              have hs1077 := tf_keepF hFW ha0 rfl rfl (by decide) hXV_0
                                              have hs1078 := tf_keepF hFW ha0 rfl rfl (by decide) hXV_1
                                              have hs1079 := tf_keepF hFW ha0 rfl rfl (by decide) hXV_2
                                              have hs1080 := tf_keepF hFW ha0 rfl rfl (by decide) hXV_3
                                              have hs1081 := tf_keepF hFW ha0 rfl rfl (by decide) hXV_4
                                              have hs1082 := tf_keepF hFW ha0 rfl rfl (by decide) hXV_5
                                              obtain ⟨gc1_W, gp1_W, rop1_W, rar1_W, hXW_0, hXW_1, hXW_2, hXW_3, hBW_0, hBW_1, hRW_0, hRW_1, hRW_2, hRW_3, hRW_4, hRW_5, hRW_6⟩ := hpW
                                              refine lv_aload_n hx hb dX10_behindSum_225 rfl (lv_at hl 2 rfl) ?_
                                              refine lv_iload_n hx hb dX10_behindSum_226 rfl (lv_at hl 0 rfl) ?_
                                              refine tf_iconst hx hb dX10_behindSum_227 ?_
                                              refine tf_callv (va_runV (As := [.int (Int32.ofInt 26), .int (Int32.ofInt 0)]) (rest := []) ⟨hx, hb, hml, hown, hts⟩ (c_X10_push l g T a0 ha0 (26) ⟨by omega, by omega⟩ (0) ⟨by omega, by omega⟩ qpi hqpi qpa hqpa (gp1_W) ⟨by omega, by omega⟩ rpi rpa) (cwV 2 hts gv_X10_265 rfl rfl rfl hd_X10_push ⟨Nat.le_trans (by decide) hR1, Nat.le_trans (by decide) hR2⟩) (tf_preV hk hW ha0 (ci := 10) rfl rfl ⟨hs1066, hs1067, hXW_1, hs1071, hs1072⟩) rfl rfl hl.1 rfl (lv_room (Nat.le_of_ble_eq_true rfl)) dX10_behindSum_228 ⟨Nat.zero_le _, Nat.zero_le _⟩) hW (by decide) (fun H1083 locs1083 hW hF1083 hp1083 => ?_)
                                              have hs1084 := tf_keepF hF1083 ha0 rfl rfl (by decide) hs1064
                                              have hs1085 := tf_keepF hF1083 ha0 rfl rfl (by decide) hs1065
                                              have hs1086 := tf_keepF hF1083 ha0 rfl rfl (by decide) hs1066
                                              have hs1087 := tf_keepF hF1083 ha0 rfl rfl (by decide) hs1067
                                              have hs1088 := tf_keepF hF1083 ha0 rfl rfl (by decide) hs1068
                                              have hs1089 := tf_keepF hF1083 ha0 rfl rfl (by decide) hs1069
                                              have hs1090 := tf_keepF hF1083 ha0 rfl rfl (by decide) hs1070
                                              have hs1091 := tf_keepF hF1083 ha0 rfl rfl (by decide) hs1073
                                              have hs1092 := tf_keepC hF1083 htm rfl (by decide) hs1074
                                              have hs1093 := tf_keepF hF1083 ha0 rfl rfl (by decide) hs1075
                                              have hs1094 := tf_keepC hF1083 hwd rfl (by decide) hs1076
                                              have hs1095 := tf_keepF hF1083 ha0 rfl rfl (by decide) hs1077
                                              have hs1096 := tf_keepF hF1083 ha0 rfl rfl (by decide) hs1078
                                              have hs1097 := tf_keepF hF1083 ha0 rfl rfl (by decide) hs1079
                                              have hs1098 := tf_keepF hF1083 ha0 rfl rfl (by decide) hs1080
                                              have hs1099 := tf_keepF hF1083 ha0 rfl rfl (by decide) hs1081
                                              have hs1100 := tf_keepF hF1083 ha0 rfl rfl (by decide) hs1082
                                              have hs1101 := tf_keepF hF1083 ha0 rfl rfl (by decide) hXW_0
                                              have hs1102 := tf_keepC hF1083 hqop rfl (by decide) hXW_2
                                              have hs1103 := tf_keepC hF1083 hqar rfl (by decide) hXW_3
                                              obtain ⟨ho1083_0, ho1083_1, ho1083_2⟩ := hp1083
                                              refine tf_iconst hx hb dX10_behindSum_231 ?_
                                              exact tf_reti (z := 1) hx hb hr hlocks hQ hW ⟨by omega, by omega, ⟨(gb1_V), (gf1_V), (gt1_V), (gs1_V), (gw1_V), (gc1_W), ((gp1_W + 1)), (gx1_V), (gl), (go), rop1_W, rar1_W, (tf_up (rpi) (gp1_W) (26)), (tf_up (rpa) (gp1_W) (0)), hs1095, hs1096, hs1097, hs1098, hs1099, hs1101, ho1083_0, hs1100, hs1089, hs1090, hs1102, hs1103, ho1083_1, ho1083_2, ⟨by omega, by omega⟩, ⟨by omega, by omega⟩, ⟨by omega, by omega⟩, ⟨by omega, by omega⟩, ⟨by omega, by omega⟩, ⟨by omega, by omega⟩, ⟨by omega, by omega⟩, ⟨by omega, by omega⟩, ⟨by omega, by omega⟩, ⟨by omega, by omega⟩, (by first | assumption | omega), (by first | assumption | omega), (by first | exact tf_PI_PB (tf_PI_sign (hRW_5 o0 u0 fs hq3) (by omega) (by omega)) (by omega) | exact tf_PI_PB hq3 (by omega)), (by first | exact Or.inr (tf_ST1 (tf_PI_sign (hRW_5 o0 u0 fs hq3) (by omega) (by omega)) (tf_NS_Q (tf_NS_push (tf_NS_mono hNS (by omega)) (by omega)))) | exact Or.inl (by omega)), (by first | assumption | omega), (by first | exact tf_er_cmp hq5 hq6 hpI_2 (by omega) (by omega) hcm0 (by omega) (by omega) (by omega) (by omega) hRW_4 (by omega) (by omega) (hRV_1.resolve_left (by omega)) | exact tf_er_cmp0 hq6 hpI_2 (by omega) (by omega) (tf_no4 hn43 hn45 hn42 hn47) hcm0 (tf_no3 hn60 hn61 hn62) (by omega) (by omega) | exact absurd (show (1 : Int) = 0 by omega) (by decide)), (by first | assumption | omega)⟩⟩ dX10_behindSum_232
                                        · refine tf_if_eq (tgt := 209) hx hb ⟨by decide, by decide⟩ dX10_behindSum_202 (by decide) (fun h1104 => ?_) (fun h1104 => ?_)
                                          · refine tf_iconst hx hb dX10_behindSum_209 ?_
                                            refine tf_callv (va_runV (As := [.int (Int32.ofInt 0)]) (rest := []) ⟨hx, hb, hml, hown, hts⟩ (c_X10_must l g T a0 ha0 (0) ⟨by omega, by omega⟩ tm htm (gn) ⟨by omega, by omega⟩ (gf) ⟨by omega, by omega⟩ (gt) ⟨by omega, by omega⟩ (gs) ⟨by omega, by omega⟩ (gw) ⟨by omega, by omega⟩ (gb) ⟨by omega, by omega⟩ (gx) ⟨by omega, by omega⟩ tp (by first | assumption | omega)) (cwV 1 hts gv_X10_235 rfl rfl rfl hd_X10_must ⟨Nat.le_trans (by decide) hR1, Nat.le_trans (by decide) hR2⟩) (tf_preV hk hW ha0 (ci := 10) rfl rfl ⟨hs1024, hs1025, hs1026, hs1027, hs1028, hs1029, hs1032, hs1039, hs1040⟩) rfl rfl hl.1 rfl (lv_room (Nat.le_of_ble_eq_true rfl)) dX10_behindSum_210 ⟨Nat.zero_le _, Nat.zero_le _⟩) hW (by decide) (fun HV locsV hW hFV hpV => ?_)
                                            have hs1105 := tf_keepF hFV ha0 rfl rfl (by decide) hs1020
                                            have hs1106 := tf_keepF hFV ha0 rfl rfl (by decide) hs1021
                                            have hs1107 := tf_keepF hFV ha0 rfl rfl (by decide) hs1022
                                            have hs1108 := tf_keepF hFV ha0 rfl rfl (by decide) hs1023
                                            have hs1109 := tf_keepF hFV ha0 rfl rfl (by decide) hs1024
                                            have hs1110 := tf_keepF hFV ha0 rfl rfl (by decide) hs1030
                                            have hs1111 := tf_keepF hFV ha0 rfl rfl (by decide) hs1031
                                            have hs1112 := tf_keepF hFV ha0 rfl rfl (by decide) hs1033
                                            have hs1113 := tf_keepF hFV ha0 rfl rfl (by decide) hs1034
                                            have hs1114 := tf_keepC hFV hqop rfl (by decide) hs1035
                                            have hs1115 := tf_keepC hFV hqar rfl (by decide) hs1036
                                            have hs1116 := tf_keepC hFV hqpi rfl (by decide) hs1037
                                            have hs1117 := tf_keepC hFV hqpa rfl (by decide) hs1038
                                            have hs1118 := tf_keepF hFV ha0 rfl rfl (by decide) hs1039
                                            have hs1119 := tf_keepC hFV htm rfl (by decide) hs1040
                                            have hs1120 := tf_keepF hFV ha0 rfl rfl (by decide) hs1041
                                            have hs1121 := tf_keepC hFV hwd rfl (by decide) hs1042
                                            obtain ⟨gb1_V, gf1_V, gt1_V, gs1_V, gw1_V, gx1_V, hXV_0, hXV_1, hXV_2, hXV_3, hXV_4, hXV_5, hBV_0, hBV_1, hBV_2, hBV_3, hBV_4, hBV_5, hRV_0, hRV_1, hRV_2, hRV_3⟩ := hpV
                                            refine lv_aload_n hx hb dX10_behindSum_213 rfl (lv_at hl 2 rfl) ?_
                                            refine tf_get hx hb hts inlX10 hown hK (ci := 10) rfl hW ha0 rfl 14 rfl (by decide) (hts _ fl_X10_200) dX10_behindSum_214 (fun v1122 hv1122 hsv1122 => ?_)
                                            obtain rfl : v1122 = .int (Int32.ofInt gb1_V) := Option.some.inj (hsv1122.symm.trans hXV_0)
                                            refine tf_if_ne (tgt := 231) hx hb ⟨by omega, by omega⟩ dX10_behindSum_217 (by decide) (fun h1123 => ?_) (fun h1123 => ?_)
                                            · refine tf_iconst hx hb dX10_behindSum_231 ?_
                                              exact tf_reti (z := 1) hx hb hr hlocks hQ hW ⟨by omega, by omega, ⟨(gb1_V), (gf1_V), (gt1_V), (gs1_V), (gw1_V), (gc), (gp), (gx1_V), (gl), (go), rop, rar, rpi, rpa, hXV_0, hXV_1, hXV_2, hXV_3, hXV_4, hs1110, hs1111, hXV_5, hs1112, hs1113, hs1114, hs1115, hs1116, hs1117, ⟨by omega, by omega⟩, ⟨by omega, by omega⟩, ⟨by omega, by omega⟩, ⟨by omega, by omega⟩, ⟨by omega, by omega⟩, ⟨by omega, by omega⟩, ⟨by omega, by omega⟩, ⟨by omega, by omega⟩, ⟨by omega, by omega⟩, ⟨by omega, by omega⟩, (by first | assumption | omega), (by first | assumption | omega), (by first | exact tf_PI_PB (tf_PI_sign (hRW_5 o0 u0 fs hq3) (by omega) (by omega)) (by omega) | exact tf_PI_PB hq3 (by omega)), (by first | exact Or.inr (tf_ST1 (tf_PI_sign (hRW_5 o0 u0 fs hq3) (by omega) (by omega)) (tf_NS_Q (tf_NS_push (tf_NS_mono hNS (by omega)) (by omega)))) | exact Or.inl (by omega)), (by first | assumption | omega), (by first | exact tf_er_cmp hq5 hq6 hpI_2 (by omega) (by omega) hcm0 (by omega) (by omega) (by omega) (by omega) hRW_4 (by omega) (by omega) (hRV_1.resolve_left (by omega)) | exact tf_er_cmp0 hq6 hpI_2 (by omega) (by omega) (tf_no4 hn43 hn45 hn42 hn47) hcm0 (tf_no3 hn60 hn61 hn62) (by omega) (by omega) | exact absurd (show (1 : Int) = 0 by omega) (by decide)), (by first | assumption | omega)⟩⟩ dX10_behindSum_232
                                            · refine lv_aload_n hx hb dX10_behindSum_220 rfl (lv_at hl 2 rfl) ?_
                                              refine tf_iconst hx hb dX10_behindSum_221 ?_
                                              refine tf_callv (va_runV (As := [.int (Int32.ofInt 5)]) (rest := []) ⟨hx, hb, hml, hown, hts⟩ (c_X10_settle l g T a0 ha0 (5) ⟨by omega, by omega⟩ qop hqop qar hqar qpi hqpi qpa hqpa (gc) ⟨by omega, by omega⟩ (gp) ⟨by omega, by omega⟩ rop rar rpi rpa (by first | assumption | omega) (tf_PI_PB hq3 (by omega))) (cwV 1 hts gv_X10_291 rfl rfl rfl hd_X10_settle ⟨Nat.le_trans (by decide) hR1, Nat.le_trans (by decide) hR2⟩) (tf_preV hk hW ha0 (ci := 10) rfl rfl ⟨hs1105, hs1106, hs1107, hs1108, hs1110, hs1111, hs1114, hs1115, hs1116, hs1117⟩) rfl rfl hl.1 rfl (lv_room (Nat.le_of_ble_eq_true rfl)) dX10_behindSum_222 ⟨Nat.zero_le _, Nat.zero_le _⟩) hW (by decide) (fun HW locsW hW hFW hpW => ?_)
                                              have hs1124 := tf_keepF hFW ha0 rfl rfl (by decide) hs1105
                                              have hs1125 := tf_keepF hFW ha0 rfl rfl (by decide) hs1106
                                              have hs1126 := tf_keepF hFW ha0 rfl rfl (by decide) hs1107
                                              have hs1127 := tf_keepF hFW ha0 rfl rfl (by decide) hs1108
                                              have hs1128 := tf_keepF hFW ha0 rfl rfl (by decide) hs1109
                                              have hs1129 := tf_keepF hFW ha0 rfl rfl (by decide) hs1112
                                              have hs1130 := tf_keepF hFW ha0 rfl rfl (by decide) hs1113
                                              have hs1131 := tf_keepC hFW hqpi rfl (by decide) hs1116
                                              have hs1132 := tf_keepC hFW hqpa rfl (by decide) hs1117
                                              have hs1133 := tf_keepF hFW ha0 rfl rfl (by decide) hs1118
                                              have hs1134 := tf_keepC hFW htm rfl (by decide) hs1119
                                              have hs1135 := tf_keepF hFW ha0 rfl rfl (by decide) hs1120
                                              have hs1136 := tf_keepC hFW hwd rfl (by decide) hs1121
                                              have hs1137 := tf_keepF hFW ha0 rfl rfl (by decide) hXV_0
                                              have hs1138 := tf_keepF hFW ha0 rfl rfl (by decide) hXV_1
                                              have hs1139 := tf_keepF hFW ha0 rfl rfl (by decide) hXV_2
                                              have hs1140 := tf_keepF hFW ha0 rfl rfl (by decide) hXV_3
                                              have hs1141 := tf_keepF hFW ha0 rfl rfl (by decide) hXV_4
                                              have hs1142 := tf_keepF hFW ha0 rfl rfl (by decide) hXV_5
                                              obtain ⟨gc1_W, gp1_W, rop1_W, rar1_W, hXW_0, hXW_1, hXW_2, hXW_3, hBW_0, hBW_1, hRW_0, hRW_1, hRW_2, hRW_3, hRW_4, hRW_5, hRW_6⟩ := hpW
                                              refine lv_aload_n hx hb dX10_behindSum_225 rfl (lv_at hl 2 rfl) ?_
                                              refine lv_iload_n hx hb dX10_behindSum_226 rfl (lv_at hl 0 rfl) ?_
                                              refine tf_iconst hx hb dX10_behindSum_227 ?_
                                              refine tf_callv (va_runV (As := [.int (Int32.ofInt 26), .int (Int32.ofInt 0)]) (rest := []) ⟨hx, hb, hml, hown, hts⟩ (c_X10_push l g T a0 ha0 (26) ⟨by omega, by omega⟩ (0) ⟨by omega, by omega⟩ qpi hqpi qpa hqpa (gp1_W) ⟨by omega, by omega⟩ rpi rpa) (cwV 2 hts gv_X10_265 rfl rfl rfl hd_X10_push ⟨Nat.le_trans (by decide) hR1, Nat.le_trans (by decide) hR2⟩) (tf_preV hk hW ha0 (ci := 10) rfl rfl ⟨hs1126, hs1127, hXW_1, hs1131, hs1132⟩) rfl rfl hl.1 rfl (lv_room (Nat.le_of_ble_eq_true rfl)) dX10_behindSum_228 ⟨Nat.zero_le _, Nat.zero_le _⟩) hW (by decide) (fun H1143 locs1143 hW hF1143 hp1143 => ?_)
                                              have hs1144 := tf_keepF hF1143 ha0 rfl rfl (by decide) hs1124
                                              have hs1145 := tf_keepF hF1143 ha0 rfl rfl (by decide) hs1125
                                              have hs1146 := tf_keepF hF1143 ha0 rfl rfl (by decide) hs1126
                                              have hs1147 := tf_keepF hF1143 ha0 rfl rfl (by decide) hs1127
                                              have hs1148 := tf_keepF hF1143 ha0 rfl rfl (by decide) hs1128
                                              have hs1149 := tf_keepF hF1143 ha0 rfl rfl (by decide) hs1129
                                              have hs1150 := tf_keepF hF1143 ha0 rfl rfl (by decide) hs1130
                                              have hs1151 := tf_keepF hF1143 ha0 rfl rfl (by decide) hs1133
                                              have hs1152 := tf_keepC hF1143 htm rfl (by decide) hs1134
                                              have hs1153 := tf_keepF hF1143 ha0 rfl rfl (by decide) hs1135
                                              have hs1154 := tf_keepC hF1143 hwd rfl (by decide) hs1136
                                              have hs1155 := tf_keepF hF1143 ha0 rfl rfl (by decide) hs1137
                                              have hs1156 := tf_keepF hF1143 ha0 rfl rfl (by decide) hs1138
                                              have hs1157 := tf_keepF hF1143 ha0 rfl rfl (by decide) hs1139
                                              have hs1158 := tf_keepF hF1143 ha0 rfl rfl (by decide) hs1140
                                              have hs1159 := tf_keepF hF1143 ha0 rfl rfl (by decide) hs1141
                                              have hs1160 := tf_keepF hF1143 ha0 rfl rfl (by decide) hs1142
                                              have hs1161 := tf_keepF hF1143 ha0 rfl rfl (by decide) hXW_0
                                              have hs1162 := tf_keepC hF1143 hqop rfl (by decide) hXW_2
                                              have hs1163 := tf_keepC hF1143 hqar rfl (by decide) hXW_3
                                              obtain ⟨ho1143_0, ho1143_1, ho1143_2⟩ := hp1143
                                              refine tf_iconst hx hb dX10_behindSum_231 ?_
                                              exact tf_reti (z := 1) hx hb hr hlocks hQ hW ⟨by omega, by omega, ⟨(gb1_V), (gf1_V), (gt1_V), (gs1_V), (gw1_V), (gc1_W), ((gp1_W + 1)), (gx1_V), (gl), (go), rop1_W, rar1_W, (tf_up (rpi) (gp1_W) (26)), (tf_up (rpa) (gp1_W) (0)), hs1155, hs1156, hs1157, hs1158, hs1159, hs1161, ho1143_0, hs1160, hs1149, hs1150, hs1162, hs1163, ho1143_1, ho1143_2, ⟨by omega, by omega⟩, ⟨by omega, by omega⟩, ⟨by omega, by omega⟩, ⟨by omega, by omega⟩, ⟨by omega, by omega⟩, ⟨by omega, by omega⟩, ⟨by omega, by omega⟩, ⟨by omega, by omega⟩, ⟨by omega, by omega⟩, ⟨by omega, by omega⟩, (by first | assumption | omega), (by first | assumption | omega), (by first | exact tf_PI_PB (tf_PI_sign (hRW_5 o0 u0 fs hq3) (by omega) (by omega)) (by omega) | exact tf_PI_PB hq3 (by omega)), (by first | exact Or.inr (tf_ST1 (tf_PI_sign (hRW_5 o0 u0 fs hq3) (by omega) (by omega)) (tf_NS_Q (tf_NS_push (tf_NS_mono hNS (by omega)) (by omega)))) | exact Or.inl (by omega)), (by first | assumption | omega), (by first | exact tf_er_cmp hq5 hq6 hpI_2 (by omega) (by omega) hcm0 (by omega) (by omega) (by omega) (by omega) hRW_4 (by omega) (by omega) (hRV_1.resolve_left (by omega)) | exact tf_er_cmp0 hq6 hpI_2 (by omega) (by omega) (tf_no4 hn43 hn45 hn42 hn47) hcm0 (tf_no3 hn60 hn61 hn62) (by omega) (by omega) | exact absurd (show (1 : Int) = 0 by omega) (by decide)), (by first | assumption | omega)⟩⟩ dX10_behindSum_232
                                          · exfalso; omega
                                    · exfalso; omega
                                · exfalso; omega
                            · exfalso; omega
                        · refine tf_iconst hx hb dX10_behindSum_147 ?_
                          exact tf_reti (z := 4) hx hb hr hlocks hQ hW ⟨by omega, by omega, ⟨(gb), (gf), (gt), (gs), (gw), (gc), (gp), (gx), (gl), (go), rop, rar, rpi, rpa, hs455, hs451, hs452, hs453, hs454, hs456, hs457, hs458, hs459, hs460, hs461, hs462, hs463, hs464, ⟨by omega, by omega⟩, ⟨by omega, by omega⟩, ⟨by omega, by omega⟩, ⟨by omega, by omega⟩, ⟨by omega, by omega⟩, ⟨by omega, by omega⟩, ⟨by omega, by omega⟩, ⟨by omega, by omega⟩, ⟨by omega, by omega⟩, ⟨by omega, by omega⟩, (by first | assumption | omega), (by first | assumption | omega), (tf_PI_PB hq3 (by omega)), (Or.inr (tf_ST4 hq3 hq4 (tf_inn_NB hpI_2 (by omega)))), (by first | assumption | omega), (tf_er_over hq6 hpI_2 (by omega) (tf_no4 hn43 hn45 hn42 hn47) (by omega) (by omega)), (by first | assumption | omega)⟩⟩ dX10_behindSum_148
                    · refine lv_aload_n hx hb dX10_behindSum_94 rfl (lv_at hl 2 rfl) ?_
                      refine lv_aload_n hx hb dX10_behindSum_95 rfl (lv_at hl 2 rfl) ?_
                      refine tf_bipush hx hb dX10_behindSum_96 (by decide) ?_
                      refine tf_calli (va_runV (As := [.int (Int32.ofInt 93)]) (rest := [.ref a0]) ⟨hx, hb, hml, hown, hts⟩ (c_X10_isSign l g T a0 ha0 (93) ⟨by omega, by omega⟩ (gs) ⟨by omega, by omega⟩ (gw) ⟨by omega, by omega⟩) (cwV 1 hts gv_X10_271 rfl rfl rfl hd_X10_isSign ⟨Nat.le_trans (by decide) hR1, Nat.le_trans (by decide) hR2⟩) (tf_preV hk hW ha0 (ci := 10) rfl rfl ⟨hs453, hs454⟩) rfl rfl hl.1 rfl (lv_room (Nat.le_of_ble_eq_true rfl)) dX10_behindSum_98 ⟨Nat.zero_le _, Nat.zero_le _⟩) hW (by decide) (fun z1164 H1164 locs1164 hW hF1164 hp1164 => ?_)
                      have hs1165 := tf_keepF hF1164 ha0 rfl rfl (by decide) hs446
                      have hs1166 := tf_keepF hF1164 ha0 rfl rfl (by decide) hs447
                      have hs1167 := tf_keepF hF1164 ha0 rfl rfl (by decide) hs448
                      have hs1168 := tf_keepF hF1164 ha0 rfl rfl (by decide) hs449
                      have hs1169 := tf_keepF hF1164 ha0 rfl rfl (by decide) hs450
                      have hs1170 := tf_keepF hF1164 ha0 rfl rfl (by decide) hs451
                      have hs1171 := tf_keepF hF1164 ha0 rfl rfl (by decide) hs452
                      have hs1172 := tf_keepF hF1164 ha0 rfl rfl (by decide) hs453
                      have hs1173 := tf_keepF hF1164 ha0 rfl rfl (by decide) hs454
                      have hs1174 := tf_keepF hF1164 ha0 rfl rfl (by decide) hs455
                      have hs1175 := tf_keepF hF1164 ha0 rfl rfl (by decide) hs456
                      have hs1176 := tf_keepF hF1164 ha0 rfl rfl (by decide) hs457
                      have hs1177 := tf_keepF hF1164 ha0 rfl rfl (by decide) hs458
                      have hs1178 := tf_keepF hF1164 ha0 rfl rfl (by decide) hs459
                      have hs1179 := tf_keepF hF1164 ha0 rfl rfl (by decide) hs460
                      have hs1180 := tf_keepC hF1164 hqop rfl (by decide) hs461
                      have hs1181 := tf_keepC hF1164 hqar rfl (by decide) hs462
                      have hs1182 := tf_keepC hF1164 hqpi rfl (by decide) hs463
                      have hs1183 := tf_keepC hF1164 hqpa rfl (by decide) hs464
                      have hs1184 := tf_keepF hF1164 ha0 rfl rfl (by decide) hs465
                      have hs1185 := tf_keepC hF1164 htm rfl (by decide) hs466
                      have hs1186 := tf_keepF hF1164 ha0 rfl rfl (by decide) hs467
                      have hs1187 := tf_keepC hF1164 hwd rfl (by decide) hs468
                      rcases hp1164 with ⟨rfl, h1188⟩ | ⟨rfl, hn93⟩
                      · refine tf_callv (va_runV (As := [.int (Int32.ofInt 1)]) (rest := []) ⟨hx, hb, hml, hown, hts⟩ (c_X10_must l g T a0 ha0 (1) ⟨by omega, by omega⟩ tm htm (gn) ⟨by omega, by omega⟩ (gf) ⟨by omega, by omega⟩ (gt) ⟨by omega, by omega⟩ (gs) ⟨by omega, by omega⟩ (gw) ⟨by omega, by omega⟩ (gb) ⟨by omega, by omega⟩ (gx) ⟨by omega, by omega⟩ tp (by first | assumption | omega)) (cwV 1 hts gv_X10_235 rfl rfl rfl hd_X10_must ⟨Nat.le_trans (by decide) hR1, Nat.le_trans (by decide) hR2⟩) (tf_preV hk hW ha0 (ci := 10) rfl rfl ⟨hs1169, hs1170, hs1171, hs1172, hs1173, hs1174, hs1177, hs1184, hs1185⟩) rfl rfl hl.1 rfl (lv_room (Nat.le_of_ble_eq_true rfl)) dX10_behindSum_101 ⟨Nat.zero_le _, Nat.zero_le _⟩) hW (by decide) (fun HU locsU hW hFU hpU => ?_)
                        have hs1189 := tf_keepF hFU ha0 rfl rfl (by decide) hs1165
                        have hs1190 := tf_keepF hFU ha0 rfl rfl (by decide) hs1166
                        have hs1191 := tf_keepF hFU ha0 rfl rfl (by decide) hs1167
                        have hs1192 := tf_keepF hFU ha0 rfl rfl (by decide) hs1168
                        have hs1193 := tf_keepF hFU ha0 rfl rfl (by decide) hs1169
                        have hs1194 := tf_keepF hFU ha0 rfl rfl (by decide) hs1175
                        have hs1195 := tf_keepF hFU ha0 rfl rfl (by decide) hs1176
                        have hs1196 := tf_keepF hFU ha0 rfl rfl (by decide) hs1178
                        have hs1197 := tf_keepF hFU ha0 rfl rfl (by decide) hs1179
                        have hs1198 := tf_keepC hFU hqop rfl (by decide) hs1180
                        have hs1199 := tf_keepC hFU hqar rfl (by decide) hs1181
                        have hs1200 := tf_keepC hFU hqpi rfl (by decide) hs1182
                        have hs1201 := tf_keepC hFU hqpa rfl (by decide) hs1183
                        have hs1202 := tf_keepF hFU ha0 rfl rfl (by decide) hs1184
                        have hs1203 := tf_keepC hFU htm rfl (by decide) hs1185
                        have hs1204 := tf_keepF hFU ha0 rfl rfl (by decide) hs1186
                        have hs1205 := tf_keepC hFU hwd rfl (by decide) hs1187
                        obtain ⟨gb1_U, gf1_U, gt1_U, gs1_U, gw1_U, gx1_U, hXU_0, hXU_1, hXU_2, hXU_3, hXU_4, hXU_5, hBU_0, hBU_1, hBU_2, hBU_3, hBU_4, hBU_5, hRU_0, hRU_1, hRU_2, hRU_3⟩ := hpU
                        refine lv_aload_n hx hb dX10_behindSum_104 rfl (lv_at hl 2 rfl) ?_
                        refine tf_get hx hb hts inlX10 hown hK (ci := 10) rfl hW ha0 rfl 14 rfl (by decide) (hts _ fl_X10_200) dX10_behindSum_105 (fun v1206 hv1206 hsv1206 => ?_)
                        obtain rfl : v1206 = .int (Int32.ofInt gb1_U) := Option.some.inj (hsv1206.symm.trans hXU_0)
                        refine tf_if_ne (tgt := 136) hx hb ⟨by omega, by omega⟩ dX10_behindSum_108 (by decide) (fun h1207 => ?_) (fun h1207 => ?_)
                        · refine tf_iconst hx hb dX10_behindSum_136 ?_
                          exact tf_reti (z := 3) hx hb hr hlocks hQ hW ⟨by omega, by omega, ⟨(gb1_U), (gf1_U), (gt1_U), (gs1_U), (gw1_U), (gc), (gp), (gx1_U), (gl), (go), rop, rar, rpi, rpa, hXU_0, hXU_1, hXU_2, hXU_3, hXU_4, hs1194, hs1195, hXU_5, hs1196, hs1197, hs1198, hs1199, hs1200, hs1201, ⟨by omega, by omega⟩, ⟨by omega, by omega⟩, ⟨by omega, by omega⟩, ⟨by omega, by omega⟩, ⟨by omega, by omega⟩, ⟨by omega, by omega⟩, ⟨by omega, by omega⟩, ⟨by omega, by omega⟩, ⟨by omega, by omega⟩, ⟨by omega, by omega⟩, (by first | assumption | omega), (by first | assumption | omega), (by first | exact tf_PI_PB (tf_PI_close (hRS_5 o0 u0 fs hq3) rfl h31.1 h31.2) (by omega) | exact tf_PI_PB hq3 (by omega)), (by first | exact Or.inr (tf_ST3 (tf_PI_close (hRS_5 o0 u0 fs hq3) rfl h31.1 h31.2) (tf_Q_mono hq4 (by omega))) | exact Or.inl (by omega)), (by first | assumption | omega), (by first | exact tf_er_cl hq5 hq6 hpI_2 (by omega) (by omega) (by omega) (by omega) hRS_4 h31.2 (by omega) (hRU_1.resolve_left (by omega)) | exact tf_er_cl0 hq6 hpI_2 (by omega) (tf_no4 hn43 hn45 hn42 hn47) hn93 (by omega) (by omega) | exact absurd (show (1 : Int) = 0 by omega) (by decide)), (by first | assumption | omega)⟩⟩ dX10_behindSum_137
                        · refine lv_aload_n hx hb dX10_behindSum_111 rfl (lv_at hl 2 rfl) ?_
                          refine tf_iconst hx hb dX10_behindSum_112 ?_
                          refine tf_callv (va_runV (As := [.int (Int32.ofInt 5)]) (rest := []) ⟨hx, hb, hml, hown, hts⟩ (c_X10_settle l g T a0 ha0 (5) ⟨by omega, by omega⟩ qop hqop qar hqar qpi hqpi qpa hqpa (gc) ⟨by omega, by omega⟩ (gp) ⟨by omega, by omega⟩ rop rar rpi rpa (by first | assumption | omega) (tf_PI_PB hq3 (by omega))) (cwV 1 hts gv_X10_291 rfl rfl rfl hd_X10_settle ⟨Nat.le_trans (by decide) hR1, Nat.le_trans (by decide) hR2⟩) (tf_preV hk hW ha0 (ci := 10) rfl rfl ⟨hs1189, hs1190, hs1191, hs1192, hs1194, hs1195, hs1198, hs1199, hs1200, hs1201⟩) rfl rfl hl.1 rfl (lv_room (Nat.le_of_ble_eq_true rfl)) dX10_behindSum_113 ⟨Nat.zero_le _, Nat.zero_le _⟩) hW (by decide) (fun HS locsS hW hFS hpS => ?_)
                          have hs1208 := tf_keepF hFS ha0 rfl rfl (by decide) hs1189
                          have hs1209 := tf_keepF hFS ha0 rfl rfl (by decide) hs1190
                          have hs1210 := tf_keepF hFS ha0 rfl rfl (by decide) hs1191
                          have hs1211 := tf_keepF hFS ha0 rfl rfl (by decide) hs1192
                          have hs1212 := tf_keepF hFS ha0 rfl rfl (by decide) hs1193
                          have hs1213 := tf_keepF hFS ha0 rfl rfl (by decide) hs1196
                          have hs1214 := tf_keepF hFS ha0 rfl rfl (by decide) hs1197
                          have hs1215 := tf_keepC hFS hqpi rfl (by decide) hs1200
                          have hs1216 := tf_keepC hFS hqpa rfl (by decide) hs1201
                          have hs1217 := tf_keepF hFS ha0 rfl rfl (by decide) hs1202
                          have hs1218 := tf_keepC hFS htm rfl (by decide) hs1203
                          have hs1219 := tf_keepF hFS ha0 rfl rfl (by decide) hs1204
                          have hs1220 := tf_keepC hFS hwd rfl (by decide) hs1205
                          have hs1221 := tf_keepF hFS ha0 rfl rfl (by decide) hXU_0
                          have hs1222 := tf_keepF hFS ha0 rfl rfl (by decide) hXU_1
                          have hs1223 := tf_keepF hFS ha0 rfl rfl (by decide) hXU_2
                          have hs1224 := tf_keepF hFS ha0 rfl rfl (by decide) hXU_3
                          have hs1225 := tf_keepF hFS ha0 rfl rfl (by decide) hXU_4
                          have hs1226 := tf_keepF hFS ha0 rfl rfl (by decide) hXU_5
                          obtain ⟨gc1_S, gp1_S, rop1_S, rar1_S, hXS_0, hXS_1, hXS_2, hXS_3, hBS_0, hBS_1, hRS_0, hRS_1, hRS_2, hRS_3, hRS_4, hRS_5, hRS_6⟩ := hpS
                          refine lv_aload_n hx hb dX10_behindSum_116 rfl (lv_at hl 2 rfl) ?_
                          refine lv_dup hx hb dX10_behindSum_117 rfl ?_
                          refine tf_get hx hb hts inlX10 hown hK (ci := 10) rfl hW ha0 rfl 23 rfl (by decide) (hts _ fl_X10_242) dX10_behindSum_118 (fun v1227 hv1227 hsv1227 => ?_)
                          obtain rfl : v1227 = .int (Int32.ofInt gp1_S) := Option.some.inj (hsv1227.symm.trans hXS_1)
                          refine tf_iconst hx hb dX10_behindSum_121 ?_
                          refine tf_isub hx hb dX10_behindSum_122 ?_
                          have h31 := tf_inn_31 (show tf_inn rpi gp 31 from (show zI = 31 by omega) ▸ hpI_2) hq4 (by omega) (by omega) hRS_4 (by omega)
                          refine tf_put hx hb hts inlX10 tyX10 tyX10_ok nmX10 hown hK (ci := 10) rfl hW ha0 rfl rfl 23 rfl (by decide) (by decide) (hts _ fl_X10_242) rfl (tf_u0 (by omega) (by omega)) rfl rfl dX10_behindSum_123 (fun H1228 locs1228 hW hs1228 ht1228 hq1228 => ?_)
                          have hs1229 := (ht1228 18 (by decide) (by decide)).trans hs1208
                          have hs1230 := (ht1228 19 (by decide) (by decide)).trans hs1209
                          have hs1231 := (ht1228 21 (by decide) (by decide)).trans hs1210
                          have hs1232 := (ht1228 22 (by decide) (by decide)).trans hs1211
                          have hs1233 := (ht1228 8 (by decide) (by decide)).trans hs1212
                          have hs1234 := (ht1228 20 (by decide) (by decide)).trans hs1213
                          have hs1235 := (ht1228 24 (by decide) (by decide)).trans hs1214
                          have hs1236 := tf_keepCQ hs1215 (hq1228 _ (tf_ne hqpi ha0 (by decide)))
                          have hs1237 := tf_keepCQ hs1216 (hq1228 _ (tf_ne hqpa ha0 (by decide)))
                          have hs1238 := (ht1228 7 (by decide) (by decide)).trans hs1217
                          have hs1239 := tf_keepCQ hs1218 (hq1228 _ (tf_ne htm ha0 (by decide)))
                          have hs1240 := (ht1228 25 (by decide) (by decide)).trans hs1219
                          have hs1241 := tf_keepCQ hs1220 (hq1228 _ (tf_ne hwd ha0 (by decide)))
                          have hs1242 := (ht1228 14 (by decide) (by decide)).trans hs1221
                          have hs1243 := (ht1228 9 (by decide) (by decide)).trans hs1222
                          have hs1244 := (ht1228 10 (by decide) (by decide)).trans hs1223
                          have hs1245 := (ht1228 11 (by decide) (by decide)).trans hs1224
                          have hs1246 := (ht1228 12 (by decide) (by decide)).trans hs1225
                          have hs1247 := (ht1228 13 (by decide) (by decide)).trans hs1226
                          have hs1248 := (ht1228 17 (by decide) (by decide)).trans hXS_0
                          have hs1249 := tf_keepCQ hXS_2 (hq1228 _ (tf_ne hqop ha0 (by decide)))
                          have hs1250 := tf_keepCQ hXS_3 (hq1228 _ (tf_ne hqar ha0 (by decide)))
                          have hol := hq6.2.1
                          have hos := tf_AB_ne hq6.2.2.1 hpI_2 (by omega)
                          refine lv_aload_n hx hb dX10_behindSum_126 rfl (lv_at hl 2 rfl) ?_
                          refine lv_dup hx hb dX10_behindSum_127 rfl ?_
                          refine tf_get hx hb hts inlX10 hown hK (ci := 10) rfl hW ha0 rfl 24 rfl (by decide) (hts _ fl_X10_262) dX10_behindSum_128 (fun v1251 hv1251 hsv1251 => ?_)
                          obtain rfl : v1251 = .int (Int32.ofInt go) := Option.some.inj (hsv1251.symm.trans hs1235)
                          refine tf_iconst hx hb dX10_behindSum_131 ?_
                          refine tf_isub hx hb dX10_behindSum_132 ?_
                          refine tf_put hx hb hts inlX10 tyX10 tyX10_ok nmX10 hown hK (ci := 10) rfl hW ha0 rfl rfl 24 rfl (by decide) (by decide) (hts _ fl_X10_262) rfl (tf_u0 (by omega) (by omega)) rfl rfl dX10_behindSum_133 (fun H1252 locs1252 hW hs1252 ht1252 hq1252 => ?_)
                          have hs1253 := (ht1252 18 (by decide) (by decide)).trans hs1229
                          have hs1254 := (ht1252 19 (by decide) (by decide)).trans hs1230
                          have hs1255 := (ht1252 21 (by decide) (by decide)).trans hs1231
                          have hs1256 := (ht1252 22 (by decide) (by decide)).trans hs1232
                          have hs1257 := (ht1252 8 (by decide) (by decide)).trans hs1233
                          have hs1258 := (ht1252 20 (by decide) (by decide)).trans hs1234
                          have hs1259 := tf_keepCQ hs1236 (hq1252 _ (tf_ne hqpi ha0 (by decide)))
                          have hs1260 := tf_keepCQ hs1237 (hq1252 _ (tf_ne hqpa ha0 (by decide)))
                          have hs1261 := (ht1252 7 (by decide) (by decide)).trans hs1238
                          have hs1262 := tf_keepCQ hs1239 (hq1252 _ (tf_ne htm ha0 (by decide)))
                          have hs1263 := (ht1252 25 (by decide) (by decide)).trans hs1240
                          have hs1264 := tf_keepCQ hs1241 (hq1252 _ (tf_ne hwd ha0 (by decide)))
                          have hs1265 := (ht1252 14 (by decide) (by decide)).trans hs1242
                          have hs1266 := (ht1252 9 (by decide) (by decide)).trans hs1243
                          have hs1267 := (ht1252 10 (by decide) (by decide)).trans hs1244
                          have hs1268 := (ht1252 11 (by decide) (by decide)).trans hs1245
                          have hs1269 := (ht1252 12 (by decide) (by decide)).trans hs1246
                          have hs1270 := (ht1252 13 (by decide) (by decide)).trans hs1247
                          have hs1271 := (ht1252 17 (by decide) (by decide)).trans hs1248
                          have hs1272 := tf_keepCQ hs1249 (hq1252 _ (tf_ne hqop ha0 (by decide)))
                          have hs1273 := tf_keepCQ hs1250 (hq1252 _ (tf_ne hqar ha0 (by decide)))
                          have hs1274 := (ht1252 23 (by decide) (by decide)).trans hs1228
                          refine tf_iconst hx hb dX10_behindSum_136 ?_
                          exact tf_reti (z := 3) hx hb hr hlocks hQ hW ⟨by omega, by omega, ⟨(gb1_U), (gf1_U), (gt1_U), (gs1_U), (gw1_U), (gc1_S), ((gp1_S - 1)), (gx1_U), (gl), ((go - 1)), rop1_S, rar1_S, rpi, rpa, hs1265, hs1266, hs1267, hs1268, hs1269, hs1271, hs1274, hs1270, hs1258, hs1252, hs1272, hs1273, hs1259, hs1260, ⟨by omega, by omega⟩, ⟨by omega, by omega⟩, ⟨by omega, by omega⟩, ⟨by omega, by omega⟩, ⟨by omega, by omega⟩, ⟨by omega, by omega⟩, ⟨by omega, by omega⟩, ⟨by omega, by omega⟩, ⟨by omega, by omega⟩, ⟨by omega, by omega⟩, (by first | assumption | omega), (by first | assumption | omega), (by first | exact tf_PI_PB (tf_PI_close (hRS_5 o0 u0 fs hq3) rfl h31.1 h31.2) (by omega) | exact tf_PI_PB hq3 (by omega)), (by first | exact Or.inr (tf_ST3 (tf_PI_close (hRS_5 o0 u0 fs hq3) rfl h31.1 h31.2) (tf_Q_mono hq4 (by omega))) | exact Or.inl (by omega)), (by first | assumption | omega), (by first | exact tf_er_cl hq5 hq6 hpI_2 (by omega) (by omega) (by omega) (by omega) hRS_4 h31.2 (by omega) (hRU_1.resolve_left (by omega)) | exact tf_er_cl0 hq6 hpI_2 (by omega) (tf_no4 hn43 hn45 hn42 hn47) hn93 (by omega) (by omega) | exact absurd (show (1 : Int) = 0 by omega) (by decide)), (by first | assumption | omega)⟩⟩ dX10_behindSum_137
                      · refine tf_callv (va_runV (As := [.int (Int32.ofInt 0)]) (rest := []) ⟨hx, hb, hml, hown, hts⟩ (c_X10_must l g T a0 ha0 (0) ⟨by omega, by omega⟩ tm htm (gn) ⟨by omega, by omega⟩ (gf) ⟨by omega, by omega⟩ (gt) ⟨by omega, by omega⟩ (gs) ⟨by omega, by omega⟩ (gw) ⟨by omega, by omega⟩ (gb) ⟨by omega, by omega⟩ (gx) ⟨by omega, by omega⟩ tp (by first | assumption | omega)) (cwV 1 hts gv_X10_235 rfl rfl rfl hd_X10_must ⟨Nat.le_trans (by decide) hR1, Nat.le_trans (by decide) hR2⟩) (tf_preV hk hW ha0 (ci := 10) rfl rfl ⟨hs1169, hs1170, hs1171, hs1172, hs1173, hs1174, hs1177, hs1184, hs1185⟩) rfl rfl hl.1 rfl (lv_room (Nat.le_of_ble_eq_true rfl)) dX10_behindSum_101 ⟨Nat.zero_le _, Nat.zero_le _⟩) hW (by decide) (fun HU locsU hW hFU hpU => ?_)
                        have hs1275 := tf_keepF hFU ha0 rfl rfl (by decide) hs1165
                        have hs1276 := tf_keepF hFU ha0 rfl rfl (by decide) hs1166
                        have hs1277 := tf_keepF hFU ha0 rfl rfl (by decide) hs1167
                        have hs1278 := tf_keepF hFU ha0 rfl rfl (by decide) hs1168
                        have hs1279 := tf_keepF hFU ha0 rfl rfl (by decide) hs1169
                        have hs1280 := tf_keepF hFU ha0 rfl rfl (by decide) hs1175
                        have hs1281 := tf_keepF hFU ha0 rfl rfl (by decide) hs1176
                        have hs1282 := tf_keepF hFU ha0 rfl rfl (by decide) hs1178
                        have hs1283 := tf_keepF hFU ha0 rfl rfl (by decide) hs1179
                        have hs1284 := tf_keepC hFU hqop rfl (by decide) hs1180
                        have hs1285 := tf_keepC hFU hqar rfl (by decide) hs1181
                        have hs1286 := tf_keepC hFU hqpi rfl (by decide) hs1182
                        have hs1287 := tf_keepC hFU hqpa rfl (by decide) hs1183
                        have hs1288 := tf_keepF hFU ha0 rfl rfl (by decide) hs1184
                        have hs1289 := tf_keepC hFU htm rfl (by decide) hs1185
                        have hs1290 := tf_keepF hFU ha0 rfl rfl (by decide) hs1186
                        have hs1291 := tf_keepC hFU hwd rfl (by decide) hs1187
                        obtain ⟨gb1_U, gf1_U, gt1_U, gs1_U, gw1_U, gx1_U, hXU_0, hXU_1, hXU_2, hXU_3, hXU_4, hXU_5, hBU_0, hBU_1, hBU_2, hBU_3, hBU_4, hBU_5, hRU_0, hRU_1, hRU_2, hRU_3⟩ := hpU
                        refine lv_aload_n hx hb dX10_behindSum_104 rfl (lv_at hl 2 rfl) ?_
                        refine tf_get hx hb hts inlX10 hown hK (ci := 10) rfl hW ha0 rfl 14 rfl (by decide) (hts _ fl_X10_200) dX10_behindSum_105 (fun v1292 hv1292 hsv1292 => ?_)
                        obtain rfl : v1292 = .int (Int32.ofInt gb1_U) := Option.some.inj (hsv1292.symm.trans hXU_0)
                        refine tf_if_ne (tgt := 136) hx hb ⟨by omega, by omega⟩ dX10_behindSum_108 (by decide) (fun h1293 => ?_) (fun h1293 => ?_)
                        · refine tf_iconst hx hb dX10_behindSum_136 ?_
                          exact tf_reti (z := 3) hx hb hr hlocks hQ hW ⟨by omega, by omega, ⟨(gb1_U), (gf1_U), (gt1_U), (gs1_U), (gw1_U), (gc), (gp), (gx1_U), (gl), (go), rop, rar, rpi, rpa, hXU_0, hXU_1, hXU_2, hXU_3, hXU_4, hs1280, hs1281, hXU_5, hs1282, hs1283, hs1284, hs1285, hs1286, hs1287, ⟨by omega, by omega⟩, ⟨by omega, by omega⟩, ⟨by omega, by omega⟩, ⟨by omega, by omega⟩, ⟨by omega, by omega⟩, ⟨by omega, by omega⟩, ⟨by omega, by omega⟩, ⟨by omega, by omega⟩, ⟨by omega, by omega⟩, ⟨by omega, by omega⟩, (by first | assumption | omega), (by first | assumption | omega), (by first | exact tf_PI_PB (tf_PI_close (hRS_5 o0 u0 fs hq3) rfl h31.1 h31.2) (by omega) | exact tf_PI_PB hq3 (by omega)), (by first | exact Or.inr (tf_ST3 (tf_PI_close (hRS_5 o0 u0 fs hq3) rfl h31.1 h31.2) (tf_Q_mono hq4 (by omega))) | exact Or.inl (by omega)), (by first | assumption | omega), (by first | exact tf_er_cl hq5 hq6 hpI_2 (by omega) (by omega) (by omega) (by omega) hRS_4 h31.2 (by omega) (hRU_1.resolve_left (by omega)) | exact tf_er_cl0 hq6 hpI_2 (by omega) (tf_no4 hn43 hn45 hn42 hn47) hn93 (by omega) (by omega) | exact absurd (show (1 : Int) = 0 by omega) (by decide)), (by first | assumption | omega)⟩⟩ dX10_behindSum_137
                        · refine lv_aload_n hx hb dX10_behindSum_111 rfl (lv_at hl 2 rfl) ?_
                          refine tf_iconst hx hb dX10_behindSum_112 ?_
                          refine tf_callv (va_runV (As := [.int (Int32.ofInt 5)]) (rest := []) ⟨hx, hb, hml, hown, hts⟩ (c_X10_settle l g T a0 ha0 (5) ⟨by omega, by omega⟩ qop hqop qar hqar qpi hqpi qpa hqpa (gc) ⟨by omega, by omega⟩ (gp) ⟨by omega, by omega⟩ rop rar rpi rpa (by first | assumption | omega) (tf_PI_PB hq3 (by omega))) (cwV 1 hts gv_X10_291 rfl rfl rfl hd_X10_settle ⟨Nat.le_trans (by decide) hR1, Nat.le_trans (by decide) hR2⟩) (tf_preV hk hW ha0 (ci := 10) rfl rfl ⟨hs1275, hs1276, hs1277, hs1278, hs1280, hs1281, hs1284, hs1285, hs1286, hs1287⟩) rfl rfl hl.1 rfl (lv_room (Nat.le_of_ble_eq_true rfl)) dX10_behindSum_113 ⟨Nat.zero_le _, Nat.zero_le _⟩) hW (by decide) (fun HS locsS hW hFS hpS => ?_)
                          have hs1294 := tf_keepF hFS ha0 rfl rfl (by decide) hs1275
                          have hs1295 := tf_keepF hFS ha0 rfl rfl (by decide) hs1276
                          have hs1296 := tf_keepF hFS ha0 rfl rfl (by decide) hs1277
                          have hs1297 := tf_keepF hFS ha0 rfl rfl (by decide) hs1278
                          have hs1298 := tf_keepF hFS ha0 rfl rfl (by decide) hs1279
                          have hs1299 := tf_keepF hFS ha0 rfl rfl (by decide) hs1282
                          have hs1300 := tf_keepF hFS ha0 rfl rfl (by decide) hs1283
                          have hs1301 := tf_keepC hFS hqpi rfl (by decide) hs1286
                          have hs1302 := tf_keepC hFS hqpa rfl (by decide) hs1287
                          have hs1303 := tf_keepF hFS ha0 rfl rfl (by decide) hs1288
                          have hs1304 := tf_keepC hFS htm rfl (by decide) hs1289
                          have hs1305 := tf_keepF hFS ha0 rfl rfl (by decide) hs1290
                          have hs1306 := tf_keepC hFS hwd rfl (by decide) hs1291
                          have hs1307 := tf_keepF hFS ha0 rfl rfl (by decide) hXU_0
                          have hs1308 := tf_keepF hFS ha0 rfl rfl (by decide) hXU_1
                          have hs1309 := tf_keepF hFS ha0 rfl rfl (by decide) hXU_2
                          have hs1310 := tf_keepF hFS ha0 rfl rfl (by decide) hXU_3
                          have hs1311 := tf_keepF hFS ha0 rfl rfl (by decide) hXU_4
                          have hs1312 := tf_keepF hFS ha0 rfl rfl (by decide) hXU_5
                          obtain ⟨gc1_S, gp1_S, rop1_S, rar1_S, hXS_0, hXS_1, hXS_2, hXS_3, hBS_0, hBS_1, hRS_0, hRS_1, hRS_2, hRS_3, hRS_4, hRS_5, hRS_6⟩ := hpS
                          refine lv_aload_n hx hb dX10_behindSum_116 rfl (lv_at hl 2 rfl) ?_
                          refine lv_dup hx hb dX10_behindSum_117 rfl ?_
                          refine tf_get hx hb hts inlX10 hown hK (ci := 10) rfl hW ha0 rfl 23 rfl (by decide) (hts _ fl_X10_242) dX10_behindSum_118 (fun v1313 hv1313 hsv1313 => ?_)
                          obtain rfl : v1313 = .int (Int32.ofInt gp1_S) := Option.some.inj (hsv1313.symm.trans hXS_1)
                          refine tf_iconst hx hb dX10_behindSum_121 ?_
                          refine tf_isub hx hb dX10_behindSum_122 ?_
                          have h31 := tf_inn_31 (show tf_inn rpi gp 31 from (show zI = 31 by omega) ▸ hpI_2) hq4 (by omega) (by omega) hRS_4 (by omega)
                          refine tf_put hx hb hts inlX10 tyX10 tyX10_ok nmX10 hown hK (ci := 10) rfl hW ha0 rfl rfl 23 rfl (by decide) (by decide) (hts _ fl_X10_242) rfl (tf_u0 (by omega) (by omega)) rfl rfl dX10_behindSum_123 (fun H1314 locs1314 hW hs1314 ht1314 hq1314 => ?_)
                          have hs1315 := (ht1314 18 (by decide) (by decide)).trans hs1294
                          have hs1316 := (ht1314 19 (by decide) (by decide)).trans hs1295
                          have hs1317 := (ht1314 21 (by decide) (by decide)).trans hs1296
                          have hs1318 := (ht1314 22 (by decide) (by decide)).trans hs1297
                          have hs1319 := (ht1314 8 (by decide) (by decide)).trans hs1298
                          have hs1320 := (ht1314 20 (by decide) (by decide)).trans hs1299
                          have hs1321 := (ht1314 24 (by decide) (by decide)).trans hs1300
                          have hs1322 := tf_keepCQ hs1301 (hq1314 _ (tf_ne hqpi ha0 (by decide)))
                          have hs1323 := tf_keepCQ hs1302 (hq1314 _ (tf_ne hqpa ha0 (by decide)))
                          have hs1324 := (ht1314 7 (by decide) (by decide)).trans hs1303
                          have hs1325 := tf_keepCQ hs1304 (hq1314 _ (tf_ne htm ha0 (by decide)))
                          have hs1326 := (ht1314 25 (by decide) (by decide)).trans hs1305
                          have hs1327 := tf_keepCQ hs1306 (hq1314 _ (tf_ne hwd ha0 (by decide)))
                          have hs1328 := (ht1314 14 (by decide) (by decide)).trans hs1307
                          have hs1329 := (ht1314 9 (by decide) (by decide)).trans hs1308
                          have hs1330 := (ht1314 10 (by decide) (by decide)).trans hs1309
                          have hs1331 := (ht1314 11 (by decide) (by decide)).trans hs1310
                          have hs1332 := (ht1314 12 (by decide) (by decide)).trans hs1311
                          have hs1333 := (ht1314 13 (by decide) (by decide)).trans hs1312
                          have hs1334 := (ht1314 17 (by decide) (by decide)).trans hXS_0
                          have hs1335 := tf_keepCQ hXS_2 (hq1314 _ (tf_ne hqop ha0 (by decide)))
                          have hs1336 := tf_keepCQ hXS_3 (hq1314 _ (tf_ne hqar ha0 (by decide)))
                          have hol := hq6.2.1
                          have hos := tf_AB_ne hq6.2.2.1 hpI_2 (by omega)
                          refine lv_aload_n hx hb dX10_behindSum_126 rfl (lv_at hl 2 rfl) ?_
                          refine lv_dup hx hb dX10_behindSum_127 rfl ?_
                          refine tf_get hx hb hts inlX10 hown hK (ci := 10) rfl hW ha0 rfl 24 rfl (by decide) (hts _ fl_X10_262) dX10_behindSum_128 (fun v1337 hv1337 hsv1337 => ?_)
                          obtain rfl : v1337 = .int (Int32.ofInt go) := Option.some.inj (hsv1337.symm.trans hs1321)
                          refine tf_iconst hx hb dX10_behindSum_131 ?_
                          refine tf_isub hx hb dX10_behindSum_132 ?_
                          refine tf_put hx hb hts inlX10 tyX10 tyX10_ok nmX10 hown hK (ci := 10) rfl hW ha0 rfl rfl 24 rfl (by decide) (by decide) (hts _ fl_X10_262) rfl (tf_u0 (by omega) (by omega)) rfl rfl dX10_behindSum_133 (fun H1338 locs1338 hW hs1338 ht1338 hq1338 => ?_)
                          have hs1339 := (ht1338 18 (by decide) (by decide)).trans hs1315
                          have hs1340 := (ht1338 19 (by decide) (by decide)).trans hs1316
                          have hs1341 := (ht1338 21 (by decide) (by decide)).trans hs1317
                          have hs1342 := (ht1338 22 (by decide) (by decide)).trans hs1318
                          have hs1343 := (ht1338 8 (by decide) (by decide)).trans hs1319
                          have hs1344 := (ht1338 20 (by decide) (by decide)).trans hs1320
                          have hs1345 := tf_keepCQ hs1322 (hq1338 _ (tf_ne hqpi ha0 (by decide)))
                          have hs1346 := tf_keepCQ hs1323 (hq1338 _ (tf_ne hqpa ha0 (by decide)))
                          have hs1347 := (ht1338 7 (by decide) (by decide)).trans hs1324
                          have hs1348 := tf_keepCQ hs1325 (hq1338 _ (tf_ne htm ha0 (by decide)))
                          have hs1349 := (ht1338 25 (by decide) (by decide)).trans hs1326
                          have hs1350 := tf_keepCQ hs1327 (hq1338 _ (tf_ne hwd ha0 (by decide)))
                          have hs1351 := (ht1338 14 (by decide) (by decide)).trans hs1328
                          have hs1352 := (ht1338 9 (by decide) (by decide)).trans hs1329
                          have hs1353 := (ht1338 10 (by decide) (by decide)).trans hs1330
                          have hs1354 := (ht1338 11 (by decide) (by decide)).trans hs1331
                          have hs1355 := (ht1338 12 (by decide) (by decide)).trans hs1332
                          have hs1356 := (ht1338 13 (by decide) (by decide)).trans hs1333
                          have hs1357 := (ht1338 17 (by decide) (by decide)).trans hs1334
                          have hs1358 := tf_keepCQ hs1335 (hq1338 _ (tf_ne hqop ha0 (by decide)))
                          have hs1359 := tf_keepCQ hs1336 (hq1338 _ (tf_ne hqar ha0 (by decide)))
                          have hs1360 := (ht1338 23 (by decide) (by decide)).trans hs1314
                          refine tf_iconst hx hb dX10_behindSum_136 ?_
                          exact tf_reti (z := 3) hx hb hr hlocks hQ hW ⟨by omega, by omega, ⟨(gb1_U), (gf1_U), (gt1_U), (gs1_U), (gw1_U), (gc1_S), ((gp1_S - 1)), (gx1_U), (gl), ((go - 1)), rop1_S, rar1_S, rpi, rpa, hs1351, hs1352, hs1353, hs1354, hs1355, hs1357, hs1360, hs1356, hs1344, hs1338, hs1358, hs1359, hs1345, hs1346, ⟨by omega, by omega⟩, ⟨by omega, by omega⟩, ⟨by omega, by omega⟩, ⟨by omega, by omega⟩, ⟨by omega, by omega⟩, ⟨by omega, by omega⟩, ⟨by omega, by omega⟩, ⟨by omega, by omega⟩, ⟨by omega, by omega⟩, ⟨by omega, by omega⟩, (by first | assumption | omega), (by first | assumption | omega), (by first | exact tf_PI_PB (tf_PI_close (hRS_5 o0 u0 fs hq3) rfl h31.1 h31.2) (by omega) | exact tf_PI_PB hq3 (by omega)), (by first | exact Or.inr (tf_ST3 (tf_PI_close (hRS_5 o0 u0 fs hq3) rfl h31.1 h31.2) (tf_Q_mono hq4 (by omega))) | exact Or.inl (by omega)), (by first | assumption | omega), (by first | exact tf_er_cl hq5 hq6 hpI_2 (by omega) (by omega) (by omega) (by omega) hRS_4 h31.2 (by omega) (hRU_1.resolve_left (by omega)) | exact tf_er_cl0 hq6 hpI_2 (by omega) (tf_no4 hn43 hn45 hn42 hn47) hn93 (by omega) (by omega) | exact absurd (show (1 : Int) = 0 by omega) (by decide)), (by first | assumption | omega)⟩⟩ dX10_behindSum_137
                  · exfalso; omega
                · exfalso; omega
            · exfalso; omega
        · exfalso; omega
    · exfalso; omega

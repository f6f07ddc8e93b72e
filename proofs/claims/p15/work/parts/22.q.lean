
abbrev M_X10_readPart : List (Nat × Nat) := [(46, 0), (47, 0), (48, 0), (49, 0), (63, 9), (63, 10), (63, 11), (63, 12), (63, 13), (63, 14), (63, 17), (63, 20), (63, 23), (63, 24)]
set_option maxHeartbeats 4000000 in
set_option maxRecDepth 100000 in
theorem c_X10_readPart (l : Launch) (g : tf_G) (T : tf_T) (a0 : Nat) (ha0 : T a0 = some (63, 0)) (fs : Int) (o0 : Int → Int) (u0 : Int → Int) (ss : Int → Int) (pp : Int → Int) (mm : Int) (k9 : Int) (c9 : Int) (S9 : List (Int × Int)) (e9 : Int) (i9 : Int) (qop : Nat) (hqop : T qop = some (46, 400)) (qar : Nat) (hqar : T qar = some (47, 400)) (qpi : Nat) (hqpi : T qpi = some (48, 400)) (qpa : Nat) (hqpa : T qpa = some (49, 400)) (tm : Nat) (htm : T tm = some (44, 400)) (wd : Nat) (hwd : T wd = some (50, 9)) (gn : Int) (hgn : 0 ≤ gn ∧ gn ≤ 400) (gf : Int) (hgf : 0 ≤ gf ∧ gf ≤ 400) (gt : Int) (hgt : 0 ≤ gt ∧ gt ≤ 400) (gs : Int) (hgs : 0 ≤ gs ∧ gs ≤ 3) (gw : Int) (hgw : (-9223372036854775808) ≤ gw ∧ gw ≤ 9223372036854775807) (gb : Int) (hgb : 0 ≤ gb ∧ gb ≤ 1) (gc : Int) (hgc : 0 ≤ gc ∧ gc ≤ 400) (gp : Int) (hgp : 0 ≤ gp ∧ gp ≤ 400) (gx : Int) (hgx : (-2147483648) ≤ gx ∧ gx ≤ 2147483647) (gl : Int) (hgl : 0 ≤ gl ∧ gl ≤ 50) (go : Int) (hgo : 0 ≤ go ∧ go ≤ 8) (rop : Int → Int) (rar : Int → Int) (rpi : Int → Int) (rpa : Int → Int) (tp : Int → Int) (gW : Int → Int) (hq0 : (gb = 0)) (hq1 : (gc + gp ≤ gf)) (hq2 : (gf ≤ gt ∧ gt ≤ gn ∧ (gs = 0 → gf = gn) ∧ (gs ≠ 0 → gf < gt) ∧ (gs = 1 → 26 < gw → gf + 2 ≤ gt))) (hq3 : (tf_PI o0 u0 rop rar rpi rpa fs gc gp 0)) (hq4 : (tf_Q rpi gp)) (hq5 : (tf_CX tp gn ss pp mm gW)) (hq6 : (tf_RR tp gn ss pp mm rpi gf gt gs gw gp go k9 1 c9 S9)) : Met l yX10_readPart (cd_X10_readPart :: wsL_law) ({ frames := 5, cells := 0, slots := 0, locals := 108 }) (tf_P g T [.ref a0] (fun H => tf_s H a0 (g.1.2 10 18) = some (.ref qop) ∧ tf_s H a0 (g.1.2 10 19) = some (.ref qar) ∧ tf_s H a0 (g.1.2 10 21) = some (.ref qpi) ∧ tf_s H a0 (g.1.2 10 22) = some (.ref qpa) ∧ tf_s H a0 (g.1.2 10 8) = some (.int (Int32.ofInt gn)) ∧ tf_s H a0 (g.1.2 10 9) = some (.int (Int32.ofInt gf)) ∧ tf_s H a0 (g.1.2 10 10) = some (.int (Int32.ofInt gt)) ∧ tf_s H a0 (g.1.2 10 11) = some (.int (Int32.ofInt gs)) ∧ tf_s H a0 (g.1.2 10 12) = some (.long (Int64.ofInt gw)) ∧ tf_s H a0 (g.1.2 10 14) = some (.int (Int32.ofInt gb)) ∧ tf_s H a0 (g.1.2 10 17) = some (.int (Int32.ofInt gc)) ∧ tf_s H a0 (g.1.2 10 23) = some (.int (Int32.ofInt gp)) ∧ tf_s H a0 (g.1.2 10 13) = some (.int (Int32.ofInt gx)) ∧ tf_s H a0 (g.1.2 10 20) = some (.int (Int32.ofInt gl)) ∧ tf_s H a0 (g.1.2 10 24) = some (.int (Int32.ofInt go)) ∧ tf_rw H qop = rop ∧ tf_rw H qar = rar ∧ tf_rw H qpi = rpi ∧ tf_rw H qpa = rpa ∧ tf_s H a0 (g.1.2 10 7) = some (.ref tm) ∧ tf_rw H tm = tp ∧ tf_s H a0 (g.1.2 10 25) = some (.ref wd) ∧ tf_rw H wd = gW)) (tf_Qi g M_X10_readPart T (fun z _ H => 1 ≤ z ∧ z ≤ 3 ∧ (∃ (gb1 gf1 gt1 gs1 gw1 gc1 gp1 gx1 gl1 go1 : Int) (rop1 rar1 rpi1 rpa1 : Int → Int) , tf_s H a0 (g.1.2 10 14) = some (.int (Int32.ofInt gb1)) ∧ tf_s H a0 (g.1.2 10 9) = some (.int (Int32.ofInt gf1)) ∧ tf_s H a0 (g.1.2 10 10) = some (.int (Int32.ofInt gt1)) ∧ tf_s H a0 (g.1.2 10 11) = some (.int (Int32.ofInt gs1)) ∧ tf_s H a0 (g.1.2 10 12) = some (.long (Int64.ofInt gw1)) ∧ tf_s H a0 (g.1.2 10 17) = some (.int (Int32.ofInt gc1)) ∧ tf_s H a0 (g.1.2 10 23) = some (.int (Int32.ofInt gp1)) ∧ tf_s H a0 (g.1.2 10 13) = some (.int (Int32.ofInt gx1)) ∧ tf_s H a0 (g.1.2 10 20) = some (.int (Int32.ofInt gl1)) ∧ tf_s H a0 (g.1.2 10 24) = some (.int (Int32.ofInt go1)) ∧ tf_rw H qop = rop1 ∧ tf_rw H qar = rar1 ∧ tf_rw H qpi = rpi1 ∧ tf_rw H qpa = rpa1 ∧ (0 ≤ gb1 ∧ gb1 ≤ 1) ∧ (0 ≤ gf1 ∧ gf1 ≤ 400) ∧ (0 ≤ gt1 ∧ gt1 ≤ 400) ∧ (0 ≤ gs1 ∧ gs1 ≤ 3) ∧ ((-9223372036854775808) ≤ gw1 ∧ gw1 ≤ 9223372036854775807) ∧ (0 ≤ gc1 ∧ gc1 ≤ 400) ∧ (0 ≤ gp1 ∧ gp1 ≤ 400) ∧ ((-2147483648) ≤ gx1 ∧ gx1 ≤ 2147483647) ∧ (0 ≤ gl1 ∧ gl1 ≤ 50) ∧ (0 ≤ go1 ∧ go1 ≤ 8) ∧ (gf1 ≤ gt1 ∧ gt1 ≤ gn ∧ (gs1 = 0 → gf1 = gn) ∧ (gs1 ≠ 0 → gf1 < gt1) ∧ (gs1 = 1 → 26 < gw1 → gf1 + 2 ≤ gt1)) ∧ (gc1 + gp1 ≤ gf1) ∧ (tf_PB rpi1 rpa1 gp1) ∧ (gb1 = 1 ∨ tf_ST z o0 u0 rop1 rar1 rpi1 rpa1 fs gc1 gp1) ∧ (gf < gf1 ∨ (gf1 = gf ∧ (gb1 = 1))) ∧ (tf_ER tp gn ss pp mm (k9, 1, c9, S9, gl, e9, i9) gb1 z gx1 rpi1 gf1 gt1 gs1 gw1 gp1 gl1 go1 e9 i9) ∧ (gb1 = 1 ∨ gx1 = gx)))) 0 0 (fun q => tf_B g ≤ q) := by
  refine Met.ofW (cc := cX10_readPart) (maxL := 3) (ret := (some .int)) (by decide) rfl ?_
  intro p e s m args below meth c s₁ B hml hv
  obtain ⟨hargs, hk, hW0, hB, hpre⟩ := hv
  obtain ⟨he0, he1, he2, he3, he4, he5, he6, he7, he8, he9, he10, he11, he12, he13, he14, he15, he16, he17, he18, he19, he20, he21, he22⟩ := hpre
  have hx := B.exec
  have hb := B.bytes
  have hr := B.returns
  have hts : ∀ w ∈ wsL_law, w.before args s = true := fun w h => atoms_spec (ws := cd_X10_readPart :: wsL_law) B.pre w (List.mem_cons_of_mem _ h)
  have hown : s.vm.findClass RX10 = some m.cls := findClass_of_methodNamed B.named
  have hlocks := B.notSynchronized
  have hK := hk.1
  have hW := tf_n.start (M := M_X10_readPart) hW0 hB
  obtain ⟨Q, hQ⟩ : ∃ q, q = MQ below (tf_Qi g M_X10_readPart T (fun z _ H => 1 ≤ z ∧ z ≤ 3 ∧ (∃ (gb1 gf1 gt1 gs1 gw1 gc1 gp1 gx1 gl1 go1 : Int) (rop1 rar1 rpi1 rpa1 : Int → Int) , tf_s H a0 (g.1.2 10 14) = some (.int (Int32.ofInt gb1)) ∧ tf_s H a0 (g.1.2 10 9) = some (.int (Int32.ofInt gf1)) ∧ tf_s H a0 (g.1.2 10 10) = some (.int (Int32.ofInt gt1)) ∧ tf_s H a0 (g.1.2 10 11) = some (.int (Int32.ofInt gs1)) ∧ tf_s H a0 (g.1.2 10 12) = some (.long (Int64.ofInt gw1)) ∧ tf_s H a0 (g.1.2 10 17) = some (.int (Int32.ofInt gc1)) ∧ tf_s H a0 (g.1.2 10 23) = some (.int (Int32.ofInt gp1)) ∧ tf_s H a0 (g.1.2 10 13) = some (.int (Int32.ofInt gx1)) ∧ tf_s H a0 (g.1.2 10 20) = some (.int (Int32.ofInt gl1)) ∧ tf_s H a0 (g.1.2 10 24) = some (.int (Int32.ofInt go1)) ∧ tf_rw H qop = rop1 ∧ tf_rw H qar = rar1 ∧ tf_rw H qpi = rpi1 ∧ tf_rw H qpa = rpa1 ∧ (0 ≤ gb1 ∧ gb1 ≤ 1) ∧ (0 ≤ gf1 ∧ gf1 ≤ 400) ∧ (0 ≤ gt1 ∧ gt1 ≤ 400) ∧ (0 ≤ gs1 ∧ gs1 ≤ 3) ∧ ((-9223372036854775808) ≤ gw1 ∧ gw1 ≤ 9223372036854775807) ∧ (0 ≤ gc1 ∧ gc1 ≤ 400) ∧ (0 ≤ gp1 ∧ gp1 ≤ 400) ∧ ((-2147483648) ≤ gx1 ∧ gx1 ≤ 2147483647) ∧ (0 ≤ gl1 ∧ gl1 ≤ 50) ∧ (0 ≤ go1 ∧ go1 ≤ 8) ∧ (gf1 ≤ gt1 ∧ gt1 ≤ gn ∧ (gs1 = 0 → gf1 = gn) ∧ (gs1 ≠ 0 → gf1 < gt1) ∧ (gs1 = 1 → 26 < gw1 → gf1 + 2 ≤ gt1)) ∧ (gc1 + gp1 ≤ gf1) ∧ (tf_PB rpi1 rpa1 gp1) ∧ (gb1 = 1 ∨ tf_ST z o0 u0 rop1 rar1 rpi1 rpa1 fs gc1 gp1) ∧ (gf < gf1 ∨ (gf1 = gf ∧ (gb1 = 1))) ∧ (tf_ER tp gn ss pp mm (k9, 1, c9, S9, gl, e9, i9) gb1 z gx1 rpi1 gf1 gt1 gs1 gw1 gp1 gl1 go1 e9 i9) ∧ (gb1 = 1 ∨ gx1 = gx)))) args s 0 0 (fun q => tf_B g ≤ q) := ⟨_, rfl⟩
  rw [← hQ]
  obtain ⟨R, hR⟩ : ∃ q, q = (headSpec (cd_X10_readPart :: wsL_law) ({ frames := 5, cells := 0, slots := 0, locals := 108 })).room := ⟨_, rfl⟩
  rw [← hR]
  have hR1 : 5 ≤ R.frames := by rw [hR]; exact Nat.le_refl _
  have hR2 : 108 ≤ R.locals := by rw [hR]; exact Nat.le_refl _
  have hR3 : 0 ≤ R.cells := by rw [hR]; exact Nat.le_refl _
  have hR4 : 0 ≤ R.slots := by rw [hR]; exact Nat.le_refl _
  have hin := (name_of_methodNamed B.named B.method).1
  clear hR B
  refine tf_enter (As := [.ref a0]) hargs (Nat.le_of_ble_eq_true rfl) (fun ls hl => ?_)
  have hl : lv_has ls 3 [(0, .ref a0)] := hl
  refine lv_aload_n hx hb dX10_readPart_0 rfl (lv_at hl 0 rfl) ?_
  refine tf_bipush hx hb dX10_readPart_1 (by decide) ?_
  refine tf_calli (va_runV (As := [.int (Int32.ofInt 91)]) (rest := []) ⟨hx, hb, hml, hown, hts⟩ (c_X10_isSign l g T a0 ha0 (91) ⟨by omega, by omega⟩ (gs) ⟨by omega, by omega⟩ (gw) ⟨by omega, by omega⟩) (cwV 1 hts gv_X10_271 rfl rfl rfl hd_X10_isSign ⟨Nat.le_trans (by decide) hR1, Nat.le_trans (by decide) hR2⟩) (tf_preV hk hW ha0 (ci := 10) rfl rfl ⟨he7, he8⟩) rfl rfl hl.1 rfl (lv_room (Nat.le_of_ble_eq_true rfl)) dX10_readPart_3 ⟨Nat.zero_le _, Nat.zero_le _⟩) hW (by decide) (fun z1 H1 locs1 hW hF1 hp1 => ?_)
  have hs2 := tf_keepF hF1 ha0 rfl rfl (by decide) he0
  have hs3 := tf_keepF hF1 ha0 rfl rfl (by decide) he1
  have hs4 := tf_keepF hF1 ha0 rfl rfl (by decide) he2
  have hs5 := tf_keepF hF1 ha0 rfl rfl (by decide) he3
  have hs6 := tf_keepF hF1 ha0 rfl rfl (by decide) he4
  have hs7 := tf_keepF hF1 ha0 rfl rfl (by decide) he5
  have hs8 := tf_keepF hF1 ha0 rfl rfl (by decide) he6
  have hs9 := tf_keepF hF1 ha0 rfl rfl (by decide) he7
  have hs10 := tf_keepF hF1 ha0 rfl rfl (by decide) he8
  have hs11 := tf_keepF hF1 ha0 rfl rfl (by decide) he9
  have hs12 := tf_keepF hF1 ha0 rfl rfl (by decide) he10
  have hs13 := tf_keepF hF1 ha0 rfl rfl (by decide) he11
  have hs14 := tf_keepF hF1 ha0 rfl rfl (by decide) he12
  have hs15 := tf_keepF hF1 ha0 rfl rfl (by decide) he13
  have hs16 := tf_keepF hF1 ha0 rfl rfl (by decide) he14
  have hs17 := tf_keepC hF1 hqop rfl (by decide) he15
  have hs18 := tf_keepC hF1 hqar rfl (by decide) he16
  have hs19 := tf_keepC hF1 hqpi rfl (by decide) he17
  have hs20 := tf_keepC hF1 hqpa rfl (by decide) he18
  have hs21 := tf_keepF hF1 ha0 rfl rfl (by decide) he19
  have hs22 := tf_keepC hF1 htm rfl (by decide) he20
  have hs23 := tf_keepF hF1 ha0 rfl rfl (by decide) he21
  have hs24 := tf_keepC hF1 hwd rfl (by decide) he22
  rcases hp1 with ⟨rfl, h25⟩ | ⟨rfl, hn91⟩
  · refine tf_if_eq (tgt := 17) hx hb ⟨by decide, by decide⟩ dX10_readPart_6 (by decide) (fun h26 => ?_) (fun h26 => ?_)
    · exfalso; omega
    · refine lv_aload_n hx hb dX10_readPart_9 rfl (lv_at hl 0 rfl) ?_
      refine tf_bipush hx hb dX10_readPart_10 (by decide) ?_
      refine tf_callv (va_runV (As := [.int (Int32.ofInt 31)]) (rest := []) ⟨hx, hb, hml, hown, hts⟩ (c_X10_openBracket l g T a0 ha0 (31) ⟨by omega, by omega⟩ qpi hqpi qpa hqpa tm htm (gn) ⟨by omega, by omega⟩ (gf) ⟨by omega, by omega⟩ (gt) ⟨by omega, by omega⟩ (gs) ⟨by omega, by omega⟩ (gw) ⟨by omega, by omega⟩ (gb) ⟨by omega, by omega⟩ (gc) ⟨by omega, by omega⟩ (gp) ⟨by omega, by omega⟩ (gx) ⟨by omega, by omega⟩ (go) ⟨by omega, by omega⟩ rpi rpa tp (by first | assumption | omega) (by first | assumption | omega) (by first | assumption | omega) (by first | assumption | omega)) (cwV 1 hts gv_X10_274 rfl rfl rfl hd_X10_openBracket ⟨Nat.le_trans (by decide) hR1, Nat.le_trans (by decide) hR2⟩) (tf_preV hk hW ha0 (ci := 10) rfl rfl ⟨hs4, hs5, hs6, hs7, hs8, hs9, hs10, hs11, hs12, hs13, hs14, hs16, hs19, hs20, hs21, hs22⟩) rfl rfl hl.1 rfl (lv_room (Nat.le_of_ble_eq_true rfl)) dX10_readPart_12 ⟨Nat.zero_le _, Nat.zero_le _⟩) hW (by decide) (fun HB locsB hW hFB hpB => ?_)
      have hs27 := tf_keepF hFB ha0 rfl rfl (by decide) hs2
      have hs28 := tf_keepF hFB ha0 rfl rfl (by decide) hs3
      have hs29 := tf_keepF hFB ha0 rfl rfl (by decide) hs4
      have hs30 := tf_keepF hFB ha0 rfl rfl (by decide) hs5
      have hs31 := tf_keepF hFB ha0 rfl rfl (by decide) hs6
      have hs32 := tf_keepF hFB ha0 rfl rfl (by decide) hs12
      have hs33 := tf_keepF hFB ha0 rfl rfl (by decide) hs15
      have hs34 := tf_keepC hFB hqop rfl (by decide) hs17
      have hs35 := tf_keepC hFB hqar rfl (by decide) hs18
      have hs36 := tf_keepF hFB ha0 rfl rfl (by decide) hs21
      have hs37 := tf_keepC hFB htm rfl (by decide) hs22
      have hs38 := tf_keepF hFB ha0 rfl rfl (by decide) hs23
      have hs39 := tf_keepC hFB hwd rfl (by decide) hs24
      obtain ⟨gb1_B, gf1_B, gt1_B, gs1_B, gw1_B, gp1_B, gx1_B, go1_B, rpi1_B, rpa1_B, hXB_0, hXB_1, hXB_2, hXB_3, hXB_4, hXB_5, hXB_6, hXB_7, hXB_8, hXB_9, hBB_0, hBB_1, hBB_2, hBB_3, hBB_4, hBB_5, hBB_6, hBB_7, hRB_0, hRB_1, hRB_2, hRB_3, hRB_4⟩ := hpB
      refine tf_iconst hx hb dX10_readPart_15 ?_
      exact tf_reti (z := 1) hx hb hr hlocks hQ hW ⟨by omega, by omega, ⟨(gb1_B), (gf1_B), (gt1_B), (gs1_B), (gw1_B), (gc), (gp1_B), (gx1_B), (gl), (go1_B), rop, rar, rpi1_B, rpa1_B, hXB_0, hXB_1, hXB_2, hXB_3, hXB_4, hs32, hXB_5, hXB_6, hs33, hXB_7, hs34, hs35, hXB_8, hXB_9, ⟨by omega, by omega⟩, ⟨by omega, by omega⟩, ⟨by omega, by omega⟩, ⟨by omega, by omega⟩, ⟨by omega, by omega⟩, ⟨by omega, by omega⟩, ⟨by omega, by omega⟩, ⟨by omega, by omega⟩, ⟨by omega, by omega⟩, ⟨by omega, by omega⟩, (by first | assumption | omega), (by first | assumption | omega), (tf_ob hRB_2 hq3 hq4 (by omega)).1, (tf_ob hRB_2 hq3 hq4 (by omega)).2, (by first | assumption | omega), (tf_er_open1 hq5 hq6 (by omega) (by omega) hRB_3 hRB_2 (by omega)), (by first | assumption | omega)⟩⟩ dX10_readPart_16
  · refine tf_if_eq (tgt := 17) hx hb ⟨by decide, by decide⟩ dX10_readPart_6 (by decide) (fun h40 => ?_) (fun h40 => ?_)
    · refine lv_aload_n hx hb dX10_readPart_17 rfl (lv_at hl 0 rfl) ?_
      refine tf_calli (va_runV (As := []) (rest := []) ⟨hx, hb, hml, hown, hts⟩ (c_X10_partAt l g T a0 ha0 wd hwd (gs) ⟨by omega, by omega⟩ (gw) ⟨by omega, by omega⟩ gW) (cwV 0 hts gv_X10_277 rfl rfl rfl hd_X10_partAt ⟨Nat.le_trans (by decide) hR1, Nat.le_trans (by decide) hR2⟩) (tf_preV hk hW ha0 (ci := 10) rfl rfl ⟨hs9, hs10, hs23, hs24⟩) rfl rfl hl.1 rfl (lv_room (Nat.le_of_ble_eq_true rfl)) dX10_readPart_18 ⟨Nat.zero_le _, Nat.zero_le _⟩) hW (by decide) (fun zP HP locsP hW hFP hpP => ?_)
      have hs41 := tf_keepF hFP ha0 rfl rfl (by decide) hs2
      have hs42 := tf_keepF hFP ha0 rfl rfl (by decide) hs3
      have hs43 := tf_keepF hFP ha0 rfl rfl (by decide) hs4
      have hs44 := tf_keepF hFP ha0 rfl rfl (by decide) hs5
      have hs45 := tf_keepF hFP ha0 rfl rfl (by decide) hs6
      have hs46 := tf_keepF hFP ha0 rfl rfl (by decide) hs7
      have hs47 := tf_keepF hFP ha0 rfl rfl (by decide) hs8
      have hs48 := tf_keepF hFP ha0 rfl rfl (by decide) hs9
      have hs49 := tf_keepF hFP ha0 rfl rfl (by decide) hs10
      have hs50 := tf_keepF hFP ha0 rfl rfl (by decide) hs11
      have hs51 := tf_keepF hFP ha0 rfl rfl (by decide) hs12
      have hs52 := tf_keepF hFP ha0 rfl rfl (by decide) hs13
      have hs53 := tf_keepF hFP ha0 rfl rfl (by decide) hs14
      have hs54 := tf_keepF hFP ha0 rfl rfl (by decide) hs15
      have hs55 := tf_keepF hFP ha0 rfl rfl (by decide) hs16
      have hs56 := tf_keepC hFP hqop rfl (by decide) hs17
      have hs57 := tf_keepC hFP hqar rfl (by decide) hs18
      have hs58 := tf_keepC hFP hqpi rfl (by decide) hs19
      have hs59 := tf_keepC hFP hqpa rfl (by decide) hs20
      have hs60 := tf_keepF hFP ha0 rfl rfl (by decide) hs21
      have hs61 := tf_keepC hFP htm rfl (by decide) hs22
      have hs62 := tf_keepF hFP ha0 rfl rfl (by decide) hs23
      have hs63 := tf_keepC hFP hwd rfl (by decide) hs24
      obtain ⟨hpP_0, hpP_1, hpP_2, hpP_3⟩ := hpP
      refine lv_istore_n (lv' := [(1, .int (Int32.ofInt zP)), (0, .ref a0)]) hx hb dX10_readPart_21 rfl hl (by decide) rfl (fun ls hl => ?_)
      refine lv_aload_n hx hb dX10_readPart_22 rfl (lv_at hl 1 rfl) ?_
      refine tf_get hx hb hts inlX10 hown hK (ci := 10) rfl hW ha0 rfl 11 rfl (by decide) (hts _ fl_X10_220) dX10_readPart_23 (fun v64 hv64 hsv64 => ?_)
      obtain rfl : v64 = .int (Int32.ofInt gs) := Option.some.inj (hsv64.symm.trans hs48)
      refine tf_iconst hx hb dX10_readPart_26 ?_
      refine tf_icmp_ne (tgt := 45) hx hb ⟨by omega, by omega⟩ ⟨by decide, by decide⟩ dX10_readPart_27 (by decide) (fun h65 => ?_) (fun h65 => ?_)
      · refine tf_iconst hx hb dX10_readPart_45 ?_
        refine lv_istore_n (lv' := [(2, .int (Int32.ofInt 0)), (1, .int (Int32.ofInt zP)), (0, .ref a0)]) hx hb dX10_readPart_46 rfl hl (by decide) rfl (fun ls hl => ?_)
        refine lv_aload_n hx hb dX10_readPart_47 rfl (lv_at hl 2 rfl) ?_
        refine lv_iload_n hx hb dX10_readPart_48 rfl (lv_at hl 1 rfl) ?_
        refine tf_iconst hx hb dX10_readPart_49 ?_
        refine tf_icmp_ne (tgt := 57) hx hb ⟨by omega, by omega⟩ ⟨by decide, by decide⟩ dX10_readPart_50 (by decide) (fun h66 => ?_) (fun h66 => ?_)
        · refine tf_iconst hx hb dX10_readPart_57 ?_
          refine lv_goto (tgt := 62) hx hb dX10_readPart_58 (by decide) ?_
          refine lv_iload_n hx hb dX10_readPart_62 rfl (lv_at hl 1 rfl) ?_
          refine tf_iconst hx hb dX10_readPart_63 ?_
          refine tf_icmp_ne (tgt := 71) hx hb ⟨by omega, by omega⟩ ⟨by decide, by decide⟩ dX10_readPart_64 (by decide) (fun h67 => ?_) (fun h67 => ?_)
          · refine lv_iload_n hx hb dX10_readPart_71 rfl (lv_at hl 1 rfl) ?_
            refine lv_iload_n hx hb dX10_readPart_72 rfl (lv_at hl 0 rfl) ?_
            refine tf_if_eq (tgt := 84) hx hb ⟨by decide, by decide⟩ dX10_readPart_73 (by decide) (fun h68 => ?_) (fun h68 => ?_)
            · refine tf_iconst hx hb dX10_readPart_84 ?_
              refine tf_callv (va_runV (As := [.int (Int32.ofInt 1), .int (Int32.ofInt zP), .int (Int32.ofInt 0)]) (rest := []) ⟨hx, hb, hml, hown, hts⟩ (c_X10_leaf l g T a0 ha0 (1) ⟨by omega, by omega⟩ (zP) ⟨by omega, by omega⟩ (0) ⟨by omega, by omega⟩ qop hqop qar hqar tm htm (gn) ⟨by omega, by omega⟩ (gf) ⟨by omega, by omega⟩ (gt) ⟨by omega, by omega⟩ (gs) ⟨by omega, by omega⟩ (gw) ⟨by omega, by omega⟩ (gb) ⟨by omega, by omega⟩ (gc) ⟨by omega, by omega⟩ (gp) ⟨by omega, by omega⟩ (gx) ⟨by omega, by omega⟩ (gl) ⟨by omega, by omega⟩ rop rar tp (by first | assumption | omega) (by first | assumption | omega) (by first | assumption | omega) (by first | assumption | omega)) (cwV 3 hts gv_X10_282 rfl rfl rfl hd_X10_leaf ⟨Nat.le_trans (by decide) hR1, Nat.le_trans (by decide) hR2⟩) (tf_preV hk hW ha0 (ci := 10) rfl rfl ⟨hs41, hs42, hs45, hs46, hs47, hs48, hs49, hs50, hs51, hs52, hs53, hs54, hs56, hs57, hs60, hs61⟩) rfl rfl hl.1 rfl (lv_room (Nat.le_of_ble_eq_true rfl)) dX10_readPart_85 ⟨Nat.zero_le _, Nat.zero_le _⟩) hW (by decide) (fun HF locsF hW hFF hpF => ?_)
              have hs69 := tf_keepF hFF ha0 rfl rfl (by decide) hs41
              have hs70 := tf_keepF hFF ha0 rfl rfl (by decide) hs42
              have hs71 := tf_keepF hFF ha0 rfl rfl (by decide) hs43
              have hs72 := tf_keepF hFF ha0 rfl rfl (by decide) hs44
              have hs73 := tf_keepF hFF ha0 rfl rfl (by decide) hs45
              have hs74 := tf_keepF hFF ha0 rfl rfl (by decide) hs52
              have hs75 := tf_keepF hFF ha0 rfl rfl (by decide) hs55
              have hs76 := tf_keepC hFF hqpi rfl (by decide) hs58
              have hs77 := tf_keepC hFF hqpa rfl (by decide) hs59
              have hs78 := tf_keepF hFF ha0 rfl rfl (by decide) hs60
              have hs79 := tf_keepC hFF htm rfl (by decide) hs61
              have hs80 := tf_keepF hFF ha0 rfl rfl (by decide) hs62
              have hs81 := tf_keepC hFF hwd rfl (by decide) hs63
              obtain ⟨gb1_F, gf1_F, gt1_F, gs1_F, gw1_F, gc1_F, gx1_F, gl1_F, rop1_F, rar1_F, hXF_0, hXF_1, hXF_2, hXF_3, hXF_4, hXF_5, hXF_6, hXF_7, hXF_8, hXF_9, hBF_0, hBF_1, hBF_2, hBF_3, hBF_4, hBF_5, hBF_6, hBF_7, hRF_0, hRF_1, hRF_2, hRF_3, hRF_4⟩ := hpF
              refine tf_iconst hx hb dX10_readPart_88 ?_
              exact tf_reti (z := 3) hx hb hr hlocks hQ hW ⟨by omega, by omega, ⟨(gb1_F), (gf1_F), (gt1_F), (gs1_F), (gw1_F), (gc1_F), (gp), (gx1_F), (gl1_F), (go), rop1_F, rar1_F, rpi, rpa, hXF_0, hXF_1, hXF_2, hXF_3, hXF_4, hXF_5, hs74, hXF_6, hXF_7, hs75, hXF_8, hXF_9, hs76, hs77, ⟨by omega, by omega⟩, ⟨by omega, by omega⟩, ⟨by omega, by omega⟩, ⟨by omega, by omega⟩, ⟨by omega, by omega⟩, ⟨by omega, by omega⟩, ⟨by omega, by omega⟩, ⟨by omega, by omega⟩, ⟨by omega, by omega⟩, ⟨by omega, by omega⟩, (by first | assumption | omega), (by first | assumption | omega), (tf_lf hRF_2 hq3 hq4 (by omega) (by omega) (by omega)).1, (tf_lf hRF_2 hq3 hq4 (by omega) (by omega) (by omega)).2, (by first | assumption | omega), (tf_er_leaf hq5 hq6 hn91 hpP_2 (by omega) hRF_3), (by first | assumption | omega)⟩⟩ dX10_readPart_89
            · exfalso; omega
          · exfalso; omega
        · refine lv_iload_n hx hb dX10_readPart_53 rfl (lv_at hl 0 rfl) ?_
          refine tf_if_eq (tgt := 61) hx hb ⟨by decide, by decide⟩ dX10_readPart_54 (by decide) (fun h82 => ?_) (fun h82 => ?_)
          · refine tf_iconst hx hb dX10_readPart_61 ?_
            refine lv_iload_n hx hb dX10_readPart_62 rfl (lv_at hl 1 rfl) ?_
            refine tf_iconst hx hb dX10_readPart_63 ?_
            refine tf_icmp_ne (tgt := 71) hx hb ⟨by omega, by omega⟩ ⟨by decide, by decide⟩ dX10_readPart_64 (by decide) (fun h83 => ?_) (fun h83 => ?_)
            · exfalso; omega
            · refine tf_iconst hx hb dX10_readPart_67 ?_
              refine lv_goto (tgt := 72) hx hb dX10_readPart_68 (by decide) ?_
              refine lv_iload_n hx hb dX10_readPart_72 rfl (lv_at hl 0 rfl) ?_
              refine tf_if_eq (tgt := 84) hx hb ⟨by decide, by decide⟩ dX10_readPart_73 (by decide) (fun h84 => ?_) (fun h84 => ?_)
              · refine tf_iconst hx hb dX10_readPart_84 ?_
                refine tf_callv (va_runV (As := [.int (Int32.ofInt 0), .int (Int32.ofInt 0), .int (Int32.ofInt 0)]) (rest := []) ⟨hx, hb, hml, hown, hts⟩ (c_X10_leaf l g T a0 ha0 (0) ⟨by omega, by omega⟩ (0) ⟨by omega, by omega⟩ (0) ⟨by omega, by omega⟩ qop hqop qar hqar tm htm (gn) ⟨by omega, by omega⟩ (gf) ⟨by omega, by omega⟩ (gt) ⟨by omega, by omega⟩ (gs) ⟨by omega, by omega⟩ (gw) ⟨by omega, by omega⟩ (gb) ⟨by omega, by omega⟩ (gc) ⟨by omega, by omega⟩ (gp) ⟨by omega, by omega⟩ (gx) ⟨by omega, by omega⟩ (gl) ⟨by omega, by omega⟩ rop rar tp (by first | assumption | omega) (by first | assumption | omega) (by first | assumption | omega) (by first | assumption | omega)) (cwV 3 hts gv_X10_282 rfl rfl rfl hd_X10_leaf ⟨Nat.le_trans (by decide) hR1, Nat.le_trans (by decide) hR2⟩) (tf_preV hk hW ha0 (ci := 10) rfl rfl ⟨hs41, hs42, hs45, hs46, hs47, hs48, hs49, hs50, hs51, hs52, hs53, hs54, hs56, hs57, hs60, hs61⟩) rfl rfl hl.1 rfl (lv_room (Nat.le_of_ble_eq_true rfl)) dX10_readPart_85 ⟨Nat.zero_le _, Nat.zero_le _⟩) hW (by decide) (fun HF locsF hW hFF hpF => ?_)
                have hs85 := tf_keepF hFF ha0 rfl rfl (by decide) hs41
                have hs86 := tf_keepF hFF ha0 rfl rfl (by decide) hs42
                have hs87 := tf_keepF hFF ha0 rfl rfl (by decide) hs43
                have hs88 := tf_keepF hFF ha0 rfl rfl (by decide) hs44
                have hs89 := tf_keepF hFF ha0 rfl rfl (by decide) hs45
                have hs90 := tf_keepF hFF ha0 rfl rfl (by decide) hs52
                have hs91 := tf_keepF hFF ha0 rfl rfl (by decide) hs55
                have hs92 := tf_keepC hFF hqpi rfl (by decide) hs58
                have hs93 := tf_keepC hFF hqpa rfl (by decide) hs59
                have hs94 := tf_keepF hFF ha0 rfl rfl (by decide) hs60
                have hs95 := tf_keepC hFF htm rfl (by decide) hs61
                have hs96 := tf_keepF hFF ha0 rfl rfl (by decide) hs62
                have hs97 := tf_keepC hFF hwd rfl (by decide) hs63
                obtain ⟨gb1_F, gf1_F, gt1_F, gs1_F, gw1_F, gc1_F, gx1_F, gl1_F, rop1_F, rar1_F, hXF_0, hXF_1, hXF_2, hXF_3, hXF_4, hXF_5, hXF_6, hXF_7, hXF_8, hXF_9, hBF_0, hBF_1, hBF_2, hBF_3, hBF_4, hBF_5, hBF_6, hBF_7, hRF_0, hRF_1, hRF_2, hRF_3, hRF_4⟩ := hpF
                refine tf_iconst hx hb dX10_readPart_88 ?_
                exact tf_reti (z := 3) hx hb hr hlocks hQ hW ⟨by omega, by omega, ⟨(gb1_F), (gf1_F), (gt1_F), (gs1_F), (gw1_F), (gc1_F), (gp), (gx1_F), (gl1_F), (go), rop1_F, rar1_F, rpi, rpa, hXF_0, hXF_1, hXF_2, hXF_3, hXF_4, hXF_5, hs90, hXF_6, hXF_7, hs91, hXF_8, hXF_9, hs92, hs93, ⟨by omega, by omega⟩, ⟨by omega, by omega⟩, ⟨by omega, by omega⟩, ⟨by omega, by omega⟩, ⟨by omega, by omega⟩, ⟨by omega, by omega⟩, ⟨by omega, by omega⟩, ⟨by omega, by omega⟩, ⟨by omega, by omega⟩, ⟨by omega, by omega⟩, (by first | assumption | omega), (by first | assumption | omega), (tf_lf hRF_2 hq3 hq4 (by omega) (by omega) (by omega)).1, (tf_lf hRF_2 hq3 hq4 (by omega) (by omega) (by omega)).2, (by first | assumption | omega), (tf_er_leaf hq5 hq6 hn91 hpP_2 (by omega) hRF_3), (by first | assumption | omega)⟩⟩ dX10_readPart_89
              · exfalso; omega
          · exfalso; omega
      · refine lv_aload_n hx hb dX10_readPart_30 rfl (lv_at hl 1 rfl) ?_
        refine tf_get hx hb hts inlX10 hown hK (ci := 10) rfl hW ha0 rfl 12 rfl (by decide) (hts _ fl_X10_210) dX10_readPart_31 (fun v98 hv98 hsv98 => ?_)
        obtain rfl : v98 = .long (Int64.ofInt gw) := Option.some.inj (hsv98.symm.trans hs49)
        refine tf_ldc2 (z := 1000) hx hb hown (hts _ kl_X10_280) (by decide) dX10_readPart_34 ?_
        refine tf_lcmp hx hb ⟨by omega, by omega⟩ ⟨by omega, by omega⟩ dX10_readPart_37 (fun z99 hz99 => ?_)
        refine tf_if_gt (tgt := 45) hx hb ⟨by omega, by omega⟩ dX10_readPart_38 (by decide) (fun h100 => ?_) (fun h100 => ?_)
        · refine tf_iconst hx hb dX10_readPart_45 ?_
          refine lv_istore_n (lv' := [(2, .int (Int32.ofInt 0)), (1, .int (Int32.ofInt zP)), (0, .ref a0)]) hx hb dX10_readPart_46 rfl hl (by decide) rfl (fun ls hl => ?_)
          refine lv_aload_n hx hb dX10_readPart_47 rfl (lv_at hl 2 rfl) ?_
          refine lv_iload_n hx hb dX10_readPart_48 rfl (lv_at hl 1 rfl) ?_
          refine tf_iconst hx hb dX10_readPart_49 ?_
          refine tf_icmp_ne (tgt := 57) hx hb ⟨by omega, by omega⟩ ⟨by decide, by decide⟩ dX10_readPart_50 (by decide) (fun h101 => ?_) (fun h101 => ?_)
          · refine tf_iconst hx hb dX10_readPart_57 ?_
            refine lv_goto (tgt := 62) hx hb dX10_readPart_58 (by decide) ?_
            refine lv_iload_n hx hb dX10_readPart_62 rfl (lv_at hl 1 rfl) ?_
            refine tf_iconst hx hb dX10_readPart_63 ?_
            refine tf_icmp_ne (tgt := 71) hx hb ⟨by omega, by omega⟩ ⟨by decide, by decide⟩ dX10_readPart_64 (by decide) (fun h102 => ?_) (fun h102 => ?_)
            · refine lv_iload_n hx hb dX10_readPart_71 rfl (lv_at hl 1 rfl) ?_
              refine lv_iload_n hx hb dX10_readPart_72 rfl (lv_at hl 0 rfl) ?_
              refine tf_if_eq (tgt := 84) hx hb ⟨by decide, by decide⟩ dX10_readPart_73 (by decide) (fun h103 => ?_) (fun h103 => ?_)
              · refine tf_iconst hx hb dX10_readPart_84 ?_
                refine tf_callv (va_runV (As := [.int (Int32.ofInt 1), .int (Int32.ofInt zP), .int (Int32.ofInt 0)]) (rest := []) ⟨hx, hb, hml, hown, hts⟩ (c_X10_leaf l g T a0 ha0 (1) ⟨by omega, by omega⟩ (zP) ⟨by omega, by omega⟩ (0) ⟨by omega, by omega⟩ qop hqop qar hqar tm htm (gn) ⟨by omega, by omega⟩ (gf) ⟨by omega, by omega⟩ (gt) ⟨by omega, by omega⟩ (gs) ⟨by omega, by omega⟩ (gw) ⟨by omega, by omega⟩ (gb) ⟨by omega, by omega⟩ (gc) ⟨by omega, by omega⟩ (gp) ⟨by omega, by omega⟩ (gx) ⟨by omega, by omega⟩ (gl) ⟨by omega, by omega⟩ rop rar tp (by first | assumption | omega) (by first | assumption | omega) (by first | assumption | omega) (by first | assumption | omega)) (cwV 3 hts gv_X10_282 rfl rfl rfl hd_X10_leaf ⟨Nat.le_trans (by decide) hR1, Nat.le_trans (by decide) hR2⟩) (tf_preV hk hW ha0 (ci := 10) rfl rfl ⟨hs41, hs42, hs45, hs46, hs47, hs48, hs49, hs50, hs51, hs52, hs53, hs54, hs56, hs57, hs60, hs61⟩) rfl rfl hl.1 rfl (lv_room (Nat.le_of_ble_eq_true rfl)) dX10_readPart_85 ⟨Nat.zero_le _, Nat.zero_le _⟩) hW (by decide) (fun HF locsF hW hFF hpF => ?_)
                have hs104 := tf_keepF hFF ha0 rfl rfl (by decide) hs41
                have hs105 := tf_keepF hFF ha0 rfl rfl (by decide) hs42
                have hs106 := tf_keepF hFF ha0 rfl rfl (by decide) hs43
                have hs107 := tf_keepF hFF ha0 rfl rfl (by decide) hs44
                have hs108 := tf_keepF hFF ha0 rfl rfl (by decide) hs45
                have hs109 := tf_keepF hFF ha0 rfl rfl (by decide) hs52
                have hs110 := tf_keepF hFF ha0 rfl rfl (by decide) hs55
                have hs111 := tf_keepC hFF hqpi rfl (by decide) hs58
                have hs112 := tf_keepC hFF hqpa rfl (by decide) hs59
                have hs113 := tf_keepF hFF ha0 rfl rfl (by decide) hs60
                have hs114 := tf_keepC hFF htm rfl (by decide) hs61
                have hs115 := tf_keepF hFF ha0 rfl rfl (by decide) hs62
                have hs116 := tf_keepC hFF hwd rfl (by decide) hs63
                obtain ⟨gb1_F, gf1_F, gt1_F, gs1_F, gw1_F, gc1_F, gx1_F, gl1_F, rop1_F, rar1_F, hXF_0, hXF_1, hXF_2, hXF_3, hXF_4, hXF_5, hXF_6, hXF_7, hXF_8, hXF_9, hBF_0, hBF_1, hBF_2, hBF_3, hBF_4, hBF_5, hBF_6, hBF_7, hRF_0, hRF_1, hRF_2, hRF_3, hRF_4⟩ := hpF
                refine tf_iconst hx hb dX10_readPart_88 ?_
                exact tf_reti (z := 3) hx hb hr hlocks hQ hW ⟨by omega, by omega, ⟨(gb1_F), (gf1_F), (gt1_F), (gs1_F), (gw1_F), (gc1_F), (gp), (gx1_F), (gl1_F), (go), rop1_F, rar1_F, rpi, rpa, hXF_0, hXF_1, hXF_2, hXF_3, hXF_4, hXF_5, hs109, hXF_6, hXF_7, hs110, hXF_8, hXF_9, hs111, hs112, ⟨by omega, by omega⟩, ⟨by omega, by omega⟩, ⟨by omega, by omega⟩, ⟨by omega, by omega⟩, ⟨by omega, by omega⟩, ⟨by omega, by omega⟩, ⟨by omega, by omega⟩, ⟨by omega, by omega⟩, ⟨by omega, by omega⟩, ⟨by omega, by omega⟩, (by first | assumption | omega), (by first | assumption | omega), (tf_lf hRF_2 hq3 hq4 (by omega) (by omega) (by omega)).1, (tf_lf hRF_2 hq3 hq4 (by omega) (by omega) (by omega)).2, (by first | assumption | omega), (tf_er_leaf hq5 hq6 hn91 hpP_2 (by omega) hRF_3), (by first | assumption | omega)⟩⟩ dX10_readPart_89
              · exfalso; omega
            · exfalso; omega
          · refine lv_iload_n hx hb dX10_readPart_53 rfl (lv_at hl 0 rfl) ?_
            refine tf_if_eq (tgt := 61) hx hb ⟨by decide, by decide⟩ dX10_readPart_54 (by decide) (fun h117 => ?_) (fun h117 => ?_)
            · refine tf_iconst hx hb dX10_readPart_61 ?_
              refine lv_iload_n hx hb dX10_readPart_62 rfl (lv_at hl 1 rfl) ?_
              refine tf_iconst hx hb dX10_readPart_63 ?_
              refine tf_icmp_ne (tgt := 71) hx hb ⟨by omega, by omega⟩ ⟨by decide, by decide⟩ dX10_readPart_64 (by decide) (fun h118 => ?_) (fun h118 => ?_)
              · exfalso; omega
              · refine tf_iconst hx hb dX10_readPart_67 ?_
                refine lv_goto (tgt := 72) hx hb dX10_readPart_68 (by decide) ?_
                refine lv_iload_n hx hb dX10_readPart_72 rfl (lv_at hl 0 rfl) ?_
                refine tf_if_eq (tgt := 84) hx hb ⟨by decide, by decide⟩ dX10_readPart_73 (by decide) (fun h119 => ?_) (fun h119 => ?_)
                · refine tf_iconst hx hb dX10_readPart_84 ?_
                  refine tf_callv (va_runV (As := [.int (Int32.ofInt 0), .int (Int32.ofInt 0), .int (Int32.ofInt 0)]) (rest := []) ⟨hx, hb, hml, hown, hts⟩ (c_X10_leaf l g T a0 ha0 (0) ⟨by omega, by omega⟩ (0) ⟨by omega, by omega⟩ (0) ⟨by omega, by omega⟩ qop hqop qar hqar tm htm (gn) ⟨by omega, by omega⟩ (gf) ⟨by omega, by omega⟩ (gt) ⟨by omega, by omega⟩ (gs) ⟨by omega, by omega⟩ (gw) ⟨by omega, by omega⟩ (gb) ⟨by omega, by omega⟩ (gc) ⟨by omega, by omega⟩ (gp) ⟨by omega, by omega⟩ (gx) ⟨by omega, by omega⟩ (gl) ⟨by omega, by omega⟩ rop rar tp (by first | assumption | omega) (by first | assumption | omega) (by first | assumption | omega) (by first | assumption | omega)) (cwV 3 hts gv_X10_282 rfl rfl rfl hd_X10_leaf ⟨Nat.le_trans (by decide) hR1, Nat.le_trans (by decide) hR2⟩) (tf_preV hk hW ha0 (ci := 10) rfl rfl ⟨hs41, hs42, hs45, hs46, hs47, hs48, hs49, hs50, hs51, hs52, hs53, hs54, hs56, hs57, hs60, hs61⟩) rfl rfl hl.1 rfl (lv_room (Nat.le_of_ble_eq_true rfl)) dX10_readPart_85 ⟨Nat.zero_le _, Nat.zero_le _⟩) hW (by decide) (fun HF locsF hW hFF hpF => ?_)
                  have hs120 := tf_keepF hFF ha0 rfl rfl (by decide) hs41
                  have hs121 := tf_keepF hFF ha0 rfl rfl (by decide) hs42
                  have hs122 := tf_keepF hFF ha0 rfl rfl (by decide) hs43
                  have hs123 := tf_keepF hFF ha0 rfl rfl (by decide) hs44
                  have hs124 := tf_keepF hFF ha0 rfl rfl (by decide) hs45
                  have hs125 := tf_keepF hFF ha0 rfl rfl (by decide) hs52
                  have hs126 := tf_keepF hFF ha0 rfl rfl (by decide) hs55
                  have hs127 := tf_keepC hFF hqpi rfl (by decide) hs58
                  have hs128 := tf_keepC hFF hqpa rfl (by decide) hs59
                  have hs129 := tf_keepF hFF ha0 rfl rfl (by decide) hs60
                  have hs130 := tf_keepC hFF htm rfl (by decide) hs61
                  have hs131 := tf_keepF hFF ha0 rfl rfl (by decide) hs62
                  have hs132 := tf_keepC hFF hwd rfl (by decide) hs63
                  obtain ⟨gb1_F, gf1_F, gt1_F, gs1_F, gw1_F, gc1_F, gx1_F, gl1_F, rop1_F, rar1_F, hXF_0, hXF_1, hXF_2, hXF_3, hXF_4, hXF_5, hXF_6, hXF_7, hXF_8, hXF_9, hBF_0, hBF_1, hBF_2, hBF_3, hBF_4, hBF_5, hBF_6, hBF_7, hRF_0, hRF_1, hRF_2, hRF_3, hRF_4⟩ := hpF
                  refine tf_iconst hx hb dX10_readPart_88 ?_
                  exact tf_reti (z := 3) hx hb hr hlocks hQ hW ⟨by omega, by omega, ⟨(gb1_F), (gf1_F), (gt1_F), (gs1_F), (gw1_F), (gc1_F), (gp), (gx1_F), (gl1_F), (go), rop1_F, rar1_F, rpi, rpa, hXF_0, hXF_1, hXF_2, hXF_3, hXF_4, hXF_5, hs125, hXF_6, hXF_7, hs126, hXF_8, hXF_9, hs127, hs128, ⟨by omega, by omega⟩, ⟨by omega, by omega⟩, ⟨by omega, by omega⟩, ⟨by omega, by omega⟩, ⟨by omega, by omega⟩, ⟨by omega, by omega⟩, ⟨by omega, by omega⟩, ⟨by omega, by omega⟩, ⟨by omega, by omega⟩, ⟨by omega, by omega⟩, (by first | assumption | omega), (by first | assumption | omega), (tf_lf hRF_2 hq3 hq4 (by omega) (by omega) (by omega)).1, (tf_lf hRF_2 hq3 hq4 (by omega) (by omega) (by omega)).2, (by first | assumption | omega), (tf_er_leaf hq5 hq6 hn91 hpP_2 (by omega) hRF_3), (by first | assumption | omega)⟩⟩ dX10_readPart_89
                · exfalso; omega
            · exfalso; omega
        · refine tf_iconst hx hb dX10_readPart_41 ?_
          refine lv_goto (tgt := 46) hx hb dX10_readPart_42 (by decide) ?_
          refine lv_istore_n (lv' := [(2, .int (Int32.ofInt 1)), (1, .int (Int32.ofInt zP)), (0, .ref a0)]) hx hb dX10_readPart_46 rfl hl (by decide) rfl (fun ls hl => ?_)
          refine lv_aload_n hx hb dX10_readPart_47 rfl (lv_at hl 2 rfl) ?_
          refine lv_iload_n hx hb dX10_readPart_48 rfl (lv_at hl 1 rfl) ?_
          refine tf_iconst hx hb dX10_readPart_49 ?_
          refine tf_icmp_ne (tgt := 57) hx hb ⟨by omega, by omega⟩ ⟨by decide, by decide⟩ dX10_readPart_50 (by decide) (fun h133 => ?_) (fun h133 => ?_)
          · refine tf_iconst hx hb dX10_readPart_57 ?_
            refine lv_goto (tgt := 62) hx hb dX10_readPart_58 (by decide) ?_
            refine lv_iload_n hx hb dX10_readPart_62 rfl (lv_at hl 1 rfl) ?_
            refine tf_iconst hx hb dX10_readPart_63 ?_
            refine tf_icmp_ne (tgt := 71) hx hb ⟨by omega, by omega⟩ ⟨by decide, by decide⟩ dX10_readPart_64 (by decide) (fun h134 => ?_) (fun h134 => ?_)
            · refine lv_iload_n hx hb dX10_readPart_71 rfl (lv_at hl 1 rfl) ?_
              refine lv_iload_n hx hb dX10_readPart_72 rfl (lv_at hl 0 rfl) ?_
              refine tf_if_eq (tgt := 84) hx hb ⟨by decide, by decide⟩ dX10_readPart_73 (by decide) (fun h135 => ?_) (fun h135 => ?_)
              · exfalso; omega
              · refine lv_aload_n hx hb dX10_readPart_76 rfl (lv_at hl 2 rfl) ?_
                refine tf_get hx hb hts inlX10 hown hK (ci := 10) rfl hW ha0 rfl 12 rfl (by decide) (hts _ fl_X10_210) dX10_readPart_77 (fun v136 hv136 hsv136 => ?_)
                obtain rfl : v136 = .long (Int64.ofInt gw) := Option.some.inj (hsv136.symm.trans hs49)
                refine tf_l2i_any hx hb dX10_readPart_80 (fun z137 hz137 => ?_)
                refine lv_goto (tgt := 85) hx hb dX10_readPart_81 (by decide) ?_
                refine tf_callv (va_runV (As := [.int (Int32.ofInt 1), .int (Int32.ofInt zP), .int (Int32.ofInt z137)]) (rest := []) ⟨hx, hb, hml, hown, hts⟩ (c_X10_leaf l g T a0 ha0 (1) ⟨by omega, by omega⟩ (zP) ⟨by omega, by omega⟩ (z137) ⟨by omega, by omega⟩ qop hqop qar hqar tm htm (gn) ⟨by omega, by omega⟩ (gf) ⟨by omega, by omega⟩ (gt) ⟨by omega, by omega⟩ (gs) ⟨by omega, by omega⟩ (gw) ⟨by omega, by omega⟩ (gb) ⟨by omega, by omega⟩ (gc) ⟨by omega, by omega⟩ (gp) ⟨by omega, by omega⟩ (gx) ⟨by omega, by omega⟩ (gl) ⟨by omega, by omega⟩ rop rar tp (by first | assumption | omega) (by first | assumption | omega) (by first | assumption | omega) (by first | assumption | omega)) (cwV 3 hts gv_X10_282 rfl rfl rfl hd_X10_leaf ⟨Nat.le_trans (by decide) hR1, Nat.le_trans (by decide) hR2⟩) (tf_preV hk hW ha0 (ci := 10) rfl rfl ⟨hs41, hs42, hs45, hs46, hs47, hs48, hs49, hs50, hs51, hs52, hs53, hs54, hs56, hs57, hs60, hs61⟩) rfl rfl hl.1 rfl (lv_room (Nat.le_of_ble_eq_true rfl)) dX10_readPart_85 ⟨Nat.zero_le _, Nat.zero_le _⟩) hW (by decide) (fun HF locsF hW hFF hpF => ?_)
                have hs138 := tf_keepF hFF ha0 rfl rfl (by decide) hs41
                have hs139 := tf_keepF hFF ha0 rfl rfl (by decide) hs42
                have hs140 := tf_keepF hFF ha0 rfl rfl (by decide) hs43
                have hs141 := tf_keepF hFF ha0 rfl rfl (by decide) hs44
                have hs142 := tf_keepF hFF ha0 rfl rfl (by decide) hs45
                have hs143 := tf_keepF hFF ha0 rfl rfl (by decide) hs52
                have hs144 := tf_keepF hFF ha0 rfl rfl (by decide) hs55
                have hs145 := tf_keepC hFF hqpi rfl (by decide) hs58
                have hs146 := tf_keepC hFF hqpa rfl (by decide) hs59
                have hs147 := tf_keepF hFF ha0 rfl rfl (by decide) hs60
                have hs148 := tf_keepC hFF htm rfl (by decide) hs61
                have hs149 := tf_keepF hFF ha0 rfl rfl (by decide) hs62
                have hs150 := tf_keepC hFF hwd rfl (by decide) hs63
                obtain ⟨gb1_F, gf1_F, gt1_F, gs1_F, gw1_F, gc1_F, gx1_F, gl1_F, rop1_F, rar1_F, hXF_0, hXF_1, hXF_2, hXF_3, hXF_4, hXF_5, hXF_6, hXF_7, hXF_8, hXF_9, hBF_0, hBF_1, hBF_2, hBF_3, hBF_4, hBF_5, hBF_6, hBF_7, hRF_0, hRF_1, hRF_2, hRF_3, hRF_4⟩ := hpF
                refine tf_iconst hx hb dX10_readPart_88 ?_
                exact tf_reti (z := 3) hx hb hr hlocks hQ hW ⟨by omega, by omega, ⟨(gb1_F), (gf1_F), (gt1_F), (gs1_F), (gw1_F), (gc1_F), (gp), (gx1_F), (gl1_F), (go), rop1_F, rar1_F, rpi, rpa, hXF_0, hXF_1, hXF_2, hXF_3, hXF_4, hXF_5, hs143, hXF_6, hXF_7, hs144, hXF_8, hXF_9, hs145, hs146, ⟨by omega, by omega⟩, ⟨by omega, by omega⟩, ⟨by omega, by omega⟩, ⟨by omega, by omega⟩, ⟨by omega, by omega⟩, ⟨by omega, by omega⟩, ⟨by omega, by omega⟩, ⟨by omega, by omega⟩, ⟨by omega, by omega⟩, ⟨by omega, by omega⟩, (by first | assumption | omega), (by first | assumption | omega), (tf_lf hRF_2 hq3 hq4 (by omega) (by omega) (by omega)).1, (tf_lf hRF_2 hq3 hq4 (by omega) (by omega) (by omega)).2, (by first | assumption | omega), (tf_er_leaf hq5 hq6 hn91 hpP_2 (by omega) hRF_3), (by first | assumption | omega)⟩⟩ dX10_readPart_89
            · exfalso; omega
          · refine lv_iload_n hx hb dX10_readPart_53 rfl (lv_at hl 0 rfl) ?_
            refine tf_if_eq (tgt := 61) hx hb ⟨by decide, by decide⟩ dX10_readPart_54 (by decide) (fun h151 => ?_) (fun h151 => ?_)
            · exfalso; omega
            · refine tf_iconst hx hb dX10_readPart_57 ?_
              refine lv_goto (tgt := 62) hx hb dX10_readPart_58 (by decide) ?_
              refine lv_iload_n hx hb dX10_readPart_62 rfl (lv_at hl 1 rfl) ?_
              refine tf_iconst hx hb dX10_readPart_63 ?_
              refine tf_icmp_ne (tgt := 71) hx hb ⟨by omega, by omega⟩ ⟨by decide, by decide⟩ dX10_readPart_64 (by decide) (fun h152 => ?_) (fun h152 => ?_)
              · exfalso; omega
              · refine tf_iconst hx hb dX10_readPart_67 ?_
                refine lv_goto (tgt := 72) hx hb dX10_readPart_68 (by decide) ?_
                refine lv_iload_n hx hb dX10_readPart_72 rfl (lv_at hl 0 rfl) ?_
                refine tf_if_eq (tgt := 84) hx hb ⟨by decide, by decide⟩ dX10_readPart_73 (by decide) (fun h153 => ?_) (fun h153 => ?_)
                · exfalso; omega
                · refine lv_aload_n hx hb dX10_readPart_76 rfl (lv_at hl 2 rfl) ?_
                  refine tf_get hx hb hts inlX10 hown hK (ci := 10) rfl hW ha0 rfl 12 rfl (by decide) (hts _ fl_X10_210) dX10_readPart_77 (fun v154 hv154 hsv154 => ?_)
                  obtain rfl : v154 = .long (Int64.ofInt gw) := Option.some.inj (hsv154.symm.trans hs49)
                  refine tf_l2i_any hx hb dX10_readPart_80 (fun z155 hz155 => ?_)
                  refine lv_goto (tgt := 85) hx hb dX10_readPart_81 (by decide) ?_
                  refine tf_callv (va_runV (As := [.int (Int32.ofInt 1), .int (Int32.ofInt 0), .int (Int32.ofInt z155)]) (rest := []) ⟨hx, hb, hml, hown, hts⟩ (c_X10_leaf l g T a0 ha0 (1) ⟨by omega, by omega⟩ (0) ⟨by omega, by omega⟩ (z155) ⟨by omega, by omega⟩ qop hqop qar hqar tm htm (gn) ⟨by omega, by omega⟩ (gf) ⟨by omega, by omega⟩ (gt) ⟨by omega, by omega⟩ (gs) ⟨by omega, by omega⟩ (gw) ⟨by omega, by omega⟩ (gb) ⟨by omega, by omega⟩ (gc) ⟨by omega, by omega⟩ (gp) ⟨by omega, by omega⟩ (gx) ⟨by omega, by omega⟩ (gl) ⟨by omega, by omega⟩ rop rar tp (by first | assumption | omega) (by first | assumption | omega) (by first | assumption | omega) (by first | assumption | omega)) (cwV 3 hts gv_X10_282 rfl rfl rfl hd_X10_leaf ⟨Nat.le_trans (by decide) hR1, Nat.le_trans (by decide) hR2⟩) (tf_preV hk hW ha0 (ci := 10) rfl rfl ⟨hs41, hs42, hs45, hs46, hs47, hs48, hs49, hs50, hs51, hs52, hs53, hs54, hs56, hs57, hs60, hs61⟩) rfl rfl hl.1 rfl (lv_room (Nat.le_of_ble_eq_true rfl)) dX10_readPart_85 ⟨Nat.zero_le _, Nat.zero_le _⟩) hW (by decide) (fun HF locsF hW hFF hpF => ?_)
                  have hs156 := tf_keepF hFF ha0 rfl rfl (by decide) hs41
                  have hs157 := tf_keepF hFF ha0 rfl rfl (by decide) hs42
                  have hs158 := tf_keepF hFF ha0 rfl rfl (by decide) hs43
                  have hs159 := tf_keepF hFF ha0 rfl rfl (by decide) hs44
                  have hs160 := tf_keepF hFF ha0 rfl rfl (by decide) hs45
                  have hs161 := tf_keepF hFF ha0 rfl rfl (by decide) hs52
                  have hs162 := tf_keepF hFF ha0 rfl rfl (by decide) hs55
                  have hs163 := tf_keepC hFF hqpi rfl (by decide) hs58
                  have hs164 := tf_keepC hFF hqpa rfl (by decide) hs59
                  have hs165 := tf_keepF hFF ha0 rfl rfl (by decide) hs60
                  have hs166 := tf_keepC hFF htm rfl (by decide) hs61
                  have hs167 := tf_keepF hFF ha0 rfl rfl (by decide) hs62
                  have hs168 := tf_keepC hFF hwd rfl (by decide) hs63
                  obtain ⟨gb1_F, gf1_F, gt1_F, gs1_F, gw1_F, gc1_F, gx1_F, gl1_F, rop1_F, rar1_F, hXF_0, hXF_1, hXF_2, hXF_3, hXF_4, hXF_5, hXF_6, hXF_7, hXF_8, hXF_9, hBF_0, hBF_1, hBF_2, hBF_3, hBF_4, hBF_5, hBF_6, hBF_7, hRF_0, hRF_1, hRF_2, hRF_3, hRF_4⟩ := hpF
                  refine tf_iconst hx hb dX10_readPart_88 ?_
                  exact tf_reti (z := 3) hx hb hr hlocks hQ hW ⟨by omega, by omega, ⟨(gb1_F), (gf1_F), (gt1_F), (gs1_F), (gw1_F), (gc1_F), (gp), (gx1_F), (gl1_F), (go), rop1_F, rar1_F, rpi, rpa, hXF_0, hXF_1, hXF_2, hXF_3, hXF_4, hXF_5, hs161, hXF_6, hXF_7, hs162, hXF_8, hXF_9, hs163, hs164, ⟨by omega, by omega⟩, ⟨by omega, by omega⟩, ⟨by omega, by omega⟩, ⟨by omega, by omega⟩, ⟨by omega, by omega⟩, ⟨by omega, by omega⟩, ⟨by omega, by omega⟩, ⟨by omega, by omega⟩, ⟨by omega, by omega⟩, ⟨by omega, by omega⟩, (by first | assumption | omega), (by first | assumption | omega), (tf_lf hRF_2 hq3 hq4 (by omega) (by omega) (by omega)).1, (tf_lf hRF_2 hq3 hq4 (by omega) (by omega) (by omega)).2, (by first | assumption | omega), (tf_er_leaf hq5 hq6 hn91 hpP_2 (by omega) hRF_3), (by first | assumption | omega)⟩⟩ dX10_readPart_89
    · exfalso; omega

abbrev M_X10_readPlain : List (Nat × Nat) := [(46, 0), (47, 0), (48, 0), (49, 0), (63, 9), (63, 10), (63, 11), (63, 12), (63, 13), (63, 14), (63, 17), (63, 20), (63, 23), (63, 24)]
set_option maxHeartbeats 4000000 in
set_option maxRecDepth 100000 in
theorem c_X10_readPlain (l : Launch) (g : tf_G) (T : tf_T) (a0 : Nat) (ha0 : T a0 = some (63, 0)) (fs : Int) (o0 : Int → Int) (u0 : Int → Int) (ss : Int → Int) (pp : Int → Int) (mm : Int) (k9 : Int) (c9 : Int) (S9 : List (Int × Int)) (e9 : Int) (i9 : Int) (qop : Nat) (hqop : T qop = some (46, 400)) (qar : Nat) (hqar : T qar = some (47, 400)) (qpi : Nat) (hqpi : T qpi = some (48, 400)) (qpa : Nat) (hqpa : T qpa = some (49, 400)) (tm : Nat) (htm : T tm = some (44, 400)) (wd : Nat) (hwd : T wd = some (50, 9)) (gn : Int) (hgn : 0 ≤ gn ∧ gn ≤ 400) (gf : Int) (hgf : 0 ≤ gf ∧ gf ≤ 400) (gt : Int) (hgt : 0 ≤ gt ∧ gt ≤ 400) (gs : Int) (hgs : 0 ≤ gs ∧ gs ≤ 3) (gw : Int) (hgw : (-9223372036854775808) ≤ gw ∧ gw ≤ 9223372036854775807) (gb : Int) (hgb : 0 ≤ gb ∧ gb ≤ 1) (gc : Int) (hgc : 0 ≤ gc ∧ gc ≤ 400) (gp : Int) (hgp : 0 ≤ gp ∧ gp ≤ 400) (gx : Int) (hgx : (-2147483648) ≤ gx ∧ gx ≤ 2147483647) (gl : Int) (hgl : 0 ≤ gl ∧ gl ≤ 50) (go : Int) (hgo : 0 ≤ go ∧ go ≤ 8) (rop : Int → Int) (rar : Int → Int) (rpi : Int → Int) (rpa : Int → Int) (tp : Int → Int) (gW : Int → Int) (hq0 : (gb = 0)) (hq1 : (gc + gp ≤ gf)) (hq2 : (gf ≤ gt ∧ gt ≤ gn ∧ (gs = 0 → gf = gn) ∧ (gs ≠ 0 → gf < gt) ∧ (gs = 1 → 26 < gw → gf + 2 ≤ gt))) (hq3 : (tf_PI o0 u0 rop rar rpi rpa fs gc gp 0)) (hq4 : (tf_NS rpi gp)) (hq5 : (tf_CX tp gn ss pp mm gW)) (hq6 : (tf_RR tp gn ss pp mm rpi gf gt gs gw gp go k9 0 c9 S9)) : Met l yX10_readPlain (cd_X10_readPlain :: wsL_law) ({ frames := 6, cells := 0, slots := 0, locals := 130 }) (tf_P g T [.ref a0] (fun H => tf_s H a0 (g.1.2 10 18) = some (.ref qop) ∧ tf_s H a0 (g.1.2 10 19) = some (.ref qar) ∧ tf_s H a0 (g.1.2 10 21) = some (.ref qpi) ∧ tf_s H a0 (g.1.2 10 22) = some (.ref qpa) ∧ tf_s H a0 (g.1.2 10 8) = some (.int (Int32.ofInt gn)) ∧ tf_s H a0 (g.1.2 10 9) = some (.int (Int32.ofInt gf)) ∧ tf_s H a0 (g.1.2 10 10) = some (.int (Int32.ofInt gt)) ∧ tf_s H a0 (g.1.2 10 11) = some (.int (Int32.ofInt gs)) ∧ tf_s H a0 (g.1.2 10 12) = some (.long (Int64.ofInt gw)) ∧ tf_s H a0 (g.1.2 10 14) = some (.int (Int32.ofInt gb)) ∧ tf_s H a0 (g.1.2 10 17) = some (.int (Int32.ofInt gc)) ∧ tf_s H a0 (g.1.2 10 23) = some (.int (Int32.ofInt gp)) ∧ tf_s H a0 (g.1.2 10 13) = some (.int (Int32.ofInt gx)) ∧ tf_s H a0 (g.1.2 10 20) = some (.int (Int32.ofInt gl)) ∧ tf_s H a0 (g.1.2 10 24) = some (.int (Int32.ofInt go)) ∧ tf_rw H qop = rop ∧ tf_rw H qar = rar ∧ tf_rw H qpi = rpi ∧ tf_rw H qpa = rpa ∧ tf_s H a0 (g.1.2 10 7) = some (.ref tm) ∧ tf_rw H tm = tp ∧ tf_s H a0 (g.1.2 10 25) = some (.ref wd) ∧ tf_rw H wd = gW)) (tf_Qi g M_X10_readPlain T (fun z _ H => 0 ≤ z ∧ z ≤ 3 ∧ (∃ (gb1 gf1 gt1 gs1 gw1 gc1 gp1 gx1 gl1 go1 : Int) (rop1 rar1 rpi1 rpa1 : Int → Int) , tf_s H a0 (g.1.2 10 14) = some (.int (Int32.ofInt gb1)) ∧ tf_s H a0 (g.1.2 10 9) = some (.int (Int32.ofInt gf1)) ∧ tf_s H a0 (g.1.2 10 10) = some (.int (Int32.ofInt gt1)) ∧ tf_s H a0 (g.1.2 10 11) = some (.int (Int32.ofInt gs1)) ∧ tf_s H a0 (g.1.2 10 12) = some (.long (Int64.ofInt gw1)) ∧ tf_s H a0 (g.1.2 10 17) = some (.int (Int32.ofInt gc1)) ∧ tf_s H a0 (g.1.2 10 23) = some (.int (Int32.ofInt gp1)) ∧ tf_s H a0 (g.1.2 10 13) = some (.int (Int32.ofInt gx1)) ∧ tf_s H a0 (g.1.2 10 20) = some (.int (Int32.ofInt gl1)) ∧ tf_s H a0 (g.1.2 10 24) = some (.int (Int32.ofInt go1)) ∧ tf_rw H qop = rop1 ∧ tf_rw H qar = rar1 ∧ tf_rw H qpi = rpi1 ∧ tf_rw H qpa = rpa1 ∧ (0 ≤ gb1 ∧ gb1 ≤ 1) ∧ (0 ≤ gf1 ∧ gf1 ≤ 400) ∧ (0 ≤ gt1 ∧ gt1 ≤ 400) ∧ (0 ≤ gs1 ∧ gs1 ≤ 3) ∧ ((-9223372036854775808) ≤ gw1 ∧ gw1 ≤ 9223372036854775807) ∧ (0 ≤ gc1 ∧ gc1 ≤ 400) ∧ (0 ≤ gp1 ∧ gp1 ≤ 400) ∧ ((-2147483648) ≤ gx1 ∧ gx1 ≤ 2147483647) ∧ (0 ≤ gl1 ∧ gl1 ≤ 50) ∧ (0 ≤ go1 ∧ go1 ≤ 8) ∧ (gf1 ≤ gt1 ∧ gt1 ≤ gn ∧ (gs1 = 0 → gf1 = gn) ∧ (gs1 ≠ 0 → gf1 < gt1) ∧ (gs1 = 1 → 26 < gw1 → gf1 + 2 ≤ gt1)) ∧ (gc1 + gp1 ≤ gf1) ∧ (tf_PB rpi1 rpa1 gp1) ∧ (gb1 = 1 ∨ tf_ST z o0 u0 rop1 rar1 rpi1 rpa1 fs gc1 gp1) ∧ (gf < gf1 ∨ (gf1 = gf ∧ (gb1 = 1))) ∧ (tf_ER tp gn ss pp mm (k9, 0, c9, S9, gl, e9, i9) gb1 z gx1 rpi1 gf1 gt1 gs1 gw1 gp1 gl1 go1 e9 i9) ∧ (gb1 = 1 ∨ gx1 = gx)))) 0 0 (fun q => tf_B g ≤ q) := by
  refine Met.ofW (cc := cX10_readPlain) (maxL := 1) (ret := (some .int)) (by decide) rfl ?_
  intro p e s m args below meth c s₁ B hml hv
  obtain ⟨hargs, hk, hW0, hB, hpre⟩ := hv
  obtain ⟨he0, he1, he2, he3, he4, he5, he6, he7, he8, he9, he10, he11, he12, he13, he14, he15, he16, he17, he18, he19, he20, he21, he22⟩ := hpre
  have hx := B.exec
  have hb := B.bytes
  have hr := B.returns
  have hts : ∀ w ∈ wsL_law, w.before args s = true := fun w h => atoms_spec (ws := cd_X10_readPlain :: wsL_law) B.pre w (List.mem_cons_of_mem _ h)
  have hown : s.vm.findClass RX10 = some m.cls := findClass_of_methodNamed B.named
  have hlocks := B.notSynchronized
  have hK := hk.1
  have hW := tf_n.start (M := M_X10_readPlain) hW0 hB
  obtain ⟨Q, hQ⟩ : ∃ q, q = MQ below (tf_Qi g M_X10_readPlain T (fun z _ H => 0 ≤ z ∧ z ≤ 3 ∧ (∃ (gb1 gf1 gt1 gs1 gw1 gc1 gp1 gx1 gl1 go1 : Int) (rop1 rar1 rpi1 rpa1 : Int → Int) , tf_s H a0 (g.1.2 10 14) = some (.int (Int32.ofInt gb1)) ∧ tf_s H a0 (g.1.2 10 9) = some (.int (Int32.ofInt gf1)) ∧ tf_s H a0 (g.1.2 10 10) = some (.int (Int32.ofInt gt1)) ∧ tf_s H a0 (g.1.2 10 11) = some (.int (Int32.ofInt gs1)) ∧ tf_s H a0 (g.1.2 10 12) = some (.long (Int64.ofInt gw1)) ∧ tf_s H a0 (g.1.2 10 17) = some (.int (Int32.ofInt gc1)) ∧ tf_s H a0 (g.1.2 10 23) = some (.int (Int32.ofInt gp1)) ∧ tf_s H a0 (g.1.2 10 13) = some (.int (Int32.ofInt gx1)) ∧ tf_s H a0 (g.1.2 10 20) = some (.int (Int32.ofInt gl1)) ∧ tf_s H a0 (g.1.2 10 24) = some (.int (Int32.ofInt go1)) ∧ tf_rw H qop = rop1 ∧ tf_rw H qar = rar1 ∧ tf_rw H qpi = rpi1 ∧ tf_rw H qpa = rpa1 ∧ (0 ≤ gb1 ∧ gb1 ≤ 1) ∧ (0 ≤ gf1 ∧ gf1 ≤ 400) ∧ (0 ≤ gt1 ∧ gt1 ≤ 400) ∧ (0 ≤ gs1 ∧ gs1 ≤ 3) ∧ ((-9223372036854775808) ≤ gw1 ∧ gw1 ≤ 9223372036854775807) ∧ (0 ≤ gc1 ∧ gc1 ≤ 400) ∧ (0 ≤ gp1 ∧ gp1 ≤ 400) ∧ ((-2147483648) ≤ gx1 ∧ gx1 ≤ 2147483647) ∧ (0 ≤ gl1 ∧ gl1 ≤ 50) ∧ (0 ≤ go1 ∧ go1 ≤ 8) ∧ (gf1 ≤ gt1 ∧ gt1 ≤ gn ∧ (gs1 = 0 → gf1 = gn) ∧ (gs1 ≠ 0 → gf1 < gt1) ∧ (gs1 = 1 → 26 < gw1 → gf1 + 2 ≤ gt1)) ∧ (gc1 + gp1 ≤ gf1) ∧ (tf_PB rpi1 rpa1 gp1) ∧ (gb1 = 1 ∨ tf_ST z o0 u0 rop1 rar1 rpi1 rpa1 fs gc1 gp1) ∧ (gf < gf1 ∨ (gf1 = gf ∧ (gb1 = 1))) ∧ (tf_ER tp gn ss pp mm (k9, 0, c9, S9, gl, e9, i9) gb1 z gx1 rpi1 gf1 gt1 gs1 gw1 gp1 gl1 go1 e9 i9) ∧ (gb1 = 1 ∨ gx1 = gx)))) args s 0 0 (fun q => tf_B g ≤ q) := ⟨_, rfl⟩
  rw [← hQ]
  obtain ⟨R, hR⟩ : ∃ q, q = (headSpec (cd_X10_readPlain :: wsL_law) ({ frames := 6, cells := 0, slots := 0, locals := 130 })).room := ⟨_, rfl⟩
  rw [← hR]
  have hR1 : 6 ≤ R.frames := by rw [hR]; exact Nat.le_refl _
  have hR2 : 130 ≤ R.locals := by rw [hR]; exact Nat.le_refl _
  have hR3 : 0 ≤ R.cells := by rw [hR]; exact Nat.le_refl _
  have hR4 : 0 ≤ R.slots := by rw [hR]; exact Nat.le_refl _
  have hin := (name_of_methodNamed B.named B.method).1
  clear hR B
  refine tf_enter (As := [.ref a0]) hargs (Nat.le_of_ble_eq_true rfl) (fun ls hl => ?_)
  have hl : lv_has ls 1 [(0, .ref a0)] := hl
  refine lv_aload_n hx hb dX10_readPlain_0 rfl (lv_at hl 0 rfl) ?_
  refine tf_ldc2 (z := 14836) hx hb hown (hts _ kl_X10_286) (by decide) dX10_readPlain_1 ?_
  refine tf_calli (va_runV (As := [.long (Int64.ofInt 14836)]) (rest := []) ⟨hx, hb, hml, hown, hts⟩ (c_X10_isWord l g T a0 ha0 (14836) ⟨by omega, by omega⟩ (gs) ⟨by omega, by omega⟩ (gw) ⟨by omega, by omega⟩) (cwV 1 hts gv_X10_258 rfl rfl rfl hd_X10_isWord ⟨Nat.le_trans (by decide) hR1, Nat.le_trans (by decide) hR2⟩) (tf_preV hk hW ha0 (ci := 10) rfl rfl ⟨he7, he8⟩) rfl rfl hl.1 rfl (lv_room (Nat.le_of_ble_eq_true rfl)) dX10_readPlain_4 ⟨Nat.zero_le _, Nat.zero_le _⟩) hW (by decide) (fun z1 H1 locs1 hW hF1 hp1 => ?_)
  have hs2 := tf_keepF hF1 ha0 rfl rfl (by decide) he0
  have hs3 := tf_keepF hF1 ha0 rfl rfl (by decide) he1
  have hs4 := tf_keepF hF1 ha0 rfl rfl (by decide) he2
  have hs5 := tf_keepF hF1 ha0 rfl rfl (by decide) he3
  have hs6 := tf_keepF hF1 ha0 rfl rfl (by decide) he4
  have hs7 := tf_keepF hF1 ha0 rfl rfl (by decide) he5
  have hs8 := tf_keepF hF1 ha0 rfl rfl (by decide) he6
  have hs9 := tf_keepF hF1 ha0 rfl rfl (by decide) he7
  have hs10 := tf_keepF hF1 ha0 rfl rfl (by decide) he8
  have hs11 := tf_keepF hF1 ha0 rfl rfl (by decide) he9
  have hs12 := tf_keepF hF1 ha0 rfl rfl (by decide) he10
  have hs13 := tf_keepF hF1 ha0 rfl rfl (by decide) he11
  have hs14 := tf_keepF hF1 ha0 rfl rfl (by decide) he12
  have hs15 := tf_keepF hF1 ha0 rfl rfl (by decide) he13
  have hs16 := tf_keepF hF1 ha0 rfl rfl (by decide) he14
  have hs17 := tf_keepC hF1 hqop rfl (by decide) he15
  have hs18 := tf_keepC hF1 hqar rfl (by decide) he16
  have hs19 := tf_keepC hF1 hqpi rfl (by decide) he17
  have hs20 := tf_keepC hF1 hqpa rfl (by decide) he18
  have hs21 := tf_keepF hF1 ha0 rfl rfl (by decide) he19
  have hs22 := tf_keepC hF1 htm rfl (by decide) he20
  have hs23 := tf_keepF hF1 ha0 rfl rfl (by decide) he21
  have hs24 := tf_keepC hF1 hwd rfl (by decide) he22
  rcases hp1 with ⟨rfl, h25⟩ | ⟨rfl, hn5⟩
  · refine tf_if_eq (tgt := 23) hx hb ⟨by decide, by decide⟩ dX10_readPlain_7 (by decide) (fun h26 => ?_) (fun h26 => ?_)
    · exfalso; omega
    · refine lv_aload_n hx hb dX10_readPlain_10 rfl (lv_at hl 0 rfl) ?_
      refine tf_bipush hx hb dX10_readPlain_11 (by decide) ?_
      refine tf_iconst hx hb dX10_readPlain_13 ?_
      refine tf_callv (va_runV (As := [.int (Int32.ofInt 27), .int (Int32.ofInt 0)]) (rest := []) ⟨hx, hb, hml, hown, hts⟩ (c_X10_push l g T a0 ha0 (27) ⟨by omega, by omega⟩ (0) ⟨by omega, by omega⟩ qpi hqpi qpa hqpa (gp) ⟨by omega, by omega⟩ rpi rpa) (cwV 2 hts gv_X10_265 rfl rfl rfl hd_X10_push ⟨Nat.le_trans (by decide) hR1, Nat.le_trans (by decide) hR2⟩) (tf_preV hk hW ha0 (ci := 10) rfl rfl ⟨hs4, hs5, hs13, hs19, hs20⟩) rfl rfl hl.1 rfl (lv_room (Nat.le_of_ble_eq_true rfl)) dX10_readPlain_14 ⟨Nat.zero_le _, Nat.zero_le _⟩) hW (by decide) (fun H27 locs27 hW hF27 hp27 => ?_)
      have hs28 := tf_keepF hF27 ha0 rfl rfl (by decide) hs2
      have hs29 := tf_keepF hF27 ha0 rfl rfl (by decide) hs3
      have hs30 := tf_keepF hF27 ha0 rfl rfl (by decide) hs4
      have hs31 := tf_keepF hF27 ha0 rfl rfl (by decide) hs5
      have hs32 := tf_keepF hF27 ha0 rfl rfl (by decide) hs6
      have hs33 := tf_keepF hF27 ha0 rfl rfl (by decide) hs7
      have hs34 := tf_keepF hF27 ha0 rfl rfl (by decide) hs8
      have hs35 := tf_keepF hF27 ha0 rfl rfl (by decide) hs9
      have hs36 := tf_keepF hF27 ha0 rfl rfl (by decide) hs10
      have hs37 := tf_keepF hF27 ha0 rfl rfl (by decide) hs11
      have hs38 := tf_keepF hF27 ha0 rfl rfl (by decide) hs12
      have hs39 := tf_keepF hF27 ha0 rfl rfl (by decide) hs14
      have hs40 := tf_keepF hF27 ha0 rfl rfl (by decide) hs15
      have hs41 := tf_keepF hF27 ha0 rfl rfl (by decide) hs16
      have hs42 := tf_keepC hF27 hqop rfl (by decide) hs17
      have hs43 := tf_keepC hF27 hqar rfl (by decide) hs18
      have hs44 := tf_keepF hF27 ha0 rfl rfl (by decide) hs21
      have hs45 := tf_keepC hF27 htm rfl (by decide) hs22
      have hs46 := tf_keepF hF27 ha0 rfl rfl (by decide) hs23
      have hs47 := tf_keepC hF27 hwd rfl (by decide) hs24
      obtain ⟨ho27_0, ho27_1, ho27_2⟩ := hp27
      refine lv_aload_n hx hb dX10_readPlain_17 rfl (lv_at hl 0 rfl) ?_
      refine tf_callv (va_runV (As := []) (rest := []) ⟨hx, hb, hml, hown, hts⟩ (c_X10_next l g T a0 ha0 tm htm (gn) ⟨by omega, by omega⟩ (gt) ⟨by omega, by omega⟩ tp (by first | assumption | omega)) (cwV 0 hts gv_X10_204 rfl rfl rfl hd_X10_next ⟨Nat.le_trans (by decide) hR1, Nat.le_trans (by decide) hR2⟩) (tf_preV hk hW ha0 (ci := 10) rfl rfl ⟨hs32, hs34, hs44, hs45⟩) rfl rfl hl.1 rfl (lv_room (Nat.le_of_ble_eq_true rfl)) dX10_readPlain_18 ⟨Nat.zero_le _, Nat.zero_le _⟩) hW (by decide) (fun HN locsN hW hFN hpN => ?_)
      have hs48 := tf_keepF hFN ha0 rfl rfl (by decide) hs28
      have hs49 := tf_keepF hFN ha0 rfl rfl (by decide) hs29
      have hs50 := tf_keepF hFN ha0 rfl rfl (by decide) hs30
      have hs51 := tf_keepF hFN ha0 rfl rfl (by decide) hs31
      have hs52 := tf_keepF hFN ha0 rfl rfl (by decide) hs32
      have hs53 := tf_keepF hFN ha0 rfl rfl (by decide) hs37
      have hs54 := tf_keepF hFN ha0 rfl rfl (by decide) hs38
      have hs55 := tf_keepF hFN ha0 rfl rfl (by decide) hs39
      have hs56 := tf_keepF hFN ha0 rfl rfl (by decide) hs40
      have hs57 := tf_keepF hFN ha0 rfl rfl (by decide) hs41
      have hs58 := tf_keepC hFN hqop rfl (by decide) hs42
      have hs59 := tf_keepC hFN hqar rfl (by decide) hs43
      have hs60 := tf_keepF hFN ha0 rfl rfl (by decide) hs44
      have hs61 := tf_keepC hFN htm rfl (by decide) hs45
      have hs62 := tf_keepF hFN ha0 rfl rfl (by decide) hs46
      have hs63 := tf_keepC hFN hwd rfl (by decide) hs47
      have hs64 := tf_keepF hFN ha0 rfl rfl (by decide) ho27_0
      have hs65 := tf_keepC hFN hqpi rfl (by decide) ho27_1
      have hs66 := tf_keepC hFN hqpa rfl (by decide) ho27_2
      obtain ⟨gf1_N, gt1_N, gs1_N, gw1_N, hXN_0, hXN_1, hXN_2, hXN_3, hBN_0, hBN_1, hBN_2, hBN_3, hRN_0, hRN_1, hRN_2⟩ := hpN
      refine tf_iconst hx hb dX10_readPlain_21 ?_
      exact tf_reti (z := 0) hx hb hr hlocks hQ hW ⟨by omega, by omega, ⟨(gb), (gf1_N), (gt1_N), (gs1_N), (gw1_N), (gc), ((gp + 1)), (gx), (gl), (go), rop, rar, (tf_up (rpi) (gp) (27)), (tf_up (rpa) (gp) (0)), hs53, hXN_0, hXN_1, hXN_2, hXN_3, hs54, hs64, hs55, hs56, hs57, hs58, hs59, hs65, hs66, ⟨by omega, by omega⟩, ⟨by omega, by omega⟩, ⟨by omega, by omega⟩, ⟨by omega, by omega⟩, ⟨by omega, by omega⟩, ⟨by omega, by omega⟩, ⟨by omega, by omega⟩, ⟨by omega, by omega⟩, ⟨by omega, by omega⟩, ⟨by omega, by omega⟩, (by first | assumption | omega), (by first | assumption | omega), (tf_PI_PB (tf_PI_not hq3) (by omega)), (Or.inr (tf_ST0 (tf_PI_not hq3) (tf_NS_push hq4 (by omega)))), (by first | assumption | omega), (tf_er_not hq5 hq6 (by omega) (by omega) (by omega) hRN_2), (by first | assumption | omega)⟩⟩ dX10_readPlain_22
  · refine tf_if_eq (tgt := 23) hx hb ⟨by decide, by decide⟩ dX10_readPlain_7 (by decide) (fun h67 => ?_) (fun h67 => ?_)
    · refine lv_aload_n hx hb dX10_readPlain_23 rfl (lv_at hl 0 rfl) ?_
      refine tf_bipush hx hb dX10_readPlain_24 (by decide) ?_
      refine tf_calli (va_runV (As := [.int (Int32.ofInt 40)]) (rest := []) ⟨hx, hb, hml, hown, hts⟩ (c_X10_isSign l g T a0 ha0 (40) ⟨by omega, by omega⟩ (gs) ⟨by omega, by omega⟩ (gw) ⟨by omega, by omega⟩) (cwV 1 hts gv_X10_271 rfl rfl rfl hd_X10_isSign ⟨Nat.le_trans (by decide) hR1, Nat.le_trans (by decide) hR2⟩) (tf_preV hk hW ha0 (ci := 10) rfl rfl ⟨hs9, hs10⟩) rfl rfl hl.1 rfl (lv_room (Nat.le_of_ble_eq_true rfl)) dX10_readPlain_26 ⟨Nat.zero_le _, Nat.zero_le _⟩) hW (by decide) (fun z68 H68 locs68 hW hF68 hp68 => ?_)
      have hs69 := tf_keepF hF68 ha0 rfl rfl (by decide) hs2
      have hs70 := tf_keepF hF68 ha0 rfl rfl (by decide) hs3
      have hs71 := tf_keepF hF68 ha0 rfl rfl (by decide) hs4
      have hs72 := tf_keepF hF68 ha0 rfl rfl (by decide) hs5
      have hs73 := tf_keepF hF68 ha0 rfl rfl (by decide) hs6
      have hs74 := tf_keepF hF68 ha0 rfl rfl (by decide) hs7
      have hs75 := tf_keepF hF68 ha0 rfl rfl (by decide) hs8
      have hs76 := tf_keepF hF68 ha0 rfl rfl (by decide) hs9
      have hs77 := tf_keepF hF68 ha0 rfl rfl (by decide) hs10
      have hs78 := tf_keepF hF68 ha0 rfl rfl (by decide) hs11
      have hs79 := tf_keepF hF68 ha0 rfl rfl (by decide) hs12
      have hs80 := tf_keepF hF68 ha0 rfl rfl (by decide) hs13
      have hs81 := tf_keepF hF68 ha0 rfl rfl (by decide) hs14
      have hs82 := tf_keepF hF68 ha0 rfl rfl (by decide) hs15
      have hs83 := tf_keepF hF68 ha0 rfl rfl (by decide) hs16
      have hs84 := tf_keepC hF68 hqop rfl (by decide) hs17
      have hs85 := tf_keepC hF68 hqar rfl (by decide) hs18
      have hs86 := tf_keepC hF68 hqpi rfl (by decide) hs19
      have hs87 := tf_keepC hF68 hqpa rfl (by decide) hs20
      have hs88 := tf_keepF hF68 ha0 rfl rfl (by decide) hs21
      have hs89 := tf_keepC hF68 htm rfl (by decide) hs22
      have hs90 := tf_keepF hF68 ha0 rfl rfl (by decide) hs23
      have hs91 := tf_keepC hF68 hwd rfl (by decide) hs24
      rcases hp68 with ⟨rfl, h92⟩ | ⟨rfl, hn40⟩
      · refine tf_if_eq (tgt := 40) hx hb ⟨by decide, by decide⟩ dX10_readPlain_29 (by decide) (fun h93 => ?_) (fun h93 => ?_)
        · exfalso; omega
        · refine lv_aload_n hx hb dX10_readPlain_32 rfl (lv_at hl 0 rfl) ?_
          refine tf_bipush hx hb dX10_readPlain_33 (by decide) ?_
          refine tf_callv (va_runV (As := [.int (Int32.ofInt 30)]) (rest := []) ⟨hx, hb, hml, hown, hts⟩ (c_X10_openBracket l g T a0 ha0 (30) ⟨by omega, by omega⟩ qpi hqpi qpa hqpa tm htm (gn) ⟨by omega, by omega⟩ (gf) ⟨by omega, by omega⟩ (gt) ⟨by omega, by omega⟩ (gs) ⟨by omega, by omega⟩ (gw) ⟨by omega, by omega⟩ (gb) ⟨by omega, by omega⟩ (gc) ⟨by omega, by omega⟩ (gp) ⟨by omega, by omega⟩ (gx) ⟨by omega, by omega⟩ (go) ⟨by omega, by omega⟩ rpi rpa tp (by first | assumption | omega) (by first | assumption | omega) (by first | assumption | omega) (by first | assumption | omega)) (cwV 1 hts gv_X10_274 rfl rfl rfl hd_X10_openBracket ⟨Nat.le_trans (by decide) hR1, Nat.le_trans (by decide) hR2⟩) (tf_preV hk hW ha0 (ci := 10) rfl rfl ⟨hs71, hs72, hs73, hs74, hs75, hs76, hs77, hs78, hs79, hs80, hs81, hs83, hs86, hs87, hs88, hs89⟩) rfl rfl hl.1 rfl (lv_room (Nat.le_of_ble_eq_true rfl)) dX10_readPlain_35 ⟨Nat.zero_le _, Nat.zero_le _⟩) hW (by decide) (fun HB locsB hW hFB hpB => ?_)
          have hs94 := tf_keepF hFB ha0 rfl rfl (by decide) hs69
          have hs95 := tf_keepF hFB ha0 rfl rfl (by decide) hs70
          have hs96 := tf_keepF hFB ha0 rfl rfl (by decide) hs71
          have hs97 := tf_keepF hFB ha0 rfl rfl (by decide) hs72
          have hs98 := tf_keepF hFB ha0 rfl rfl (by decide) hs73
          have hs99 := tf_keepF hFB ha0 rfl rfl (by decide) hs79
          have hs100 := tf_keepF hFB ha0 rfl rfl (by decide) hs82
          have hs101 := tf_keepC hFB hqop rfl (by decide) hs84
          have hs102 := tf_keepC hFB hqar rfl (by decide) hs85
          have hs103 := tf_keepF hFB ha0 rfl rfl (by decide) hs88
          have hs104 := tf_keepC hFB htm rfl (by decide) hs89
          have hs105 := tf_keepF hFB ha0 rfl rfl (by decide) hs90
          have hs106 := tf_keepC hFB hwd rfl (by decide) hs91
          obtain ⟨gb1_B, gf1_B, gt1_B, gs1_B, gw1_B, gp1_B, gx1_B, go1_B, rpi1_B, rpa1_B, hXB_0, hXB_1, hXB_2, hXB_3, hXB_4, hXB_5, hXB_6, hXB_7, hXB_8, hXB_9, hBB_0, hBB_1, hBB_2, hBB_3, hBB_4, hBB_5, hBB_6, hBB_7, hRB_0, hRB_1, hRB_2, hRB_3, hRB_4⟩ := hpB
          refine tf_iconst hx hb dX10_readPlain_38 ?_
          exact tf_reti (z := 0) hx hb hr hlocks hQ hW ⟨by omega, by omega, ⟨(gb1_B), (gf1_B), (gt1_B), (gs1_B), (gw1_B), (gc), (gp1_B), (gx1_B), (gl), (go1_B), rop, rar, rpi1_B, rpa1_B, hXB_0, hXB_1, hXB_2, hXB_3, hXB_4, hs99, hXB_5, hXB_6, hs100, hXB_7, hs101, hs102, hXB_8, hXB_9, ⟨by omega, by omega⟩, ⟨by omega, by omega⟩, ⟨by omega, by omega⟩, ⟨by omega, by omega⟩, ⟨by omega, by omega⟩, ⟨by omega, by omega⟩, ⟨by omega, by omega⟩, ⟨by omega, by omega⟩, ⟨by omega, by omega⟩, ⟨by omega, by omega⟩, (by first | assumption | omega), (by first | assumption | omega), (tf_ob0 hRB_2 hq3 hq4 (by omega)).1, (tf_ob0 hRB_2 hq3 hq4 (by omega)).2, (by first | assumption | omega), (tf_er_open0 hq5 hq6 (by omega) (by omega) hRB_3 hRB_2 (by omega)), (by first | assumption | omega)⟩⟩ dX10_readPlain_39
      · refine tf_if_eq (tgt := 40) hx hb ⟨by decide, by decide⟩ dX10_readPlain_29 (by decide) (fun h107 => ?_) (fun h107 => ?_)
        · refine lv_aload_n hx hb dX10_readPlain_40 rfl (lv_at hl 0 rfl) ?_
          refine tf_calli (va_runV (As := []) (rest := []) ⟨hx, hb, hml, hown, hts⟩ (c_X10_readPart l g T a0 ha0 fs o0 u0 ss pp mm k9 c9 S9 e9 i9 qop hqop qar hqar qpi hqpi qpa hqpa tm htm wd hwd (gn) ⟨by omega, by omega⟩ (gf) ⟨by omega, by omega⟩ (gt) ⟨by omega, by omega⟩ (gs) ⟨by omega, by omega⟩ (gw) ⟨by omega, by omega⟩ (gb) ⟨by omega, by omega⟩ (gc) ⟨by omega, by omega⟩ (gp) ⟨by omega, by omega⟩ (gx) ⟨by omega, by omega⟩ (gl) ⟨by omega, by omega⟩ (go) ⟨by omega, by omega⟩ rop rar rpi rpa tp gW (by first | assumption | omega) (by first | assumption | omega) (by first | assumption | omega) (by first | assumption | omega) (tf_NS_Q hq4) (by first | assumption | omega) (tf_RR_to1 hq6)) (cwV 0 hts gv_X10_288 rfl rfl rfl hd_X10_readPart ⟨Nat.le_trans (by decide) hR1, Nat.le_trans (by decide) hR2⟩) (tf_preV hk hW ha0 (ci := 10) rfl rfl ⟨hs69, hs70, hs71, hs72, hs73, hs74, hs75, hs76, hs77, hs78, hs79, hs80, hs81, hs82, hs83, hs84, hs85, hs86, hs87, hs88, hs89, hs90, hs91⟩) rfl rfl hl.1 rfl (lv_room (Nat.le_of_ble_eq_true rfl)) dX10_readPlain_41 ⟨Nat.zero_le _, Nat.zero_le _⟩) hW (by decide) (fun zP HP locsP hW hFP hpP => ?_)
          have hs108 := tf_keepF hFP ha0 rfl rfl (by decide) hs69
          have hs109 := tf_keepF hFP ha0 rfl rfl (by decide) hs70
          have hs110 := tf_keepF hFP ha0 rfl rfl (by decide) hs71
          have hs111 := tf_keepF hFP ha0 rfl rfl (by decide) hs72
          have hs112 := tf_keepF hFP ha0 rfl rfl (by decide) hs73
          have hs113 := tf_keepF hFP ha0 rfl rfl (by decide) hs88
          have hs114 := tf_keepC hFP htm rfl (by decide) hs89
          have hs115 := tf_keepF hFP ha0 rfl rfl (by decide) hs90
          have hs116 := tf_keepC hFP hwd rfl (by decide) hs91
          obtain ⟨hpP_0, hpP_1, hpP_2⟩ := hpP
          obtain ⟨gb1_P, gf1_P, gt1_P, gs1_P, gw1_P, gc1_P, gp1_P, gx1_P, gl1_P, go1_P, rop1_P, rar1_P, rpi1_P, rpa1_P, hXP_0, hXP_1, hXP_2, hXP_3, hXP_4, hXP_5, hXP_6, hXP_7, hXP_8, hXP_9, hXP_10, hXP_11, hXP_12, hXP_13, hBP_0, hBP_1, hBP_2, hBP_3, hBP_4, hBP_5, hBP_6, hBP_7, hBP_8, hBP_9, hRP_0, hRP_1, hRP_2, hRP_3, hRP_4, hRP_5, hRP_6⟩ := hpP_2
          exact tf_reti (z := zP) hx hb hr hlocks hQ hW ⟨by omega, by omega, ⟨(gb1_P), (gf1_P), (gt1_P), (gs1_P), (gw1_P), (gc1_P), (gp1_P), (gx1_P), (gl1_P), (go1_P), rop1_P, rar1_P, rpi1_P, rpa1_P, hXP_0, hXP_1, hXP_2, hXP_3, hXP_4, hXP_5, hXP_6, hXP_7, hXP_8, hXP_9, hXP_10, hXP_11, hXP_12, hXP_13, ⟨by omega, by omega⟩, ⟨by omega, by omega⟩, ⟨by omega, by omega⟩, ⟨by omega, by omega⟩, ⟨by omega, by omega⟩, ⟨by omega, by omega⟩, ⟨by omega, by omega⟩, ⟨by omega, by omega⟩, ⟨by omega, by omega⟩, ⟨by omega, by omega⟩, (by first | assumption | omega), (by first | assumption | omega), (by first | assumption | omega), (by first | assumption | omega), (by first | assumption | omega), (tf_er_plain hq6 hn5 hn40 hRP_5), (by first | assumption | omega)⟩⟩ dX10_readPlain_44
        · exfalso; omega
    · exfalso; omega


abbrev M_X10_readPart : List (Nat × Nat) := [(33, 0), (34, 0), (35, 0), (36, 0), (50, 9), (50, 10), (50, 11), (50, 12), (50, 13), (50, 14), (50, 17), (50, 20), (50, 23), (50, 24)]
set_option maxHeartbeats 4000000 in
set_option maxRecDepth 100000 in
theorem c_X10_readPart (l : Launch) (g : tf_G) (T : tf_T) (a0 : Nat) (ha0 : T a0 = some (50, 0)) (fs : Int) (o0 : Int → Int) (u0 : Int → Int) (qop : Nat) (hqop : T qop = some (33, 400)) (qar : Nat) (hqar : T qar = some (34, 400)) (qpi : Nat) (hqpi : T qpi = some (35, 400)) (qpa : Nat) (hqpa : T qpa = some (36, 400)) (gn : Int) (hgn : 0 ≤ gn ∧ gn ≤ 400) (gf : Int) (hgf : 0 ≤ gf ∧ gf ≤ 400) (gt : Int) (hgt : 0 ≤ gt ∧ gt ≤ 400) (gs : Int) (hgs : 0 ≤ gs ∧ gs ≤ 3) (gw : Int) (hgw : (-9223372036854775808) ≤ gw ∧ gw ≤ 9223372036854775807) (gb : Int) (hgb : 0 ≤ gb ∧ gb ≤ 1) (gc : Int) (hgc : 0 ≤ gc ∧ gc ≤ 400) (gp : Int) (hgp : 0 ≤ gp ∧ gp ≤ 400) (rop : Int → Int) (rar : Int → Int) (rpi : Int → Int) (rpa : Int → Int) (hq0 : (gb = 0)) (hq1 : (gc + gp ≤ gf)) (hq2 : (gf ≤ gt ∧ gt ≤ gn ∧ (gs = 0 → gf = gn) ∧ (gs ≠ 0 → gf < gt) ∧ (gs = 1 → 26 < gw → gf + 2 ≤ gt))) (hq3 : (tf_PI o0 u0 rop rar rpi rpa fs gc gp 0)) (hq4 : (tf_Q rpi gp)) : Met l yX10_readPart (cd_X10_readPart :: wsL_law) ({ frames := 5, cells := 0, slots := 0, locals := 108 }) (tf_P g T [.ref a0] (fun H => tf_s H a0 (g.1.2 10 18) = some (.ref qop) ∧ tf_s H a0 (g.1.2 10 19) = some (.ref qar) ∧ tf_s H a0 (g.1.2 10 21) = some (.ref qpi) ∧ tf_s H a0 (g.1.2 10 22) = some (.ref qpa) ∧ tf_s H a0 (g.1.2 10 8) = some (.int (Int32.ofInt gn)) ∧ tf_s H a0 (g.1.2 10 9) = some (.int (Int32.ofInt gf)) ∧ tf_s H a0 (g.1.2 10 10) = some (.int (Int32.ofInt gt)) ∧ tf_s H a0 (g.1.2 10 11) = some (.int (Int32.ofInt gs)) ∧ tf_s H a0 (g.1.2 10 12) = some (.long (Int64.ofInt gw)) ∧ tf_s H a0 (g.1.2 10 14) = some (.int (Int32.ofInt gb)) ∧ tf_s H a0 (g.1.2 10 17) = some (.int (Int32.ofInt gc)) ∧ tf_s H a0 (g.1.2 10 23) = some (.int (Int32.ofInt gp)) ∧ tf_rw H qop = rop ∧ tf_rw H qar = rar ∧ tf_rw H qpi = rpi ∧ tf_rw H qpa = rpa)) (tf_Qi g M_X10_readPart T (fun z _ H => 1 ≤ z ∧ z ≤ 3 ∧ (∃ (gb1 gf1 gt1 gs1 gw1 gc1 gp1 : Int) (rop1 rar1 rpi1 rpa1 : Int → Int), tf_s H a0 (g.1.2 10 14) = some (.int (Int32.ofInt gb1)) ∧ tf_s H a0 (g.1.2 10 9) = some (.int (Int32.ofInt gf1)) ∧ tf_s H a0 (g.1.2 10 10) = some (.int (Int32.ofInt gt1)) ∧ tf_s H a0 (g.1.2 10 11) = some (.int (Int32.ofInt gs1)) ∧ tf_s H a0 (g.1.2 10 12) = some (.long (Int64.ofInt gw1)) ∧ tf_s H a0 (g.1.2 10 17) = some (.int (Int32.ofInt gc1)) ∧ tf_s H a0 (g.1.2 10 23) = some (.int (Int32.ofInt gp1)) ∧ tf_rw H qop = rop1 ∧ tf_rw H qar = rar1 ∧ tf_rw H qpi = rpi1 ∧ tf_rw H qpa = rpa1 ∧ (0 ≤ gb1 ∧ gb1 ≤ 1) ∧ (0 ≤ gf1 ∧ gf1 ≤ 400) ∧ (0 ≤ gt1 ∧ gt1 ≤ 400) ∧ (0 ≤ gs1 ∧ gs1 ≤ 3) ∧ ((-9223372036854775808) ≤ gw1 ∧ gw1 ≤ 9223372036854775807) ∧ (0 ≤ gc1 ∧ gc1 ≤ 400) ∧ (0 ≤ gp1 ∧ gp1 ≤ 400) ∧ (gf1 ≤ gt1 ∧ gt1 ≤ gn ∧ (gs1 = 0 → gf1 = gn) ∧ (gs1 ≠ 0 → gf1 < gt1) ∧ (gs1 = 1 → 26 < gw1 → gf1 + 2 ≤ gt1)) ∧ (gc1 + gp1 ≤ gf1) ∧ (tf_PB rpi1 rpa1 gp1) ∧ (gb1 = 1 ∨ tf_ST z o0 u0 rop1 rar1 rpi1 rpa1 fs gc1 gp1) ∧ (gf < gf1 ∨ (gf1 = gf ∧ (gb1 = 1)))))) 0 0 (fun q => tf_B g ≤ q) := by
  refine Met.ofW (cc := cX10_readPart) (maxL := 3) (ret := (some .int)) (by decide) rfl ?_
  intro p e s m args below meth c s₁ B hml hv
  obtain ⟨hargs, hk, hW0, hB, hpre⟩ := hv
  obtain ⟨he0, he1, he2, he3, he4, he5, he6, he7, he8, he9, he10, he11, he12, he13, he14, he15⟩ := hpre
  have hx := B.exec
  have hb := B.bytes
  have hr := B.returns
  have hts : ∀ w ∈ wsL_law, w.before args s = true := fun w h => atoms_spec (ws := cd_X10_readPart :: wsL_law) B.pre w (List.mem_cons_of_mem _ h)
  have hown : s.vm.findClass RX10 = some m.cls := findClass_of_methodNamed B.named
  have hlocks := B.notSynchronized
  have hK := hk.1
  have hW := tf_n.start (M := M_X10_readPart) hW0 hB
  obtain ⟨Q, hQ⟩ : ∃ q, q = MQ below (tf_Qi g M_X10_readPart T (fun z _ H => 1 ≤ z ∧ z ≤ 3 ∧ (∃ (gb1 gf1 gt1 gs1 gw1 gc1 gp1 : Int) (rop1 rar1 rpi1 rpa1 : Int → Int), tf_s H a0 (g.1.2 10 14) = some (.int (Int32.ofInt gb1)) ∧ tf_s H a0 (g.1.2 10 9) = some (.int (Int32.ofInt gf1)) ∧ tf_s H a0 (g.1.2 10 10) = some (.int (Int32.ofInt gt1)) ∧ tf_s H a0 (g.1.2 10 11) = some (.int (Int32.ofInt gs1)) ∧ tf_s H a0 (g.1.2 10 12) = some (.long (Int64.ofInt gw1)) ∧ tf_s H a0 (g.1.2 10 17) = some (.int (Int32.ofInt gc1)) ∧ tf_s H a0 (g.1.2 10 23) = some (.int (Int32.ofInt gp1)) ∧ tf_rw H qop = rop1 ∧ tf_rw H qar = rar1 ∧ tf_rw H qpi = rpi1 ∧ tf_rw H qpa = rpa1 ∧ (0 ≤ gb1 ∧ gb1 ≤ 1) ∧ (0 ≤ gf1 ∧ gf1 ≤ 400) ∧ (0 ≤ gt1 ∧ gt1 ≤ 400) ∧ (0 ≤ gs1 ∧ gs1 ≤ 3) ∧ ((-9223372036854775808) ≤ gw1 ∧ gw1 ≤ 9223372036854775807) ∧ (0 ≤ gc1 ∧ gc1 ≤ 400) ∧ (0 ≤ gp1 ∧ gp1 ≤ 400) ∧ (gf1 ≤ gt1 ∧ gt1 ≤ gn ∧ (gs1 = 0 → gf1 = gn) ∧ (gs1 ≠ 0 → gf1 < gt1) ∧ (gs1 = 1 → 26 < gw1 → gf1 + 2 ≤ gt1)) ∧ (gc1 + gp1 ≤ gf1) ∧ (tf_PB rpi1 rpa1 gp1) ∧ (gb1 = 1 ∨ tf_ST z o0 u0 rop1 rar1 rpi1 rpa1 fs gc1 gp1) ∧ (gf < gf1 ∨ (gf1 = gf ∧ (gb1 = 1)))))) args s 0 0 (fun q => tf_B g ≤ q) := ⟨_, rfl⟩
  rw [← hQ]
  obtain ⟨R, hR⟩ : ∃ q, q = (headSpec (cd_X10_readPart :: wsL_law) ({ frames := 5, cells := 0, slots := 0, locals := 108 })).room := ⟨_, rfl⟩
  rw [← hR]
  have hR1 : 5 ≤ R.frames := by rw [hR]; exact Nat.le_refl _
  have hR2 : 108 ≤ R.locals := by rw [hR]; exact Nat.le_refl _
  have hR3 : 0 ≤ R.cells := by rw [hR]; exact Nat.le_refl _
  have hR4 : 0 ≤ R.slots := by rw [hR]; exact Nat.le_refl _
  have hin := (name_of_methodNamed B.named B.method).1
  clear hR B
  refine tf_enter (As := [.ref a0]) hargs (Nat.le_of_ble_eq_true rfl) (fun ls hl => ?_)
  have hl : lv_has ls 3 [(0, .ref a0)] := hl
  refine lv_aload_n hx hb dX10_readPart_0 rfl (lv_at hl 0 rfl) ?_
  refine tf_bipush hx hb dX10_readPart_1 (by decide) ?_
  refine tf_calli (va_runV (As := [.int (Int32.ofInt 91)]) (rest := []) ⟨hx, hb, hml, hown, hts⟩ (c_X10_isSign l g T a0 ha0 (91) ⟨by omega, by omega⟩ (gs) ⟨by omega, by omega⟩ (gw) ⟨by omega, by omega⟩) (cwV 1 hts gv_X10_271 rfl rfl rfl hd_X10_isSign ⟨Nat.le_trans (by decide) hR1, Nat.le_trans (by decide) hR2⟩) (tf_preV hk hW ha0 (ci := 10) rfl rfl ⟨he7, he8⟩) rfl rfl hl.1 rfl (lv_room (Nat.le_of_ble_eq_true rfl)) dX10_readPart_3 ⟨Nat.zero_le _, Nat.zero_le _⟩) hW (by decide) (fun z1 H1 locs1 hW hF1 hp1 => ?_)
  have hs2 := tf_keepF hF1 ha0 rfl rfl (by decide) he0
  have hs3 := tf_keepF hF1 ha0 rfl rfl (by decide) he1
  have hs4 := tf_keepF hF1 ha0 rfl rfl (by decide) he2
  have hs5 := tf_keepF hF1 ha0 rfl rfl (by decide) he3
  have hs6 := tf_keepF hF1 ha0 rfl rfl (by decide) he4
  have hs7 := tf_keepF hF1 ha0 rfl rfl (by decide) he5
  have hs8 := tf_keepF hF1 ha0 rfl rfl (by decide) he6
  have hs9 := tf_keepF hF1 ha0 rfl rfl (by decide) he7
  have hs10 := tf_keepF hF1 ha0 rfl rfl (by decide) he8
  have hs11 := tf_keepF hF1 ha0 rfl rfl (by decide) he9
  have hs12 := tf_keepF hF1 ha0 rfl rfl (by decide) he10
  have hs13 := tf_keepF hF1 ha0 rfl rfl (by decide) he11
  have hs14 := tf_keepC hF1 hqop rfl (by decide) he12
  have hs15 := tf_keepC hF1 hqar rfl (by decide) he13
  have hs16 := tf_keepC hF1 hqpi rfl (by decide) he14
  have hs17 := tf_keepC hF1 hqpa rfl (by decide) he15
  rcases hp1 with ⟨rfl, h18⟩ | ⟨rfl⟩
  · refine tf_if_eq (tgt := 17) hx hb ⟨by decide, by decide⟩ dX10_readPart_6 (by decide) (fun h19 => ?_) (fun h19 => ?_)
    · exfalso; omega
    · refine lv_aload_n hx hb dX10_readPart_9 rfl (lv_at hl 0 rfl) ?_
      refine tf_bipush hx hb dX10_readPart_10 (by decide) ?_
      refine tf_callv (va_runV (As := [.int (Int32.ofInt 31)]) (rest := []) ⟨hx, hb, hml, hown, hts⟩ (c_X10_openBracket l g T a0 ha0 (31) ⟨by omega, by omega⟩ qpi hqpi qpa hqpa (gn) ⟨by omega, by omega⟩ (gf) ⟨by omega, by omega⟩ (gt) ⟨by omega, by omega⟩ (gs) ⟨by omega, by omega⟩ (gw) ⟨by omega, by omega⟩ (gb) ⟨by omega, by omega⟩ (gc) ⟨by omega, by omega⟩ (gp) ⟨by omega, by omega⟩ rpi rpa (by first | omega | assumption) (by first | omega | assumption) (by first | omega | assumption) (by first | omega | assumption)) (cwV 1 hts gv_X10_274 rfl rfl rfl hd_X10_openBracket ⟨Nat.le_trans (by decide) hR1, Nat.le_trans (by decide) hR2⟩) (tf_preV hk hW ha0 (ci := 10) rfl rfl ⟨hs4, hs5, hs6, hs7, hs8, hs9, hs10, hs11, hs12, hs13, hs16, hs17⟩) rfl rfl hl.1 rfl (lv_room (Nat.le_of_ble_eq_true rfl)) dX10_readPart_12 ⟨Nat.zero_le _, Nat.zero_le _⟩) hW (by decide) (fun HB locsB hW hFB hpB => ?_)
      have hs20 := tf_keepF hFB ha0 rfl rfl (by decide) hs2
      have hs21 := tf_keepF hFB ha0 rfl rfl (by decide) hs3
      have hs22 := tf_keepF hFB ha0 rfl rfl (by decide) hs4
      have hs23 := tf_keepF hFB ha0 rfl rfl (by decide) hs5
      have hs24 := tf_keepF hFB ha0 rfl rfl (by decide) hs6
      have hs25 := tf_keepF hFB ha0 rfl rfl (by decide) hs12
      have hs26 := tf_keepC hFB hqop rfl (by decide) hs14
      have hs27 := tf_keepC hFB hqar rfl (by decide) hs15
      obtain ⟨gb1_B, gf1_B, gt1_B, gs1_B, gw1_B, gp1_B, rpi1_B, rpa1_B, hXB_0, hXB_1, hXB_2, hXB_3, hXB_4, hXB_5, hXB_6, hXB_7, hBB_0, hBB_1, hBB_2, hBB_3, hBB_4, hBB_5, hRB_0, hRB_1, hRB_2⟩ := hpB
      refine tf_iconst hx hb dX10_readPart_15 ?_
      exact tf_reti (z := 1) hx hb hr hlocks hQ hW ⟨by omega, by omega, ⟨(gb1_B), (gf1_B), (gt1_B), (gs1_B), (gw1_B), (gc), (gp1_B), rop, rar, rpi1_B, rpa1_B, hXB_0, hXB_1, hXB_2, hXB_3, hXB_4, hs25, hXB_5, hs26, hs27, hXB_6, hXB_7, ⟨by omega, by omega⟩, ⟨by omega, by omega⟩, ⟨by omega, by omega⟩, ⟨by omega, by omega⟩, ⟨by omega, by omega⟩, ⟨by omega, by omega⟩, ⟨by omega, by omega⟩, (by first | omega | assumption), (by first | omega | assumption), (tf_ob hRB_2 hq3 hq4 (by omega)).1, (tf_ob hRB_2 hq3 hq4 (by omega)).2, (by first | omega | assumption)⟩⟩ dX10_readPart_16
  · refine tf_if_eq (tgt := 17) hx hb ⟨by decide, by decide⟩ dX10_readPart_6 (by decide) (fun h28 => ?_) (fun h28 => ?_)
    · refine lv_aload_n hx hb dX10_readPart_17 rfl (lv_at hl 0 rfl) ?_
      refine tf_calli (va_runV (As := []) (rest := []) ⟨hx, hb, hml, hown, hts⟩ (c_X10_partAt l g T a0 ha0 (gs) ⟨by omega, by omega⟩ (gw) ⟨by omega, by omega⟩) (cwV 0 hts gv_X10_277 rfl rfl rfl hd_X10_partAt ⟨Nat.le_trans (by decide) hR1, Nat.le_trans (by decide) hR2⟩) (tf_preV hk hW ha0 (ci := 10) rfl rfl ⟨hs9, hs10⟩) rfl rfl hl.1 rfl (lv_room (Nat.le_of_ble_eq_true rfl)) dX10_readPart_18 ⟨Nat.zero_le _, Nat.zero_le _⟩) hW (by decide) (fun z29 H29 locs29 hW hF29 hp29 => ?_)
      have hs30 := tf_keepF hF29 ha0 rfl rfl (by decide) hs2
      have hs31 := tf_keepF hF29 ha0 rfl rfl (by decide) hs3
      have hs32 := tf_keepF hF29 ha0 rfl rfl (by decide) hs4
      have hs33 := tf_keepF hF29 ha0 rfl rfl (by decide) hs5
      have hs34 := tf_keepF hF29 ha0 rfl rfl (by decide) hs6
      have hs35 := tf_keepF hF29 ha0 rfl rfl (by decide) hs7
      have hs36 := tf_keepF hF29 ha0 rfl rfl (by decide) hs8
      have hs37 := tf_keepF hF29 ha0 rfl rfl (by decide) hs9
      have hs38 := tf_keepF hF29 ha0 rfl rfl (by decide) hs10
      have hs39 := tf_keepF hF29 ha0 rfl rfl (by decide) hs11
      have hs40 := tf_keepF hF29 ha0 rfl rfl (by decide) hs12
      have hs41 := tf_keepF hF29 ha0 rfl rfl (by decide) hs13
      have hs42 := tf_keepC hF29 hqop rfl (by decide) hs14
      have hs43 := tf_keepC hF29 hqar rfl (by decide) hs15
      have hs44 := tf_keepC hF29 hqpi rfl (by decide) hs16
      have hs45 := tf_keepC hF29 hqpa rfl (by decide) hs17
      obtain ⟨hp29_0, hp29_1, hp29_2⟩ := hp29
      refine lv_istore_n (lv' := [(1, .int (Int32.ofInt z29)), (0, .ref a0)]) hx hb dX10_readPart_21 rfl hl (by decide) rfl (fun ls hl => ?_)
      refine lv_aload_n hx hb dX10_readPart_22 rfl (lv_at hl 1 rfl) ?_
      refine tf_get hx hb hts inlX10 hown hK (ci := 10) rfl hW ha0 rfl 11 rfl (by decide) (hts _ fl_X10_220) dX10_readPart_23 (fun v46 hv46 hsv46 => ?_)
      obtain rfl : v46 = .int (Int32.ofInt gs) := Option.some.inj (hsv46.symm.trans hs37)
      refine tf_iconst hx hb dX10_readPart_26 ?_
      refine tf_icmp_ne (tgt := 45) hx hb ⟨by omega, by omega⟩ ⟨by decide, by decide⟩ dX10_readPart_27 (by decide) (fun h47 => ?_) (fun h47 => ?_)
      · refine tf_iconst hx hb dX10_readPart_45 ?_
        refine lv_istore_n (lv' := [(2, .int (Int32.ofInt 0)), (1, .int (Int32.ofInt z29)), (0, .ref a0)]) hx hb dX10_readPart_46 rfl hl (by decide) rfl (fun ls hl => ?_)
        refine lv_aload_n hx hb dX10_readPart_47 rfl (lv_at hl 2 rfl) ?_
        refine lv_iload_n hx hb dX10_readPart_48 rfl (lv_at hl 1 rfl) ?_
        refine tf_iconst hx hb dX10_readPart_49 ?_
        refine tf_icmp_ne (tgt := 57) hx hb ⟨by omega, by omega⟩ ⟨by decide, by decide⟩ dX10_readPart_50 (by decide) (fun h48 => ?_) (fun h48 => ?_)
        · refine tf_iconst hx hb dX10_readPart_57 ?_
          refine lv_goto (tgt := 62) hx hb dX10_readPart_58 (by decide) ?_
          refine lv_iload_n hx hb dX10_readPart_62 rfl (lv_at hl 1 rfl) ?_
          refine tf_iconst hx hb dX10_readPart_63 ?_
          refine tf_icmp_ne (tgt := 71) hx hb ⟨by omega, by omega⟩ ⟨by decide, by decide⟩ dX10_readPart_64 (by decide) (fun h49 => ?_) (fun h49 => ?_)
          · refine lv_iload_n hx hb dX10_readPart_71 rfl (lv_at hl 1 rfl) ?_
            refine lv_iload_n hx hb dX10_readPart_72 rfl (lv_at hl 0 rfl) ?_
            refine tf_if_eq (tgt := 84) hx hb ⟨by decide, by decide⟩ dX10_readPart_73 (by decide) (fun h50 => ?_) (fun h50 => ?_)
            · refine tf_iconst hx hb dX10_readPart_84 ?_
              refine tf_callv (va_runV (As := [.int (Int32.ofInt 1), .int (Int32.ofInt z29), .int (Int32.ofInt 0)]) (rest := []) ⟨hx, hb, hml, hown, hts⟩ (c_X10_leaf l g T a0 ha0 (1) ⟨by omega, by omega⟩ (z29) ⟨by omega, by omega⟩ (0) ⟨by omega, by omega⟩ qop hqop qar hqar (gn) ⟨by omega, by omega⟩ (gf) ⟨by omega, by omega⟩ (gt) ⟨by omega, by omega⟩ (gs) ⟨by omega, by omega⟩ (gw) ⟨by omega, by omega⟩ (gb) ⟨by omega, by omega⟩ (gc) ⟨by omega, by omega⟩ (gp) ⟨by omega, by omega⟩ rop rar (by first | omega | assumption) (by first | omega | assumption) (by first | omega | assumption) (by first | omega | assumption)) (cwV 3 hts gv_X10_282 rfl rfl rfl hd_X10_leaf ⟨Nat.le_trans (by decide) hR1, Nat.le_trans (by decide) hR2⟩) (tf_preV hk hW ha0 (ci := 10) rfl rfl ⟨hs30, hs31, hs34, hs35, hs36, hs37, hs38, hs39, hs40, hs41, hs42, hs43⟩) rfl rfl hl.1 rfl (lv_room (Nat.le_of_ble_eq_true rfl)) dX10_readPart_85 ⟨Nat.zero_le _, Nat.zero_le _⟩) hW (by decide) (fun HF locsF hW hFF hpF => ?_)
              have hs51 := tf_keepF hFF ha0 rfl rfl (by decide) hs30
              have hs52 := tf_keepF hFF ha0 rfl rfl (by decide) hs31
              have hs53 := tf_keepF hFF ha0 rfl rfl (by decide) hs32
              have hs54 := tf_keepF hFF ha0 rfl rfl (by decide) hs33
              have hs55 := tf_keepF hFF ha0 rfl rfl (by decide) hs34
              have hs56 := tf_keepF hFF ha0 rfl rfl (by decide) hs41
              have hs57 := tf_keepC hFF hqpi rfl (by decide) hs44
              have hs58 := tf_keepC hFF hqpa rfl (by decide) hs45
              obtain ⟨gb1_F, gf1_F, gt1_F, gs1_F, gw1_F, gc1_F, rop1_F, rar1_F, hXF_0, hXF_1, hXF_2, hXF_3, hXF_4, hXF_5, hXF_6, hXF_7, hBF_0, hBF_1, hBF_2, hBF_3, hBF_4, hBF_5, hRF_0, hRF_1, hRF_2⟩ := hpF
              refine tf_iconst hx hb dX10_readPart_88 ?_
              exact tf_reti (z := 3) hx hb hr hlocks hQ hW ⟨by omega, by omega, ⟨(gb1_F), (gf1_F), (gt1_F), (gs1_F), (gw1_F), (gc1_F), (gp), rop1_F, rar1_F, rpi, rpa, hXF_0, hXF_1, hXF_2, hXF_3, hXF_4, hXF_5, hs56, hXF_6, hXF_7, hs57, hs58, ⟨by omega, by omega⟩, ⟨by omega, by omega⟩, ⟨by omega, by omega⟩, ⟨by omega, by omega⟩, ⟨by omega, by omega⟩, ⟨by omega, by omega⟩, ⟨by omega, by omega⟩, (by first | omega | assumption), (by first | omega | assumption), (tf_lf hRF_2 hq3 hq4 (by omega) (by omega) (by omega)).1, (tf_lf hRF_2 hq3 hq4 (by omega) (by omega) (by omega)).2, (by first | omega | assumption)⟩⟩ dX10_readPart_89
            · exfalso; omega
          · exfalso; omega
        · refine lv_iload_n hx hb dX10_readPart_53 rfl (lv_at hl 0 rfl) ?_
          refine tf_if_eq (tgt := 61) hx hb ⟨by decide, by decide⟩ dX10_readPart_54 (by decide) (fun h59 => ?_) (fun h59 => ?_)
          · refine tf_iconst hx hb dX10_readPart_61 ?_
            refine lv_iload_n hx hb dX10_readPart_62 rfl (lv_at hl 1 rfl) ?_
            refine tf_iconst hx hb dX10_readPart_63 ?_
            refine tf_icmp_ne (tgt := 71) hx hb ⟨by omega, by omega⟩ ⟨by decide, by decide⟩ dX10_readPart_64 (by decide) (fun h60 => ?_) (fun h60 => ?_)
            · exfalso; omega
            · refine tf_iconst hx hb dX10_readPart_67 ?_
              refine lv_goto (tgt := 72) hx hb dX10_readPart_68 (by decide) ?_
              refine lv_iload_n hx hb dX10_readPart_72 rfl (lv_at hl 0 rfl) ?_
              refine tf_if_eq (tgt := 84) hx hb ⟨by decide, by decide⟩ dX10_readPart_73 (by decide) (fun h61 => ?_) (fun h61 => ?_)
              · refine tf_iconst hx hb dX10_readPart_84 ?_
                refine tf_callv (va_runV (As := [.int (Int32.ofInt 0), .int (Int32.ofInt 0), .int (Int32.ofInt 0)]) (rest := []) ⟨hx, hb, hml, hown, hts⟩ (c_X10_leaf l g T a0 ha0 (0) ⟨by omega, by omega⟩ (0) ⟨by omega, by omega⟩ (0) ⟨by omega, by omega⟩ qop hqop qar hqar (gn) ⟨by omega, by omega⟩ (gf) ⟨by omega, by omega⟩ (gt) ⟨by omega, by omega⟩ (gs) ⟨by omega, by omega⟩ (gw) ⟨by omega, by omega⟩ (gb) ⟨by omega, by omega⟩ (gc) ⟨by omega, by omega⟩ (gp) ⟨by omega, by omega⟩ rop rar (by first | omega | assumption) (by first | omega | assumption) (by first | omega | assumption) (by first | omega | assumption)) (cwV 3 hts gv_X10_282 rfl rfl rfl hd_X10_leaf ⟨Nat.le_trans (by decide) hR1, Nat.le_trans (by decide) hR2⟩) (tf_preV hk hW ha0 (ci := 10) rfl rfl ⟨hs30, hs31, hs34, hs35, hs36, hs37, hs38, hs39, hs40, hs41, hs42, hs43⟩) rfl rfl hl.1 rfl (lv_room (Nat.le_of_ble_eq_true rfl)) dX10_readPart_85 ⟨Nat.zero_le _, Nat.zero_le _⟩) hW (by decide) (fun HF locsF hW hFF hpF => ?_)
                have hs62 := tf_keepF hFF ha0 rfl rfl (by decide) hs30
                have hs63 := tf_keepF hFF ha0 rfl rfl (by decide) hs31
                have hs64 := tf_keepF hFF ha0 rfl rfl (by decide) hs32
                have hs65 := tf_keepF hFF ha0 rfl rfl (by decide) hs33
                have hs66 := tf_keepF hFF ha0 rfl rfl (by decide) hs34
                have hs67 := tf_keepF hFF ha0 rfl rfl (by decide) hs41
                have hs68 := tf_keepC hFF hqpi rfl (by decide) hs44
                have hs69 := tf_keepC hFF hqpa rfl (by decide) hs45
                obtain ⟨gb1_F, gf1_F, gt1_F, gs1_F, gw1_F, gc1_F, rop1_F, rar1_F, hXF_0, hXF_1, hXF_2, hXF_3, hXF_4, hXF_5, hXF_6, hXF_7, hBF_0, hBF_1, hBF_2, hBF_3, hBF_4, hBF_5, hRF_0, hRF_1, hRF_2⟩ := hpF
                refine tf_iconst hx hb dX10_readPart_88 ?_
                exact tf_reti (z := 3) hx hb hr hlocks hQ hW ⟨by omega, by omega, ⟨(gb1_F), (gf1_F), (gt1_F), (gs1_F), (gw1_F), (gc1_F), (gp), rop1_F, rar1_F, rpi, rpa, hXF_0, hXF_1, hXF_2, hXF_3, hXF_4, hXF_5, hs67, hXF_6, hXF_7, hs68, hs69, ⟨by omega, by omega⟩, ⟨by omega, by omega⟩, ⟨by omega, by omega⟩, ⟨by omega, by omega⟩, ⟨by omega, by omega⟩, ⟨by omega, by omega⟩, ⟨by omega, by omega⟩, (by first | omega | assumption), (by first | omega | assumption), (tf_lf hRF_2 hq3 hq4 (by omega) (by omega) (by omega)).1, (tf_lf hRF_2 hq3 hq4 (by omega) (by omega) (by omega)).2, (by first | omega | assumption)⟩⟩ dX10_readPart_89
              · exfalso; omega
          · exfalso; omega
      · refine lv_aload_n hx hb dX10_readPart_30 rfl (lv_at hl 1 rfl) ?_
        refine tf_get hx hb hts inlX10 hown hK (ci := 10) rfl hW ha0 rfl 12 rfl (by decide) (hts _ fl_X10_210) dX10_readPart_31 (fun v70 hv70 hsv70 => ?_)
        obtain rfl : v70 = .long (Int64.ofInt gw) := Option.some.inj (hsv70.symm.trans hs38)
        refine tf_ldc2 (z := 1000) hx hb hown (hts _ kl_X10_280) (by decide) dX10_readPart_34 ?_
        refine tf_lcmp hx hb ⟨by omega, by omega⟩ ⟨by omega, by omega⟩ dX10_readPart_37 (fun z71 hz71 => ?_)
        refine tf_if_gt (tgt := 45) hx hb ⟨by omega, by omega⟩ dX10_readPart_38 (by decide) (fun h72 => ?_) (fun h72 => ?_)
        · refine tf_iconst hx hb dX10_readPart_45 ?_
          refine lv_istore_n (lv' := [(2, .int (Int32.ofInt 0)), (1, .int (Int32.ofInt z29)), (0, .ref a0)]) hx hb dX10_readPart_46 rfl hl (by decide) rfl (fun ls hl => ?_)
          refine lv_aload_n hx hb dX10_readPart_47 rfl (lv_at hl 2 rfl) ?_
          refine lv_iload_n hx hb dX10_readPart_48 rfl (lv_at hl 1 rfl) ?_
          refine tf_iconst hx hb dX10_readPart_49 ?_
          refine tf_icmp_ne (tgt := 57) hx hb ⟨by omega, by omega⟩ ⟨by decide, by decide⟩ dX10_readPart_50 (by decide) (fun h73 => ?_) (fun h73 => ?_)
          · refine tf_iconst hx hb dX10_readPart_57 ?_
            refine lv_goto (tgt := 62) hx hb dX10_readPart_58 (by decide) ?_
            refine lv_iload_n hx hb dX10_readPart_62 rfl (lv_at hl 1 rfl) ?_
            refine tf_iconst hx hb dX10_readPart_63 ?_
            refine tf_icmp_ne (tgt := 71) hx hb ⟨by omega, by omega⟩ ⟨by decide, by decide⟩ dX10_readPart_64 (by decide) (fun h74 => ?_) (fun h74 => ?_)
            · refine lv_iload_n hx hb dX10_readPart_71 rfl (lv_at hl 1 rfl) ?_
              refine lv_iload_n hx hb dX10_readPart_72 rfl (lv_at hl 0 rfl) ?_
              refine tf_if_eq (tgt := 84) hx hb ⟨by decide, by decide⟩ dX10_readPart_73 (by decide) (fun h75 => ?_) (fun h75 => ?_)
              · refine tf_iconst hx hb dX10_readPart_84 ?_
                refine tf_callv (va_runV (As := [.int (Int32.ofInt 1), .int (Int32.ofInt z29), .int (Int32.ofInt 0)]) (rest := []) ⟨hx, hb, hml, hown, hts⟩ (c_X10_leaf l g T a0 ha0 (1) ⟨by omega, by omega⟩ (z29) ⟨by omega, by omega⟩ (0) ⟨by omega, by omega⟩ qop hqop qar hqar (gn) ⟨by omega, by omega⟩ (gf) ⟨by omega, by omega⟩ (gt) ⟨by omega, by omega⟩ (gs) ⟨by omega, by omega⟩ (gw) ⟨by omega, by omega⟩ (gb) ⟨by omega, by omega⟩ (gc) ⟨by omega, by omega⟩ (gp) ⟨by omega, by omega⟩ rop rar (by first | omega | assumption) (by first | omega | assumption) (by first | omega | assumption) (by first | omega | assumption)) (cwV 3 hts gv_X10_282 rfl rfl rfl hd_X10_leaf ⟨Nat.le_trans (by decide) hR1, Nat.le_trans (by decide) hR2⟩) (tf_preV hk hW ha0 (ci := 10) rfl rfl ⟨hs30, hs31, hs34, hs35, hs36, hs37, hs38, hs39, hs40, hs41, hs42, hs43⟩) rfl rfl hl.1 rfl (lv_room (Nat.le_of_ble_eq_true rfl)) dX10_readPart_85 ⟨Nat.zero_le _, Nat.zero_le _⟩) hW (by decide) (fun HF locsF hW hFF hpF => ?_)
                have hs76 := tf_keepF hFF ha0 rfl rfl (by decide) hs30
                have hs77 := tf_keepF hFF ha0 rfl rfl (by decide) hs31
                have hs78 := tf_keepF hFF ha0 rfl rfl (by decide) hs32
                have hs79 := tf_keepF hFF ha0 rfl rfl (by decide) hs33
                have hs80 := tf_keepF hFF ha0 rfl rfl (by decide) hs34
                have hs81 := tf_keepF hFF ha0 rfl rfl (by decide) hs41
                have hs82 := tf_keepC hFF hqpi rfl (by decide) hs44
                have hs83 := tf_keepC hFF hqpa rfl (by decide) hs45
                obtain ⟨gb1_F, gf1_F, gt1_F, gs1_F, gw1_F, gc1_F, rop1_F, rar1_F, hXF_0, hXF_1, hXF_2, hXF_3, hXF_4, hXF_5, hXF_6, hXF_7, hBF_0, hBF_1, hBF_2, hBF_3, hBF_4, hBF_5, hRF_0, hRF_1, hRF_2⟩ := hpF
                refine tf_iconst hx hb dX10_readPart_88 ?_
                exact tf_reti (z := 3) hx hb hr hlocks hQ hW ⟨by omega, by omega, ⟨(gb1_F), (gf1_F), (gt1_F), (gs1_F), (gw1_F), (gc1_F), (gp), rop1_F, rar1_F, rpi, rpa, hXF_0, hXF_1, hXF_2, hXF_3, hXF_4, hXF_5, hs81, hXF_6, hXF_7, hs82, hs83, ⟨by omega, by omega⟩, ⟨by omega, by omega⟩, ⟨by omega, by omega⟩, ⟨by omega, by omega⟩, ⟨by omega, by omega⟩, ⟨by omega, by omega⟩, ⟨by omega, by omega⟩, (by first | omega | assumption), (by first | omega | assumption), (tf_lf hRF_2 hq3 hq4 (by omega) (by omega) (by omega)).1, (tf_lf hRF_2 hq3 hq4 (by omega) (by omega) (by omega)).2, (by first | omega | assumption)⟩⟩ dX10_readPart_89
              · exfalso; omega
            · exfalso; omega
          · refine lv_iload_n hx hb dX10_readPart_53 rfl (lv_at hl 0 rfl) ?_
            refine tf_if_eq (tgt := 61) hx hb ⟨by decide, by decide⟩ dX10_readPart_54 (by decide) (fun h84 => ?_) (fun h84 => ?_)
            · refine tf_iconst hx hb dX10_readPart_61 ?_
              refine lv_iload_n hx hb dX10_readPart_62 rfl (lv_at hl 1 rfl) ?_
              refine tf_iconst hx hb dX10_readPart_63 ?_
              refine tf_icmp_ne (tgt := 71) hx hb ⟨by omega, by omega⟩ ⟨by decide, by decide⟩ dX10_readPart_64 (by decide) (fun h85 => ?_) (fun h85 => ?_)
              · exfalso; omega
              · refine tf_iconst hx hb dX10_readPart_67 ?_
                refine lv_goto (tgt := 72) hx hb dX10_readPart_68 (by decide) ?_
                refine lv_iload_n hx hb dX10_readPart_72 rfl (lv_at hl 0 rfl) ?_
                refine tf_if_eq (tgt := 84) hx hb ⟨by decide, by decide⟩ dX10_readPart_73 (by decide) (fun h86 => ?_) (fun h86 => ?_)
                · refine tf_iconst hx hb dX10_readPart_84 ?_
                  refine tf_callv (va_runV (As := [.int (Int32.ofInt 0), .int (Int32.ofInt 0), .int (Int32.ofInt 0)]) (rest := []) ⟨hx, hb, hml, hown, hts⟩ (c_X10_leaf l g T a0 ha0 (0) ⟨by omega, by omega⟩ (0) ⟨by omega, by omega⟩ (0) ⟨by omega, by omega⟩ qop hqop qar hqar (gn) ⟨by omega, by omega⟩ (gf) ⟨by omega, by omega⟩ (gt) ⟨by omega, by omega⟩ (gs) ⟨by omega, by omega⟩ (gw) ⟨by omega, by omega⟩ (gb) ⟨by omega, by omega⟩ (gc) ⟨by omega, by omega⟩ (gp) ⟨by omega, by omega⟩ rop rar (by first | omega | assumption) (by first | omega | assumption) (by first | omega | assumption) (by first | omega | assumption)) (cwV 3 hts gv_X10_282 rfl rfl rfl hd_X10_leaf ⟨Nat.le_trans (by decide) hR1, Nat.le_trans (by decide) hR2⟩) (tf_preV hk hW ha0 (ci := 10) rfl rfl ⟨hs30, hs31, hs34, hs35, hs36, hs37, hs38, hs39, hs40, hs41, hs42, hs43⟩) rfl rfl hl.1 rfl (lv_room (Nat.le_of_ble_eq_true rfl)) dX10_readPart_85 ⟨Nat.zero_le _, Nat.zero_le _⟩) hW (by decide) (fun HF locsF hW hFF hpF => ?_)
                  have hs87 := tf_keepF hFF ha0 rfl rfl (by decide) hs30
                  have hs88 := tf_keepF hFF ha0 rfl rfl (by decide) hs31
                  have hs89 := tf_keepF hFF ha0 rfl rfl (by decide) hs32
                  have hs90 := tf_keepF hFF ha0 rfl rfl (by decide) hs33
                  have hs91 := tf_keepF hFF ha0 rfl rfl (by decide) hs34
                  have hs92 := tf_keepF hFF ha0 rfl rfl (by decide) hs41
                  have hs93 := tf_keepC hFF hqpi rfl (by decide) hs44
                  have hs94 := tf_keepC hFF hqpa rfl (by decide) hs45
                  obtain ⟨gb1_F, gf1_F, gt1_F, gs1_F, gw1_F, gc1_F, rop1_F, rar1_F, hXF_0, hXF_1, hXF_2, hXF_3, hXF_4, hXF_5, hXF_6, hXF_7, hBF_0, hBF_1, hBF_2, hBF_3, hBF_4, hBF_5, hRF_0, hRF_1, hRF_2⟩ := hpF
                  refine tf_iconst hx hb dX10_readPart_88 ?_
                  exact tf_reti (z := 3) hx hb hr hlocks hQ hW ⟨by omega, by omega, ⟨(gb1_F), (gf1_F), (gt1_F), (gs1_F), (gw1_F), (gc1_F), (gp), rop1_F, rar1_F, rpi, rpa, hXF_0, hXF_1, hXF_2, hXF_3, hXF_4, hXF_5, hs92, hXF_6, hXF_7, hs93, hs94, ⟨by omega, by omega⟩, ⟨by omega, by omega⟩, ⟨by omega, by omega⟩, ⟨by omega, by omega⟩, ⟨by omega, by omega⟩, ⟨by omega, by omega⟩, ⟨by omega, by omega⟩, (by first | omega | assumption), (by first | omega | assumption), (tf_lf hRF_2 hq3 hq4 (by omega) (by omega) (by omega)).1, (tf_lf hRF_2 hq3 hq4 (by omega) (by omega) (by omega)).2, (by first | omega | assumption)⟩⟩ dX10_readPart_89
                · exfalso; omega
            · exfalso; omega
        · refine tf_iconst hx hb dX10_readPart_41 ?_
          refine lv_goto (tgt := 46) hx hb dX10_readPart_42 (by decide) ?_
          refine lv_istore_n (lv' := [(2, .int (Int32.ofInt 1)), (1, .int (Int32.ofInt z29)), (0, .ref a0)]) hx hb dX10_readPart_46 rfl hl (by decide) rfl (fun ls hl => ?_)
          refine lv_aload_n hx hb dX10_readPart_47 rfl (lv_at hl 2 rfl) ?_
          refine lv_iload_n hx hb dX10_readPart_48 rfl (lv_at hl 1 rfl) ?_
          refine tf_iconst hx hb dX10_readPart_49 ?_
          refine tf_icmp_ne (tgt := 57) hx hb ⟨by omega, by omega⟩ ⟨by decide, by decide⟩ dX10_readPart_50 (by decide) (fun h95 => ?_) (fun h95 => ?_)
          · refine tf_iconst hx hb dX10_readPart_57 ?_
            refine lv_goto (tgt := 62) hx hb dX10_readPart_58 (by decide) ?_
            refine lv_iload_n hx hb dX10_readPart_62 rfl (lv_at hl 1 rfl) ?_
            refine tf_iconst hx hb dX10_readPart_63 ?_
            refine tf_icmp_ne (tgt := 71) hx hb ⟨by omega, by omega⟩ ⟨by decide, by decide⟩ dX10_readPart_64 (by decide) (fun h96 => ?_) (fun h96 => ?_)
            · refine lv_iload_n hx hb dX10_readPart_71 rfl (lv_at hl 1 rfl) ?_
              refine lv_iload_n hx hb dX10_readPart_72 rfl (lv_at hl 0 rfl) ?_
              refine tf_if_eq (tgt := 84) hx hb ⟨by decide, by decide⟩ dX10_readPart_73 (by decide) (fun h97 => ?_) (fun h97 => ?_)
              · exfalso; omega
              · refine lv_aload_n hx hb dX10_readPart_76 rfl (lv_at hl 2 rfl) ?_
                refine tf_get hx hb hts inlX10 hown hK (ci := 10) rfl hW ha0 rfl 12 rfl (by decide) (hts _ fl_X10_210) dX10_readPart_77 (fun v98 hv98 hsv98 => ?_)
                obtain rfl : v98 = .long (Int64.ofInt gw) := Option.some.inj (hsv98.symm.trans hs38)
                refine tf_l2i_any hx hb dX10_readPart_80 (fun z99 hz99 => ?_)
                refine lv_goto (tgt := 85) hx hb dX10_readPart_81 (by decide) ?_
                refine tf_callv (va_runV (As := [.int (Int32.ofInt 1), .int (Int32.ofInt z29), .int (Int32.ofInt z99)]) (rest := []) ⟨hx, hb, hml, hown, hts⟩ (c_X10_leaf l g T a0 ha0 (1) ⟨by omega, by omega⟩ (z29) ⟨by omega, by omega⟩ (z99) ⟨by omega, by omega⟩ qop hqop qar hqar (gn) ⟨by omega, by omega⟩ (gf) ⟨by omega, by omega⟩ (gt) ⟨by omega, by omega⟩ (gs) ⟨by omega, by omega⟩ (gw) ⟨by omega, by omega⟩ (gb) ⟨by omega, by omega⟩ (gc) ⟨by omega, by omega⟩ (gp) ⟨by omega, by omega⟩ rop rar (by first | omega | assumption) (by first | omega | assumption) (by first | omega | assumption) (by first | omega | assumption)) (cwV 3 hts gv_X10_282 rfl rfl rfl hd_X10_leaf ⟨Nat.le_trans (by decide) hR1, Nat.le_trans (by decide) hR2⟩) (tf_preV hk hW ha0 (ci := 10) rfl rfl ⟨hs30, hs31, hs34, hs35, hs36, hs37, hs38, hs39, hs40, hs41, hs42, hs43⟩) rfl rfl hl.1 rfl (lv_room (Nat.le_of_ble_eq_true rfl)) dX10_readPart_85 ⟨Nat.zero_le _, Nat.zero_le _⟩) hW (by decide) (fun HF locsF hW hFF hpF => ?_)
                have hs100 := tf_keepF hFF ha0 rfl rfl (by decide) hs30
                have hs101 := tf_keepF hFF ha0 rfl rfl (by decide) hs31
                have hs102 := tf_keepF hFF ha0 rfl rfl (by decide) hs32
                have hs103 := tf_keepF hFF ha0 rfl rfl (by decide) hs33
                have hs104 := tf_keepF hFF ha0 rfl rfl (by decide) hs34
                have hs105 := tf_keepF hFF ha0 rfl rfl (by decide) hs41
                have hs106 := tf_keepC hFF hqpi rfl (by decide) hs44
                have hs107 := tf_keepC hFF hqpa rfl (by decide) hs45
                obtain ⟨gb1_F, gf1_F, gt1_F, gs1_F, gw1_F, gc1_F, rop1_F, rar1_F, hXF_0, hXF_1, hXF_2, hXF_3, hXF_4, hXF_5, hXF_6, hXF_7, hBF_0, hBF_1, hBF_2, hBF_3, hBF_4, hBF_5, hRF_0, hRF_1, hRF_2⟩ := hpF
                refine tf_iconst hx hb dX10_readPart_88 ?_
                exact tf_reti (z := 3) hx hb hr hlocks hQ hW ⟨by omega, by omega, ⟨(gb1_F), (gf1_F), (gt1_F), (gs1_F), (gw1_F), (gc1_F), (gp), rop1_F, rar1_F, rpi, rpa, hXF_0, hXF_1, hXF_2, hXF_3, hXF_4, hXF_5, hs105, hXF_6, hXF_7, hs106, hs107, ⟨by omega, by omega⟩, ⟨by omega, by omega⟩, ⟨by omega, by omega⟩, ⟨by omega, by omega⟩, ⟨by omega, by omega⟩, ⟨by omega, by omega⟩, ⟨by omega, by omega⟩, (by first | omega | assumption), (by first | omega | assumption), (tf_lf hRF_2 hq3 hq4 (by omega) (by omega) (by omega)).1, (tf_lf hRF_2 hq3 hq4 (by omega) (by omega) (by omega)).2, (by first | omega | assumption)⟩⟩ dX10_readPart_89
            · exfalso; omega
          · refine lv_iload_n hx hb dX10_readPart_53 rfl (lv_at hl 0 rfl) ?_
            refine tf_if_eq (tgt := 61) hx hb ⟨by decide, by decide⟩ dX10_readPart_54 (by decide) (fun h108 => ?_) (fun h108 => ?_)
            · exfalso; omega
            · refine tf_iconst hx hb dX10_readPart_57 ?_
              refine lv_goto (tgt := 62) hx hb dX10_readPart_58 (by decide) ?_
              refine lv_iload_n hx hb dX10_readPart_62 rfl (lv_at hl 1 rfl) ?_
              refine tf_iconst hx hb dX10_readPart_63 ?_
              refine tf_icmp_ne (tgt := 71) hx hb ⟨by omega, by omega⟩ ⟨by decide, by decide⟩ dX10_readPart_64 (by decide) (fun h109 => ?_) (fun h109 => ?_)
              · exfalso; omega
              · refine tf_iconst hx hb dX10_readPart_67 ?_
                refine lv_goto (tgt := 72) hx hb dX10_readPart_68 (by decide) ?_
                refine lv_iload_n hx hb dX10_readPart_72 rfl (lv_at hl 0 rfl) ?_
                refine tf_if_eq (tgt := 84) hx hb ⟨by decide, by decide⟩ dX10_readPart_73 (by decide) (fun h110 => ?_) (fun h110 => ?_)
                · exfalso; omega
                · refine lv_aload_n hx hb dX10_readPart_76 rfl (lv_at hl 2 rfl) ?_
                  refine tf_get hx hb hts inlX10 hown hK (ci := 10) rfl hW ha0 rfl 12 rfl (by decide) (hts _ fl_X10_210) dX10_readPart_77 (fun v111 hv111 hsv111 => ?_)
                  obtain rfl : v111 = .long (Int64.ofInt gw) := Option.some.inj (hsv111.symm.trans hs38)
                  refine tf_l2i_any hx hb dX10_readPart_80 (fun z112 hz112 => ?_)
                  refine lv_goto (tgt := 85) hx hb dX10_readPart_81 (by decide) ?_
                  refine tf_callv (va_runV (As := [.int (Int32.ofInt 1), .int (Int32.ofInt 0), .int (Int32.ofInt z112)]) (rest := []) ⟨hx, hb, hml, hown, hts⟩ (c_X10_leaf l g T a0 ha0 (1) ⟨by omega, by omega⟩ (0) ⟨by omega, by omega⟩ (z112) ⟨by omega, by omega⟩ qop hqop qar hqar (gn) ⟨by omega, by omega⟩ (gf) ⟨by omega, by omega⟩ (gt) ⟨by omega, by omega⟩ (gs) ⟨by omega, by omega⟩ (gw) ⟨by omega, by omega⟩ (gb) ⟨by omega, by omega⟩ (gc) ⟨by omega, by omega⟩ (gp) ⟨by omega, by omega⟩ rop rar (by first | omega | assumption) (by first | omega | assumption) (by first | omega | assumption) (by first | omega | assumption)) (cwV 3 hts gv_X10_282 rfl rfl rfl hd_X10_leaf ⟨Nat.le_trans (by decide) hR1, Nat.le_trans (by decide) hR2⟩) (tf_preV hk hW ha0 (ci := 10) rfl rfl ⟨hs30, hs31, hs34, hs35, hs36, hs37, hs38, hs39, hs40, hs41, hs42, hs43⟩) rfl rfl hl.1 rfl (lv_room (Nat.le_of_ble_eq_true rfl)) dX10_readPart_85 ⟨Nat.zero_le _, Nat.zero_le _⟩) hW (by decide) (fun HF locsF hW hFF hpF => ?_)
                  have hs113 := tf_keepF hFF ha0 rfl rfl (by decide) hs30
                  have hs114 := tf_keepF hFF ha0 rfl rfl (by decide) hs31
                  have hs115 := tf_keepF hFF ha0 rfl rfl (by decide) hs32
                  have hs116 := tf_keepF hFF ha0 rfl rfl (by decide) hs33
                  have hs117 := tf_keepF hFF ha0 rfl rfl (by decide) hs34
                  have hs118 := tf_keepF hFF ha0 rfl rfl (by decide) hs41
                  have hs119 := tf_keepC hFF hqpi rfl (by decide) hs44
                  have hs120 := tf_keepC hFF hqpa rfl (by decide) hs45
                  obtain ⟨gb1_F, gf1_F, gt1_F, gs1_F, gw1_F, gc1_F, rop1_F, rar1_F, hXF_0, hXF_1, hXF_2, hXF_3, hXF_4, hXF_5, hXF_6, hXF_7, hBF_0, hBF_1, hBF_2, hBF_3, hBF_4, hBF_5, hRF_0, hRF_1, hRF_2⟩ := hpF
                  refine tf_iconst hx hb dX10_readPart_88 ?_
                  exact tf_reti (z := 3) hx hb hr hlocks hQ hW ⟨by omega, by omega, ⟨(gb1_F), (gf1_F), (gt1_F), (gs1_F), (gw1_F), (gc1_F), (gp), rop1_F, rar1_F, rpi, rpa, hXF_0, hXF_1, hXF_2, hXF_3, hXF_4, hXF_5, hs118, hXF_6, hXF_7, hs119, hs120, ⟨by omega, by omega⟩, ⟨by omega, by omega⟩, ⟨by omega, by omega⟩, ⟨by omega, by omega⟩, ⟨by omega, by omega⟩, ⟨by omega, by omega⟩, ⟨by omega, by omega⟩, (by first | omega | assumption), (by first | omega | assumption), (tf_lf hRF_2 hq3 hq4 (by omega) (by omega) (by omega)).1, (tf_lf hRF_2 hq3 hq4 (by omega) (by omega) (by omega)).2, (by first | omega | assumption)⟩⟩ dX10_readPart_89
    · exfalso; omega

abbrev M_X10_readPlain : List (Nat × Nat) := [(33, 0), (34, 0), (35, 0), (36, 0), (50, 9), (50, 10), (50, 11), (50, 12), (50, 13), (50, 14), (50, 17), (50, 20), (50, 23), (50, 24)]
set_option maxHeartbeats 4000000 in
set_option maxRecDepth 100000 in
theorem c_X10_readPlain (l : Launch) (g : tf_G) (T : tf_T) (a0 : Nat) (ha0 : T a0 = some (50, 0)) (fs : Int) (o0 : Int → Int) (u0 : Int → Int) (qop : Nat) (hqop : T qop = some (33, 400)) (qar : Nat) (hqar : T qar = some (34, 400)) (qpi : Nat) (hqpi : T qpi = some (35, 400)) (qpa : Nat) (hqpa : T qpa = some (36, 400)) (gn : Int) (hgn : 0 ≤ gn ∧ gn ≤ 400) (gf : Int) (hgf : 0 ≤ gf ∧ gf ≤ 400) (gt : Int) (hgt : 0 ≤ gt ∧ gt ≤ 400) (gs : Int) (hgs : 0 ≤ gs ∧ gs ≤ 3) (gw : Int) (hgw : (-9223372036854775808) ≤ gw ∧ gw ≤ 9223372036854775807) (gb : Int) (hgb : 0 ≤ gb ∧ gb ≤ 1) (gc : Int) (hgc : 0 ≤ gc ∧ gc ≤ 400) (gp : Int) (hgp : 0 ≤ gp ∧ gp ≤ 400) (rop : Int → Int) (rar : Int → Int) (rpi : Int → Int) (rpa : Int → Int) (hq0 : (gb = 0)) (hq1 : (gc + gp ≤ gf)) (hq2 : (gf ≤ gt ∧ gt ≤ gn ∧ (gs = 0 → gf = gn) ∧ (gs ≠ 0 → gf < gt) ∧ (gs = 1 → 26 < gw → gf + 2 ≤ gt))) (hq3 : (tf_PI o0 u0 rop rar rpi rpa fs gc gp 0)) (hq4 : (tf_NS rpi gp)) : Met l yX10_readPlain (cd_X10_readPlain :: wsL_law) ({ frames := 6, cells := 0, slots := 0, locals := 130 }) (tf_P g T [.ref a0] (fun H => tf_s H a0 (g.1.2 10 18) = some (.ref qop) ∧ tf_s H a0 (g.1.2 10 19) = some (.ref qar) ∧ tf_s H a0 (g.1.2 10 21) = some (.ref qpi) ∧ tf_s H a0 (g.1.2 10 22) = some (.ref qpa) ∧ tf_s H a0 (g.1.2 10 8) = some (.int (Int32.ofInt gn)) ∧ tf_s H a0 (g.1.2 10 9) = some (.int (Int32.ofInt gf)) ∧ tf_s H a0 (g.1.2 10 10) = some (.int (Int32.ofInt gt)) ∧ tf_s H a0 (g.1.2 10 11) = some (.int (Int32.ofInt gs)) ∧ tf_s H a0 (g.1.2 10 12) = some (.long (Int64.ofInt gw)) ∧ tf_s H a0 (g.1.2 10 14) = some (.int (Int32.ofInt gb)) ∧ tf_s H a0 (g.1.2 10 17) = some (.int (Int32.ofInt gc)) ∧ tf_s H a0 (g.1.2 10 23) = some (.int (Int32.ofInt gp)) ∧ tf_rw H qop = rop ∧ tf_rw H qar = rar ∧ tf_rw H qpi = rpi ∧ tf_rw H qpa = rpa)) (tf_Qi g M_X10_readPlain T (fun z _ H => 0 ≤ z ∧ z ≤ 3 ∧ (∃ (gb1 gf1 gt1 gs1 gw1 gc1 gp1 : Int) (rop1 rar1 rpi1 rpa1 : Int → Int), tf_s H a0 (g.1.2 10 14) = some (.int (Int32.ofInt gb1)) ∧ tf_s H a0 (g.1.2 10 9) = some (.int (Int32.ofInt gf1)) ∧ tf_s H a0 (g.1.2 10 10) = some (.int (Int32.ofInt gt1)) ∧ tf_s H a0 (g.1.2 10 11) = some (.int (Int32.ofInt gs1)) ∧ tf_s H a0 (g.1.2 10 12) = some (.long (Int64.ofInt gw1)) ∧ tf_s H a0 (g.1.2 10 17) = some (.int (Int32.ofInt gc1)) ∧ tf_s H a0 (g.1.2 10 23) = some (.int (Int32.ofInt gp1)) ∧ tf_rw H qop = rop1 ∧ tf_rw H qar = rar1 ∧ tf_rw H qpi = rpi1 ∧ tf_rw H qpa = rpa1 ∧ (0 ≤ gb1 ∧ gb1 ≤ 1) ∧ (0 ≤ gf1 ∧ gf1 ≤ 400) ∧ (0 ≤ gt1 ∧ gt1 ≤ 400) ∧ (0 ≤ gs1 ∧ gs1 ≤ 3) ∧ ((-9223372036854775808) ≤ gw1 ∧ gw1 ≤ 9223372036854775807) ∧ (0 ≤ gc1 ∧ gc1 ≤ 400) ∧ (0 ≤ gp1 ∧ gp1 ≤ 400) ∧ (gf1 ≤ gt1 ∧ gt1 ≤ gn ∧ (gs1 = 0 → gf1 = gn) ∧ (gs1 ≠ 0 → gf1 < gt1) ∧ (gs1 = 1 → 26 < gw1 → gf1 + 2 ≤ gt1)) ∧ (gc1 + gp1 ≤ gf1) ∧ (tf_PB rpi1 rpa1 gp1) ∧ (gb1 = 1 ∨ tf_ST z o0 u0 rop1 rar1 rpi1 rpa1 fs gc1 gp1) ∧ (gf < gf1 ∨ (gf1 = gf ∧ (gb1 = 1)))))) 0 0 (fun q => tf_B g ≤ q) := by
  refine Met.ofW (cc := cX10_readPlain) (maxL := 1) (ret := (some .int)) (by decide) rfl ?_
  intro p e s m args below meth c s₁ B hml hv
  obtain ⟨hargs, hk, hW0, hB, hpre⟩ := hv
  obtain ⟨he0, he1, he2, he3, he4, he5, he6, he7, he8, he9, he10, he11, he12, he13, he14, he15⟩ := hpre
  have hx := B.exec
  have hb := B.bytes
  have hr := B.returns
  have hts : ∀ w ∈ wsL_law, w.before args s = true := fun w h => atoms_spec (ws := cd_X10_readPlain :: wsL_law) B.pre w (List.mem_cons_of_mem _ h)
  have hown : s.vm.findClass RX10 = some m.cls := findClass_of_methodNamed B.named
  have hlocks := B.notSynchronized
  have hK := hk.1
  have hW := tf_n.start (M := M_X10_readPlain) hW0 hB
  obtain ⟨Q, hQ⟩ : ∃ q, q = MQ below (tf_Qi g M_X10_readPlain T (fun z _ H => 0 ≤ z ∧ z ≤ 3 ∧ (∃ (gb1 gf1 gt1 gs1 gw1 gc1 gp1 : Int) (rop1 rar1 rpi1 rpa1 : Int → Int), tf_s H a0 (g.1.2 10 14) = some (.int (Int32.ofInt gb1)) ∧ tf_s H a0 (g.1.2 10 9) = some (.int (Int32.ofInt gf1)) ∧ tf_s H a0 (g.1.2 10 10) = some (.int (Int32.ofInt gt1)) ∧ tf_s H a0 (g.1.2 10 11) = some (.int (Int32.ofInt gs1)) ∧ tf_s H a0 (g.1.2 10 12) = some (.long (Int64.ofInt gw1)) ∧ tf_s H a0 (g.1.2 10 17) = some (.int (Int32.ofInt gc1)) ∧ tf_s H a0 (g.1.2 10 23) = some (.int (Int32.ofInt gp1)) ∧ tf_rw H qop = rop1 ∧ tf_rw H qar = rar1 ∧ tf_rw H qpi = rpi1 ∧ tf_rw H qpa = rpa1 ∧ (0 ≤ gb1 ∧ gb1 ≤ 1) ∧ (0 ≤ gf1 ∧ gf1 ≤ 400) ∧ (0 ≤ gt1 ∧ gt1 ≤ 400) ∧ (0 ≤ gs1 ∧ gs1 ≤ 3) ∧ ((-9223372036854775808) ≤ gw1 ∧ gw1 ≤ 9223372036854775807) ∧ (0 ≤ gc1 ∧ gc1 ≤ 400) ∧ (0 ≤ gp1 ∧ gp1 ≤ 400) ∧ (gf1 ≤ gt1 ∧ gt1 ≤ gn ∧ (gs1 = 0 → gf1 = gn) ∧ (gs1 ≠ 0 → gf1 < gt1) ∧ (gs1 = 1 → 26 < gw1 → gf1 + 2 ≤ gt1)) ∧ (gc1 + gp1 ≤ gf1) ∧ (tf_PB rpi1 rpa1 gp1) ∧ (gb1 = 1 ∨ tf_ST z o0 u0 rop1 rar1 rpi1 rpa1 fs gc1 gp1) ∧ (gf < gf1 ∨ (gf1 = gf ∧ (gb1 = 1)))))) args s 0 0 (fun q => tf_B g ≤ q) := ⟨_, rfl⟩
  rw [← hQ]
  obtain ⟨R, hR⟩ : ∃ q, q = (headSpec (cd_X10_readPlain :: wsL_law) ({ frames := 6, cells := 0, slots := 0, locals := 130 })).room := ⟨_, rfl⟩
  rw [← hR]
  have hR1 : 6 ≤ R.frames := by rw [hR]; exact Nat.le_refl _
  have hR2 : 130 ≤ R.locals := by rw [hR]; exact Nat.le_refl _
  have hR3 : 0 ≤ R.cells := by rw [hR]; exact Nat.le_refl _
  have hR4 : 0 ≤ R.slots := by rw [hR]; exact Nat.le_refl _
  have hin := (name_of_methodNamed B.named B.method).1
  clear hR B
  refine tf_enter (As := [.ref a0]) hargs (Nat.le_of_ble_eq_true rfl) (fun ls hl => ?_)
  have hl : lv_has ls 1 [(0, .ref a0)] := hl
  refine lv_aload_n hx hb dX10_readPlain_0 rfl (lv_at hl 0 rfl) ?_
  refine tf_ldc2 (z := 14836) hx hb hown (hts _ kl_X10_286) (by decide) dX10_readPlain_1 ?_
  refine tf_calli (va_runV (As := [.long (Int64.ofInt 14836)]) (rest := []) ⟨hx, hb, hml, hown, hts⟩ (c_X10_isWord l g T a0 ha0 (14836) ⟨by omega, by omega⟩ (gs) ⟨by omega, by omega⟩ (gw) ⟨by omega, by omega⟩) (cwV 1 hts gv_X10_258 rfl rfl rfl hd_X10_isWord ⟨Nat.le_trans (by decide) hR1, Nat.le_trans (by decide) hR2⟩) (tf_preV hk hW ha0 (ci := 10) rfl rfl ⟨he7, he8⟩) rfl rfl hl.1 rfl (lv_room (Nat.le_of_ble_eq_true rfl)) dX10_readPlain_4 ⟨Nat.zero_le _, Nat.zero_le _⟩) hW (by decide) (fun z1 H1 locs1 hW hF1 hp1 => ?_)
  have hs2 := tf_keepF hF1 ha0 rfl rfl (by decide) he0
  have hs3 := tf_keepF hF1 ha0 rfl rfl (by decide) he1
  have hs4 := tf_keepF hF1 ha0 rfl rfl (by decide) he2
  have hs5 := tf_keepF hF1 ha0 rfl rfl (by decide) he3
  have hs6 := tf_keepF hF1 ha0 rfl rfl (by decide) he4
  have hs7 := tf_keepF hF1 ha0 rfl rfl (by decide) he5
  have hs8 := tf_keepF hF1 ha0 rfl rfl (by decide) he6
  have hs9 := tf_keepF hF1 ha0 rfl rfl (by decide) he7
  have hs10 := tf_keepF hF1 ha0 rfl rfl (by decide) he8
  have hs11 := tf_keepF hF1 ha0 rfl rfl (by decide) he9
  have hs12 := tf_keepF hF1 ha0 rfl rfl (by decide) he10
  have hs13 := tf_keepF hF1 ha0 rfl rfl (by decide) he11
  have hs14 := tf_keepC hF1 hqop rfl (by decide) he12
  have hs15 := tf_keepC hF1 hqar rfl (by decide) he13
  have hs16 := tf_keepC hF1 hqpi rfl (by decide) he14
  have hs17 := tf_keepC hF1 hqpa rfl (by decide) he15
  rcases hp1 with ⟨rfl, h18⟩ | ⟨rfl⟩
  · refine tf_if_eq (tgt := 23) hx hb ⟨by decide, by decide⟩ dX10_readPlain_7 (by decide) (fun h19 => ?_) (fun h19 => ?_)
    · exfalso; omega
    · refine lv_aload_n hx hb dX10_readPlain_10 rfl (lv_at hl 0 rfl) ?_
      refine tf_bipush hx hb dX10_readPlain_11 (by decide) ?_
      refine tf_iconst hx hb dX10_readPlain_13 ?_
      refine tf_callv (va_runV (As := [.int (Int32.ofInt 27), .int (Int32.ofInt 0)]) (rest := []) ⟨hx, hb, hml, hown, hts⟩ (c_X10_push l g T a0 ha0 (27) ⟨by omega, by omega⟩ (0) ⟨by omega, by omega⟩ qpi hqpi qpa hqpa (gp) ⟨by omega, by omega⟩ rpi rpa) (cwV 2 hts gv_X10_265 rfl rfl rfl hd_X10_push ⟨Nat.le_trans (by decide) hR1, Nat.le_trans (by decide) hR2⟩) (tf_preV hk hW ha0 (ci := 10) rfl rfl ⟨hs4, hs5, hs13, hs16, hs17⟩) rfl rfl hl.1 rfl (lv_room (Nat.le_of_ble_eq_true rfl)) dX10_readPlain_14 ⟨Nat.zero_le _, Nat.zero_le _⟩) hW (by decide) (fun H20 locs20 hW hF20 hp20 => ?_)
      have hs21 := tf_keepF hF20 ha0 rfl rfl (by decide) hs2
      have hs22 := tf_keepF hF20 ha0 rfl rfl (by decide) hs3
      have hs23 := tf_keepF hF20 ha0 rfl rfl (by decide) hs4
      have hs24 := tf_keepF hF20 ha0 rfl rfl (by decide) hs5
      have hs25 := tf_keepF hF20 ha0 rfl rfl (by decide) hs6
      have hs26 := tf_keepF hF20 ha0 rfl rfl (by decide) hs7
      have hs27 := tf_keepF hF20 ha0 rfl rfl (by decide) hs8
      have hs28 := tf_keepF hF20 ha0 rfl rfl (by decide) hs9
      have hs29 := tf_keepF hF20 ha0 rfl rfl (by decide) hs10
      have hs30 := tf_keepF hF20 ha0 rfl rfl (by decide) hs11
      have hs31 := tf_keepF hF20 ha0 rfl rfl (by decide) hs12
      have hs32 := tf_keepC hF20 hqop rfl (by decide) hs14
      have hs33 := tf_keepC hF20 hqar rfl (by decide) hs15
      obtain ⟨ho20_0, ho20_1, ho20_2⟩ := hp20
      refine lv_aload_n hx hb dX10_readPlain_17 rfl (lv_at hl 0 rfl) ?_
      refine tf_callv (va_runV (As := []) (rest := []) ⟨hx, hb, hml, hown, hts⟩ (c_X10_next l g T a0 ha0 (gn) ⟨by omega, by omega⟩ (gt) ⟨by omega, by omega⟩ (by first | omega | assumption)) (cwV 0 hts gv_X10_204 rfl rfl rfl hd_X10_next ⟨Nat.le_trans (by decide) hR1, Nat.le_trans (by decide) hR2⟩) (tf_preV hk hW ha0 (ci := 10) rfl rfl ⟨hs25, hs27⟩) rfl rfl hl.1 rfl (lv_room (Nat.le_of_ble_eq_true rfl)) dX10_readPlain_18 ⟨Nat.zero_le _, Nat.zero_le _⟩) hW (by decide) (fun H34 locs34 hW hF34 hp34 => ?_)
      have hs35 := tf_keepF hF34 ha0 rfl rfl (by decide) hs21
      have hs36 := tf_keepF hF34 ha0 rfl rfl (by decide) hs22
      have hs37 := tf_keepF hF34 ha0 rfl rfl (by decide) hs23
      have hs38 := tf_keepF hF34 ha0 rfl rfl (by decide) hs24
      have hs39 := tf_keepF hF34 ha0 rfl rfl (by decide) hs25
      have hs40 := tf_keepF hF34 ha0 rfl rfl (by decide) hs30
      have hs41 := tf_keepF hF34 ha0 rfl rfl (by decide) hs31
      have hs42 := tf_keepC hF34 hqop rfl (by decide) hs32
      have hs43 := tf_keepC hF34 hqar rfl (by decide) hs33
      have hs44 := tf_keepF hF34 ha0 rfl rfl (by decide) ho20_0
      have hs45 := tf_keepC hF34 hqpi rfl (by decide) ho20_1
      have hs46 := tf_keepC hF34 hqpa rfl (by decide) ho20_2
      obtain ⟨gf1_34, gt1_34, gs1_34, gw1_34, hX34_0, hX34_1, hX34_2, hX34_3, hB34_0, hB34_1, hB34_2, hB34_3, hR34_0, hR34_1⟩ := hp34
      refine tf_iconst hx hb dX10_readPlain_21 ?_
      exact tf_reti (z := 0) hx hb hr hlocks hQ hW ⟨by omega, by omega, ⟨(gb), (gf1_34), (gt1_34), (gs1_34), (gw1_34), (gc), ((gp + 1)), rop, rar, (tf_up (rpi) (gp) (27)), (tf_up (rpa) (gp) (0)), hs40, hX34_0, hX34_1, hX34_2, hX34_3, hs41, hs44, hs42, hs43, hs45, hs46, ⟨by omega, by omega⟩, ⟨by omega, by omega⟩, ⟨by omega, by omega⟩, ⟨by omega, by omega⟩, ⟨by omega, by omega⟩, ⟨by omega, by omega⟩, ⟨by omega, by omega⟩, (by first | omega | assumption), (by first | omega | assumption), (tf_PI_PB (tf_PI_not hq3) (by omega)), (Or.inr (tf_ST0 (tf_PI_not hq3) (tf_NS_push hq4 (by omega)))), (by first | omega | assumption)⟩⟩ dX10_readPlain_22
  · refine tf_if_eq (tgt := 23) hx hb ⟨by decide, by decide⟩ dX10_readPlain_7 (by decide) (fun h47 => ?_) (fun h47 => ?_)
    · refine lv_aload_n hx hb dX10_readPlain_23 rfl (lv_at hl 0 rfl) ?_
      refine tf_bipush hx hb dX10_readPlain_24 (by decide) ?_
      refine tf_calli (va_runV (As := [.int (Int32.ofInt 40)]) (rest := []) ⟨hx, hb, hml, hown, hts⟩ (c_X10_isSign l g T a0 ha0 (40) ⟨by omega, by omega⟩ (gs) ⟨by omega, by omega⟩ (gw) ⟨by omega, by omega⟩) (cwV 1 hts gv_X10_271 rfl rfl rfl hd_X10_isSign ⟨Nat.le_trans (by decide) hR1, Nat.le_trans (by decide) hR2⟩) (tf_preV hk hW ha0 (ci := 10) rfl rfl ⟨hs9, hs10⟩) rfl rfl hl.1 rfl (lv_room (Nat.le_of_ble_eq_true rfl)) dX10_readPlain_26 ⟨Nat.zero_le _, Nat.zero_le _⟩) hW (by decide) (fun z48 H48 locs48 hW hF48 hp48 => ?_)
      have hs49 := tf_keepF hF48 ha0 rfl rfl (by decide) hs2
      have hs50 := tf_keepF hF48 ha0 rfl rfl (by decide) hs3
      have hs51 := tf_keepF hF48 ha0 rfl rfl (by decide) hs4
      have hs52 := tf_keepF hF48 ha0 rfl rfl (by decide) hs5
      have hs53 := tf_keepF hF48 ha0 rfl rfl (by decide) hs6
      have hs54 := tf_keepF hF48 ha0 rfl rfl (by decide) hs7
      have hs55 := tf_keepF hF48 ha0 rfl rfl (by decide) hs8
      have hs56 := tf_keepF hF48 ha0 rfl rfl (by decide) hs9
      have hs57 := tf_keepF hF48 ha0 rfl rfl (by decide) hs10
      have hs58 := tf_keepF hF48 ha0 rfl rfl (by decide) hs11
      have hs59 := tf_keepF hF48 ha0 rfl rfl (by decide) hs12
      have hs60 := tf_keepF hF48 ha0 rfl rfl (by decide) hs13
      have hs61 := tf_keepC hF48 hqop rfl (by decide) hs14
      have hs62 := tf_keepC hF48 hqar rfl (by decide) hs15
      have hs63 := tf_keepC hF48 hqpi rfl (by decide) hs16
      have hs64 := tf_keepC hF48 hqpa rfl (by decide) hs17
      rcases hp48 with ⟨rfl, h65⟩ | ⟨rfl⟩
      · refine tf_if_eq (tgt := 40) hx hb ⟨by decide, by decide⟩ dX10_readPlain_29 (by decide) (fun h66 => ?_) (fun h66 => ?_)
        · exfalso; omega
        · refine lv_aload_n hx hb dX10_readPlain_32 rfl (lv_at hl 0 rfl) ?_
          refine tf_bipush hx hb dX10_readPlain_33 (by decide) ?_
          refine tf_callv (va_runV (As := [.int (Int32.ofInt 30)]) (rest := []) ⟨hx, hb, hml, hown, hts⟩ (c_X10_openBracket l g T a0 ha0 (30) ⟨by omega, by omega⟩ qpi hqpi qpa hqpa (gn) ⟨by omega, by omega⟩ (gf) ⟨by omega, by omega⟩ (gt) ⟨by omega, by omega⟩ (gs) ⟨by omega, by omega⟩ (gw) ⟨by omega, by omega⟩ (gb) ⟨by omega, by omega⟩ (gc) ⟨by omega, by omega⟩ (gp) ⟨by omega, by omega⟩ rpi rpa (by first | omega | assumption) (by first | omega | assumption) (by first | omega | assumption) (by first | omega | assumption)) (cwV 1 hts gv_X10_274 rfl rfl rfl hd_X10_openBracket ⟨Nat.le_trans (by decide) hR1, Nat.le_trans (by decide) hR2⟩) (tf_preV hk hW ha0 (ci := 10) rfl rfl ⟨hs51, hs52, hs53, hs54, hs55, hs56, hs57, hs58, hs59, hs60, hs63, hs64⟩) rfl rfl hl.1 rfl (lv_room (Nat.le_of_ble_eq_true rfl)) dX10_readPlain_35 ⟨Nat.zero_le _, Nat.zero_le _⟩) hW (by decide) (fun HB locsB hW hFB hpB => ?_)
          have hs67 := tf_keepF hFB ha0 rfl rfl (by decide) hs49
          have hs68 := tf_keepF hFB ha0 rfl rfl (by decide) hs50
          have hs69 := tf_keepF hFB ha0 rfl rfl (by decide) hs51
          have hs70 := tf_keepF hFB ha0 rfl rfl (by decide) hs52
          have hs71 := tf_keepF hFB ha0 rfl rfl (by decide) hs53
          have hs72 := tf_keepF hFB ha0 rfl rfl (by decide) hs59
          have hs73 := tf_keepC hFB hqop rfl (by decide) hs61
          have hs74 := tf_keepC hFB hqar rfl (by decide) hs62
          obtain ⟨gb1_B, gf1_B, gt1_B, gs1_B, gw1_B, gp1_B, rpi1_B, rpa1_B, hXB_0, hXB_1, hXB_2, hXB_3, hXB_4, hXB_5, hXB_6, hXB_7, hBB_0, hBB_1, hBB_2, hBB_3, hBB_4, hBB_5, hRB_0, hRB_1, hRB_2⟩ := hpB
          refine tf_iconst hx hb dX10_readPlain_38 ?_
          exact tf_reti (z := 0) hx hb hr hlocks hQ hW ⟨by omega, by omega, ⟨(gb1_B), (gf1_B), (gt1_B), (gs1_B), (gw1_B), (gc), (gp1_B), rop, rar, rpi1_B, rpa1_B, hXB_0, hXB_1, hXB_2, hXB_3, hXB_4, hs72, hXB_5, hs73, hs74, hXB_6, hXB_7, ⟨by omega, by omega⟩, ⟨by omega, by omega⟩, ⟨by omega, by omega⟩, ⟨by omega, by omega⟩, ⟨by omega, by omega⟩, ⟨by omega, by omega⟩, ⟨by omega, by omega⟩, (by first | omega | assumption), (by first | omega | assumption), (tf_ob0 hRB_2 hq3 hq4 (by omega)).1, (tf_ob0 hRB_2 hq3 hq4 (by omega)).2, (by first | omega | assumption)⟩⟩ dX10_readPlain_39
      · refine tf_if_eq (tgt := 40) hx hb ⟨by decide, by decide⟩ dX10_readPlain_29 (by decide) (fun h75 => ?_) (fun h75 => ?_)
        · refine lv_aload_n hx hb dX10_readPlain_40 rfl (lv_at hl 0 rfl) ?_
          refine tf_calli (va_runV (As := []) (rest := []) ⟨hx, hb, hml, hown, hts⟩ (c_X10_readPart l g T a0 ha0 fs o0 u0 qop hqop qar hqar qpi hqpi qpa hqpa (gn) ⟨by omega, by omega⟩ (gf) ⟨by omega, by omega⟩ (gt) ⟨by omega, by omega⟩ (gs) ⟨by omega, by omega⟩ (gw) ⟨by omega, by omega⟩ (gb) ⟨by omega, by omega⟩ (gc) ⟨by omega, by omega⟩ (gp) ⟨by omega, by omega⟩ rop rar rpi rpa (by first | omega | assumption) (by first | omega | assumption) (by first | omega | assumption) (by first | omega | assumption) (tf_NS_Q hq4)) (cwV 0 hts gv_X10_288 rfl rfl rfl hd_X10_readPart ⟨Nat.le_trans (by decide) hR1, Nat.le_trans (by decide) hR2⟩) (tf_preV hk hW ha0 (ci := 10) rfl rfl ⟨hs49, hs50, hs51, hs52, hs53, hs54, hs55, hs56, hs57, hs58, hs59, hs60, hs61, hs62, hs63, hs64⟩) rfl rfl hl.1 rfl (lv_room (Nat.le_of_ble_eq_true rfl)) dX10_readPlain_41 ⟨Nat.zero_le _, Nat.zero_le _⟩) hW (by decide) (fun z76 H76 locs76 hW hF76 hp76 => ?_)
          have hs77 := tf_keepF hF76 ha0 rfl rfl (by decide) hs49
          have hs78 := tf_keepF hF76 ha0 rfl rfl (by decide) hs50
          have hs79 := tf_keepF hF76 ha0 rfl rfl (by decide) hs51
          have hs80 := tf_keepF hF76 ha0 rfl rfl (by decide) hs52
          have hs81 := tf_keepF hF76 ha0 rfl rfl (by decide) hs53
          obtain ⟨hp76_0, hp76_1, hp76_2⟩ := hp76
          obtain ⟨gb1_76, gf1_76, gt1_76, gs1_76, gw1_76, gc1_76, gp1_76, rop1_76, rar1_76, rpi1_76, rpa1_76, hX76_0, hX76_1, hX76_2, hX76_3, hX76_4, hX76_5, hX76_6, hX76_7, hX76_8, hX76_9, hX76_10, hB76_0, hB76_1, hB76_2, hB76_3, hB76_4, hB76_5, hB76_6, hR76_0, hR76_1, hR76_2, hR76_3, hR76_4⟩ := hp76_2
          exact tf_reti (z := z76) hx hb hr hlocks hQ hW ⟨by omega, by omega, ⟨(gb1_76), (gf1_76), (gt1_76), (gs1_76), (gw1_76), (gc1_76), (gp1_76), rop1_76, rar1_76, rpi1_76, rpa1_76, hX76_0, hX76_1, hX76_2, hX76_3, hX76_4, hX76_5, hX76_6, hX76_7, hX76_8, hX76_9, hX76_10, ⟨by omega, by omega⟩, ⟨by omega, by omega⟩, ⟨by omega, by omega⟩, ⟨by omega, by omega⟩, ⟨by omega, by omega⟩, ⟨by omega, by omega⟩, ⟨by omega, by omega⟩, (by first | omega | assumption), (by first | omega | assumption), (by first | omega | assumption), (by first | omega | assumption), (by first | omega | assumption)⟩⟩ dX10_readPlain_44
        · exfalso; omega
    · exfalso; omega

abbrev M_X10_behindSum : List (Nat × Nat) := [(33, 0), (34, 0), (35, 0), (36, 0), (50, 9), (50, 10), (50, 11), (50, 12), (50, 13), (50, 14), (50, 17), (50, 23), (50, 24)]
set_option maxHeartbeats 4000000 in
set_option maxRecDepth 100000 in
theorem c_X10_behindSum (l : Launch) (g : tf_G) (T : tf_T) (a0 : Nat) (ha0 : T a0 = some (50, 0)) (x1 : Int) (hp1 : 0 ≤ x1 ∧ x1 ≤ 1) (fs : Int) (o0 : Int → Int) (u0 : Int → Int) (qop : Nat) (hqop : T qop = some (33, 400)) (qar : Nat) (hqar : T qar = some (34, 400)) (qpi : Nat) (hqpi : T qpi = some (35, 400)) (qpa : Nat) (hqpa : T qpa = some (36, 400)) (gn : Int) (hgn : 0 ≤ gn ∧ gn ≤ 400) (gf : Int) (hgf : 0 ≤ gf ∧ gf ≤ 400) (gt : Int) (hgt : 0 ≤ gt ∧ gt ≤ 400) (gs : Int) (hgs : 0 ≤ gs ∧ gs ≤ 3) (gw : Int) (hgw : (-9223372036854775808) ≤ gw ∧ gw ≤ 9223372036854775807) (gb : Int) (hgb : 0 ≤ gb ∧ gb ≤ 1) (gc : Int) (hgc : 0 ≤ gc ∧ gc ≤ 400) (gp : Int) (hgp : 0 ≤ gp ∧ gp ≤ 400) (rop : Int → Int) (rar : Int → Int) (rpi : Int → Int) (rpa : Int → Int) (hq0 : (gb = 0)) (hq1 : (gc + gp ≤ gf)) (hq2 : (gf ≤ gt ∧ gt ≤ gn ∧ (gs = 0 → gf = gn) ∧ (gs ≠ 0 → gf < gt) ∧ (gs = 1 → 26 < gw → gf + 2 ≤ gt))) (hq3 : (tf_PI o0 u0 rop rar rpi rpa fs gc gp 1)) (hq4 : (tf_Q rpi gp)) : Met l yX10_behindSum (cd_X10_behindSum :: wsL_law) ({ frames := 4, cells := 0, slots := 0, locals := 85 }) (tf_P g T [.ref a0, .int (Int32.ofInt x1)] (fun H => tf_s H a0 (g.1.2 10 18) = some (.ref qop) ∧ tf_s H a0 (g.1.2 10 19) = some (.ref qar) ∧ tf_s H a0 (g.1.2 10 21) = some (.ref qpi) ∧ tf_s H a0 (g.1.2 10 22) = some (.ref qpa) ∧ tf_s H a0 (g.1.2 10 8) = some (.int (Int32.ofInt gn)) ∧ tf_s H a0 (g.1.2 10 9) = some (.int (Int32.ofInt gf)) ∧ tf_s H a0 (g.1.2 10 10) = some (.int (Int32.ofInt gt)) ∧ tf_s H a0 (g.1.2 10 11) = some (.int (Int32.ofInt gs)) ∧ tf_s H a0 (g.1.2 10 12) = some (.long (Int64.ofInt gw)) ∧ tf_s H a0 (g.1.2 10 14) = some (.int (Int32.ofInt gb)) ∧ tf_s H a0 (g.1.2 10 17) = some (.int (Int32.ofInt gc)) ∧ tf_s H a0 (g.1.2 10 23) = some (.int (Int32.ofInt gp)) ∧ tf_rw H qop = rop ∧ tf_rw H qar = rar ∧ tf_rw H qpi = rpi ∧ tf_rw H qpa = rpa)) (tf_Qi g M_X10_behindSum T (fun z _ H => 1 ≤ z ∧ z ≤ 4 ∧ (∃ (gb1 gf1 gt1 gs1 gw1 gc1 gp1 : Int) (rop1 rar1 rpi1 rpa1 : Int → Int), tf_s H a0 (g.1.2 10 14) = some (.int (Int32.ofInt gb1)) ∧ tf_s H a0 (g.1.2 10 9) = some (.int (Int32.ofInt gf1)) ∧ tf_s H a0 (g.1.2 10 10) = some (.int (Int32.ofInt gt1)) ∧ tf_s H a0 (g.1.2 10 11) = some (.int (Int32.ofInt gs1)) ∧ tf_s H a0 (g.1.2 10 12) = some (.long (Int64.ofInt gw1)) ∧ tf_s H a0 (g.1.2 10 17) = some (.int (Int32.ofInt gc1)) ∧ tf_s H a0 (g.1.2 10 23) = some (.int (Int32.ofInt gp1)) ∧ tf_rw H qop = rop1 ∧ tf_rw H qar = rar1 ∧ tf_rw H qpi = rpi1 ∧ tf_rw H qpa = rpa1 ∧ (0 ≤ gb1 ∧ gb1 ≤ 1) ∧ (0 ≤ gf1 ∧ gf1 ≤ 400) ∧ (0 ≤ gt1 ∧ gt1 ≤ 400) ∧ (0 ≤ gs1 ∧ gs1 ≤ 3) ∧ ((-9223372036854775808) ≤ gw1 ∧ gw1 ≤ 9223372036854775807) ∧ (0 ≤ gc1 ∧ gc1 ≤ 400) ∧ (0 ≤ gp1 ∧ gp1 ≤ 400) ∧ (gf1 ≤ gt1 ∧ gt1 ≤ gn ∧ (gs1 = 0 → gf1 = gn) ∧ (gs1 ≠ 0 → gf1 < gt1) ∧ (gs1 = 1 → 26 < gw1 → gf1 + 2 ≤ gt1)) ∧ (gc1 + gp1 ≤ gf1) ∧ (tf_PB rpi1 rpa1 gp1) ∧ (gb1 = 1 ∨ tf_ST z o0 u0 rop1 rar1 rpi1 rpa1 fs gc1 gp1) ∧ (gf < gf1 ∨ (gf1 = gf ∧ (gb1 = 1 ∨ z = 4 ∨ z = 2)))))) 0 0 (fun q => tf_B g ≤ q) := by
  refine Met.ofW (cc := cX10_behindSum) (maxL := 4) (ret := (some .int)) (by decide) rfl ?_
  intro p e s m args below meth c s₁ B hml hv
  obtain ⟨hargs, hk, hW0, hB, hpre⟩ := hv
  obtain ⟨he0, he1, he2, he3, he4, he5, he6, he7, he8, he9, he10, he11, he12, he13, he14, he15⟩ := hpre
  have hx := B.exec
  have hb := B.bytes
  have hr := B.returns
  have hts : ∀ w ∈ wsL_law, w.before args s = true := fun w h => atoms_spec (ws := cd_X10_behindSum :: wsL_law) B.pre w (List.mem_cons_of_mem _ h)
  have hown : s.vm.findClass RX10 = some m.cls := findClass_of_methodNamed B.named
  have hlocks := B.notSynchronized
  have hK := hk.1
  have hW := tf_n.start (M := M_X10_behindSum) hW0 hB
  obtain ⟨Q, hQ⟩ : ∃ q, q = MQ below (tf_Qi g M_X10_behindSum T (fun z _ H => 1 ≤ z ∧ z ≤ 4 ∧ (∃ (gb1 gf1 gt1 gs1 gw1 gc1 gp1 : Int) (rop1 rar1 rpi1 rpa1 : Int → Int), tf_s H a0 (g.1.2 10 14) = some (.int (Int32.ofInt gb1)) ∧ tf_s H a0 (g.1.2 10 9) = some (.int (Int32.ofInt gf1)) ∧ tf_s H a0 (g.1.2 10 10) = some (.int (Int32.ofInt gt1)) ∧ tf_s H a0 (g.1.2 10 11) = some (.int (Int32.ofInt gs1)) ∧ tf_s H a0 (g.1.2 10 12) = some (.long (Int64.ofInt gw1)) ∧ tf_s H a0 (g.1.2 10 17) = some (.int (Int32.ofInt gc1)) ∧ tf_s H a0 (g.1.2 10 23) = some (.int (Int32.ofInt gp1)) ∧ tf_rw H qop = rop1 ∧ tf_rw H qar = rar1 ∧ tf_rw H qpi = rpi1 ∧ tf_rw H qpa = rpa1 ∧ (0 ≤ gb1 ∧ gb1 ≤ 1) ∧ (0 ≤ gf1 ∧ gf1 ≤ 400) ∧ (0 ≤ gt1 ∧ gt1 ≤ 400) ∧ (0 ≤ gs1 ∧ gs1 ≤ 3) ∧ ((-9223372036854775808) ≤ gw1 ∧ gw1 ≤ 9223372036854775807) ∧ (0 ≤ gc1 ∧ gc1 ≤ 400) ∧ (0 ≤ gp1 ∧ gp1 ≤ 400) ∧ (gf1 ≤ gt1 ∧ gt1 ≤ gn ∧ (gs1 = 0 → gf1 = gn) ∧ (gs1 ≠ 0 → gf1 < gt1) ∧ (gs1 = 1 → 26 < gw1 → gf1 + 2 ≤ gt1)) ∧ (gc1 + gp1 ≤ gf1) ∧ (tf_PB rpi1 rpa1 gp1) ∧ (gb1 = 1 ∨ tf_ST z o0 u0 rop1 rar1 rpi1 rpa1 fs gc1 gp1) ∧ (gf < gf1 ∨ (gf1 = gf ∧ (gb1 = 1 ∨ z = 4 ∨ z = 2)))))) args s 0 0 (fun q => tf_B g ≤ q) := ⟨_, rfl⟩
  rw [← hQ]
  obtain ⟨R, hR⟩ : ∃ q, q = (headSpec (cd_X10_behindSum :: wsL_law) ({ frames := 4, cells := 0, slots := 0, locals := 85 })).room := ⟨_, rfl⟩
  rw [← hR]
  have hR1 : 4 ≤ R.frames := by rw [hR]; exact Nat.le_refl _
  have hR2 : 85 ≤ R.locals := by rw [hR]; exact Nat.le_refl _
  have hR3 : 0 ≤ R.cells := by rw [hR]; exact Nat.le_refl _
  have hR4 : 0 ≤ R.slots := by rw [hR]; exact Nat.le_refl _
  have hin := (name_of_methodNamed B.named B.method).1
  clear hR B
  refine tf_enter (As := [.ref a0, .int (Int32.ofInt x1)]) hargs (Nat.le_of_ble_eq_true rfl) (fun ls hl => ?_)
  have hl : lv_has ls 4 [(0, .ref a0), (1, .int (Int32.ofInt x1))] := hl
  refine lv_aload_n hx hb dX10_behindSum_0 rfl (lv_at hl 0 rfl) ?_
  refine tf_bipush hx hb dX10_behindSum_1 (by decide) ?_
  refine tf_calli (va_runV (As := [.int (Int32.ofInt 43)]) (rest := []) ⟨hx, hb, hml, hown, hts⟩ (c_X10_isSign l g T a0 ha0 (43) ⟨by omega, by omega⟩ (gs) ⟨by omega, by omega⟩ (gw) ⟨by omega, by omega⟩) (cwV 1 hts gv_X10_271 rfl rfl rfl hd_X10_isSign ⟨Nat.le_trans (by decide) hR1, Nat.le_trans (by decide) hR2⟩) (tf_preV hk hW ha0 (ci := 10) rfl rfl ⟨he7, he8⟩) rfl rfl hl.1 rfl (lv_room (Nat.le_of_ble_eq_true rfl)) dX10_behindSum_3 ⟨Nat.zero_le _, Nat.zero_le _⟩) hW (by decide) (fun z1 H1 locs1 hW hF1 hp1 => ?_)
  have hs2 := tf_keepF hF1 ha0 rfl rfl (by decide) he0
  have hs3 := tf_keepF hF1 ha0 rfl rfl (by decide) he1
  have hs4 := tf_keepF hF1 ha0 rfl rfl (by decide) he2
  have hs5 := tf_keepF hF1 ha0 rfl rfl (by decide) he3
  have hs6 := tf_keepF hF1 ha0 rfl rfl (by decide) he4
  have hs7 := tf_keepF hF1 ha0 rfl rfl (by decide) he5
  have hs8 := tf_keepF hF1 ha0 rfl rfl (by decide) he6
  have hs9 := tf_keepF hF1 ha0 rfl rfl (by decide) he7
  have hs10 := tf_keepF hF1 ha0 rfl rfl (by decide) he8
  have hs11 := tf_keepF hF1 ha0 rfl rfl (by decide) he9
  have hs12 := tf_keepF hF1 ha0 rfl rfl (by decide) he10
  have hs13 := tf_keepF hF1 ha0 rfl rfl (by decide) he11
  have hs14 := tf_keepC hF1 hqop rfl (by decide) he12
  have hs15 := tf_keepC hF1 hqar rfl (by decide) he13
  have hs16 := tf_keepC hF1 hqpi rfl (by decide) he14
  have hs17 := tf_keepC hF1 hqpa rfl (by decide) he15
  rcases hp1 with ⟨rfl, h18⟩ | ⟨rfl⟩
  · refine tf_if_eq (tgt := 14) hx hb ⟨by decide, by decide⟩ dX10_behindSum_6 (by decide) (fun h19 => ?_) (fun h19 => ?_)
    · exfalso; omega
    · refine tf_bipush hx hb dX10_behindSum_9 (by decide) ?_
      refine lv_goto (tgt := 57) hx hb dX10_behindSum_11 (by decide) ?_
      refine lv_istore_n (lv' := [(2, .int (Int32.ofInt 20)), (0, .ref a0), (1, .int (Int32.ofInt x1))]) hx hb dX10_behindSum_57 rfl hl (by decide) rfl (fun ls hl => ?_)
      refine lv_iload_n hx hb dX10_behindSum_58 rfl (lv_at hl 0 rfl) ?_
      refine tf_iconst hx hb dX10_behindSum_59 ?_
      refine tf_icmp_eq (tgt := 83) hx hb ⟨by decide, by decide⟩ ⟨by decide, by decide⟩ dX10_behindSum_60 (by decide) (fun h20 => ?_) (fun h20 => ?_)
      · exfalso; omega
      · refine lv_aload_n hx hb dX10_behindSum_63 rfl (lv_at hl 1 rfl) ?_
        refine lv_iload_n hx hb dX10_behindSum_64 rfl (lv_at hl 0 rfl) ?_
        refine tf_calli (va_runS (As := [.int (Int32.ofInt 20)]) (rest := [.ref a0]) ⟨hx, hb, hml, hown, hts⟩ (c_X10_binds l g T (20) ⟨by omega, by omega⟩) ⟨callB_of 1 hts (gw_ws cm_X10_binds) rfl rfl rfl (hts _ (tw1 (i := 5) rfl)) (hts _ (tw31 (i := 1) rfl)) hd_X10_binds.2 ⟨Nat.le_trans (by decide) hR1, Nat.le_trans (by decide) hR2⟩, hts _ (tw31 (i := 2) rfl)⟩ (tf_preS hk hW trivial) rfl rfl hl.1 rfl (lv_room (Nat.le_of_ble_eq_true rfl)) dX10_behindSum_65 ⟨Nat.zero_le _, Nat.zero_le _⟩) hW (by decide) (fun z21 H21 locs21 hW hF21 hp21 => ?_)
        have hs22 := tf_keepF hF21 ha0 rfl rfl (by decide) hs2
        have hs23 := tf_keepF hF21 ha0 rfl rfl (by decide) hs3
        have hs24 := tf_keepF hF21 ha0 rfl rfl (by decide) hs4
        have hs25 := tf_keepF hF21 ha0 rfl rfl (by decide) hs5
        have hs26 := tf_keepF hF21 ha0 rfl rfl (by decide) hs6
        have hs27 := tf_keepF hF21 ha0 rfl rfl (by decide) hs7
        have hs28 := tf_keepF hF21 ha0 rfl rfl (by decide) hs8
        have hs29 := tf_keepF hF21 ha0 rfl rfl (by decide) hs9
        have hs30 := tf_keepF hF21 ha0 rfl rfl (by decide) hs10
        have hs31 := tf_keepF hF21 ha0 rfl rfl (by decide) hs11
        have hs32 := tf_keepF hF21 ha0 rfl rfl (by decide) hs12
        have hs33 := tf_keepF hF21 ha0 rfl rfl (by decide) hs13
        have hs34 := tf_keepC hF21 hqop rfl (by decide) hs14
        have hs35 := tf_keepC hF21 hqar rfl (by decide) hs15
        have hs36 := tf_keepC hF21 hqpi rfl (by decide) hs16
        have hs37 := tf_keepC hF21 hqpa rfl (by decide) hs17
        obtain ⟨hp21_0, hp21_1, hp21_2⟩ := hp21
        refine tf_callv (va_runV (As := [.int (Int32.ofInt z21)]) (rest := []) ⟨hx, hb, hml, hown, hts⟩ (c_X10_settle l g T a0 ha0 (z21) ⟨by omega, by omega⟩ qop hqop qar hqar qpi hqpi qpa hqpa (gc) ⟨by omega, by omega⟩ (gp) ⟨by omega, by omega⟩ rop rar rpi rpa (by first | omega | assumption) (tf_PI_PB hq3 (by omega))) (cwV 1 hts gv_X10_291 rfl rfl rfl hd_X10_settle ⟨Nat.le_trans (by decide) hR1, Nat.le_trans (by decide) hR2⟩) (tf_preV hk hW ha0 (ci := 10) rfl rfl ⟨hs22, hs23, hs24, hs25, hs32, hs33, hs34, hs35, hs36, hs37⟩) rfl rfl hl.1 rfl (lv_room (Nat.le_of_ble_eq_true rfl)) dX10_behindSum_68 ⟨Nat.zero_le _, Nat.zero_le _⟩) hW (by decide) (fun HS locsS hW hFS hpS => ?_)
        have hs38 := tf_keepF hFS ha0 rfl rfl (by decide) hs22
        have hs39 := tf_keepF hFS ha0 rfl rfl (by decide) hs23
        have hs40 := tf_keepF hFS ha0 rfl rfl (by decide) hs24
        have hs41 := tf_keepF hFS ha0 rfl rfl (by decide) hs25
        have hs42 := tf_keepF hFS ha0 rfl rfl (by decide) hs26
        have hs43 := tf_keepF hFS ha0 rfl rfl (by decide) hs27
        have hs44 := tf_keepF hFS ha0 rfl rfl (by decide) hs28
        have hs45 := tf_keepF hFS ha0 rfl rfl (by decide) hs29
        have hs46 := tf_keepF hFS ha0 rfl rfl (by decide) hs30
        have hs47 := tf_keepF hFS ha0 rfl rfl (by decide) hs31
        have hs48 := tf_keepC hFS hqpi rfl (by decide) hs36
        have hs49 := tf_keepC hFS hqpa rfl (by decide) hs37
        obtain ⟨gc1_S, gp1_S, rop1_S, rar1_S, hXS_0, hXS_1, hXS_2, hXS_3, hBS_0, hBS_1, hRS_0, hRS_1, hRS_2, hRS_3, hRS_4, hRS_5⟩ := hpS
        refine lv_aload_n hx hb dX10_behindSum_71 rfl (lv_at hl 1 rfl) ?_
        refine lv_iload_n hx hb dX10_behindSum_72 rfl (lv_at hl 0 rfl) ?_
        refine tf_iconst hx hb dX10_behindSum_73 ?_
        refine tf_callv (va_runV (As := [.int (Int32.ofInt 20), .int (Int32.ofInt 0)]) (rest := []) ⟨hx, hb, hml, hown, hts⟩ (c_X10_push l g T a0 ha0 (20) ⟨by omega, by omega⟩ (0) ⟨by omega, by omega⟩ qpi hqpi qpa hqpa (gp1_S) ⟨by omega, by omega⟩ rpi rpa) (cwV 2 hts gv_X10_265 rfl rfl rfl hd_X10_push ⟨Nat.le_trans (by decide) hR1, Nat.le_trans (by decide) hR2⟩) (tf_preV hk hW ha0 (ci := 10) rfl rfl ⟨hs40, hs41, hXS_1, hs48, hs49⟩) rfl rfl hl.1 rfl (lv_room (Nat.le_of_ble_eq_true rfl)) dX10_behindSum_74 ⟨Nat.zero_le _, Nat.zero_le _⟩) hW (by decide) (fun H50 locs50 hW hF50 hp50 => ?_)
        have hs51 := tf_keepF hF50 ha0 rfl rfl (by decide) hs38
        have hs52 := tf_keepF hF50 ha0 rfl rfl (by decide) hs39
        have hs53 := tf_keepF hF50 ha0 rfl rfl (by decide) hs40
        have hs54 := tf_keepF hF50 ha0 rfl rfl (by decide) hs41
        have hs55 := tf_keepF hF50 ha0 rfl rfl (by decide) hs42
        have hs56 := tf_keepF hF50 ha0 rfl rfl (by decide) hs43
        have hs57 := tf_keepF hF50 ha0 rfl rfl (by decide) hs44
        have hs58 := tf_keepF hF50 ha0 rfl rfl (by decide) hs45
        have hs59 := tf_keepF hF50 ha0 rfl rfl (by decide) hs46
        have hs60 := tf_keepF hF50 ha0 rfl rfl (by decide) hs47
        have hs61 := tf_keepF hF50 ha0 rfl rfl (by decide) hXS_0
        have hs62 := tf_keepC hF50 hqop rfl (by decide) hXS_2
        have hs63 := tf_keepC hF50 hqar rfl (by decide) hXS_3
        obtain ⟨ho50_0, ho50_1, ho50_2⟩ := hp50
        refine lv_aload_n hx hb dX10_behindSum_77 rfl (lv_at hl 1 rfl) ?_
        refine tf_callv (va_runV (As := []) (rest := []) ⟨hx, hb, hml, hown, hts⟩ (c_X10_next l g T a0 ha0 (gn) ⟨by omega, by omega⟩ (gt) ⟨by omega, by omega⟩ (by first | omega | assumption)) (cwV 0 hts gv_X10_204 rfl rfl rfl hd_X10_next ⟨Nat.le_trans (by decide) hR1, Nat.le_trans (by decide) hR2⟩) (tf_preV hk hW ha0 (ci := 10) rfl rfl ⟨hs55, hs57⟩) rfl rfl hl.1 rfl (lv_room (Nat.le_of_ble_eq_true rfl)) dX10_behindSum_78 ⟨Nat.zero_le _, Nat.zero_le _⟩) hW (by decide) (fun H64 locs64 hW hF64 hp64 => ?_)
        have hs65 := tf_keepF hF64 ha0 rfl rfl (by decide) hs51
        have hs66 := tf_keepF hF64 ha0 rfl rfl (by decide) hs52
        have hs67 := tf_keepF hF64 ha0 rfl rfl (by decide) hs53
        have hs68 := tf_keepF hF64 ha0 rfl rfl (by decide) hs54
        have hs69 := tf_keepF hF64 ha0 rfl rfl (by decide) hs55
        have hs70 := tf_keepF hF64 ha0 rfl rfl (by decide) hs60
        have hs71 := tf_keepF hF64 ha0 rfl rfl (by decide) hs61
        have hs72 := tf_keepC hF64 hqop rfl (by decide) hs62
        have hs73 := tf_keepC hF64 hqar rfl (by decide) hs63
        have hs74 := tf_keepF hF64 ha0 rfl rfl (by decide) ho50_0
        have hs75 := tf_keepC hF64 hqpi rfl (by decide) ho50_1
        have hs76 := tf_keepC hF64 hqpa rfl (by decide) ho50_2
        obtain ⟨gf1_64, gt1_64, gs1_64, gw1_64, hX64_0, hX64_1, hX64_2, hX64_3, hB64_0, hB64_1, hB64_2, hB64_3, hR64_0, hR64_1⟩ := hp64
        refine tf_iconst hx hb dX10_behindSum_81 ?_
        exact tf_reti (z := 1) hx hb hr hlocks hQ hW ⟨by omega, by omega, ⟨(gb), (gf1_64), (gt1_64), (gs1_64), (gw1_64), (gc1_S), ((gp1_S + 1)), rop1_S, rar1_S, (tf_up (rpi) (gp1_S) (20)), (tf_up (rpa) (gp1_S) (0)), hs70, hX64_0, hX64_1, hX64_2, hX64_3, hs71, hs74, hs72, hs73, hs75, hs76, ⟨by omega, by omega⟩, ⟨by omega, by omega⟩, ⟨by omega, by omega⟩, ⟨by omega, by omega⟩, ⟨by omega, by omega⟩, ⟨by omega, by omega⟩, ⟨by omega, by omega⟩, (by first | omega | assumption), (by first | omega | assumption), (tf_PI_PB (tf_PI_sign (hRS_5 o0 u0 fs hq3) (by omega) (by omega)) (by omega)), (Or.inr (tf_ST1 (tf_PI_sign (hRS_5 o0 u0 fs hq3) (by omega) (by omega)) (tf_Q_push (tf_Q_mono hq4 (by omega)) (by omega)))), (by first | omega | assumption)⟩⟩ dX10_behindSum_82
  · refine tf_if_eq (tgt := 14) hx hb ⟨by decide, by decide⟩ dX10_behindSum_6 (by decide) (fun h77 => ?_) (fun h77 => ?_)
    · refine lv_aload_n hx hb dX10_behindSum_14 rfl (lv_at hl 0 rfl) ?_
      refine tf_bipush hx hb dX10_behindSum_15 (by decide) ?_
      refine tf_calli (va_runV (As := [.int (Int32.ofInt 45)]) (rest := []) ⟨hx, hb, hml, hown, hts⟩ (c_X10_isSign l g T a0 ha0 (45) ⟨by omega, by omega⟩ (gs) ⟨by omega, by omega⟩ (gw) ⟨by omega, by omega⟩) (cwV 1 hts gv_X10_271 rfl rfl rfl hd_X10_isSign ⟨Nat.le_trans (by decide) hR1, Nat.le_trans (by decide) hR2⟩) (tf_preV hk hW ha0 (ci := 10) rfl rfl ⟨hs9, hs10⟩) rfl rfl hl.1 rfl (lv_room (Nat.le_of_ble_eq_true rfl)) dX10_behindSum_17 ⟨Nat.zero_le _, Nat.zero_le _⟩) hW (by decide) (fun z78 H78 locs78 hW hF78 hp78 => ?_)
      have hs79 := tf_keepF hF78 ha0 rfl rfl (by decide) hs2
      have hs80 := tf_keepF hF78 ha0 rfl rfl (by decide) hs3
      have hs81 := tf_keepF hF78 ha0 rfl rfl (by decide) hs4
      have hs82 := tf_keepF hF78 ha0 rfl rfl (by decide) hs5
      have hs83 := tf_keepF hF78 ha0 rfl rfl (by decide) hs6
      have hs84 := tf_keepF hF78 ha0 rfl rfl (by decide) hs7
      have hs85 := tf_keepF hF78 ha0 rfl rfl (by decide) hs8
      have hs86 := tf_keepF hF78 ha0 rfl rfl (by decide) hs9
      have hs87 := tf_keepF hF78 ha0 rfl rfl (by decide) hs10
      have hs88 := tf_keepF hF78 ha0 rfl rfl (by decide) hs11
      have hs89 := tf_keepF hF78 ha0 rfl rfl (by decide) hs12
      have hs90 := tf_keepF hF78 ha0 rfl rfl (by decide) hs13
      have hs91 := tf_keepC hF78 hqop rfl (by decide) hs14
      have hs92 := tf_keepC hF78 hqar rfl (by decide) hs15
      have hs93 := tf_keepC hF78 hqpi rfl (by decide) hs16
      have hs94 := tf_keepC hF78 hqpa rfl (by decide) hs17
      rcases hp78 with ⟨rfl, h95⟩ | ⟨rfl⟩
      · refine tf_if_eq (tgt := 28) hx hb ⟨by decide, by decide⟩ dX10_behindSum_20 (by decide) (fun h96 => ?_) (fun h96 => ?_)
        · exfalso; omega
        · refine tf_bipush hx hb dX10_behindSum_23 (by decide) ?_
          refine lv_goto (tgt := 57) hx hb dX10_behindSum_25 (by decide) ?_
          refine lv_istore_n (lv' := [(2, .int (Int32.ofInt 21)), (0, .ref a0), (1, .int (Int32.ofInt x1))]) hx hb dX10_behindSum_57 rfl hl (by decide) rfl (fun ls hl => ?_)
          refine lv_iload_n hx hb dX10_behindSum_58 rfl (lv_at hl 0 rfl) ?_
          refine tf_iconst hx hb dX10_behindSum_59 ?_
          refine tf_icmp_eq (tgt := 83) hx hb ⟨by decide, by decide⟩ ⟨by decide, by decide⟩ dX10_behindSum_60 (by decide) (fun h97 => ?_) (fun h97 => ?_)
          · exfalso; omega
          · refine lv_aload_n hx hb dX10_behindSum_63 rfl (lv_at hl 1 rfl) ?_
            refine lv_iload_n hx hb dX10_behindSum_64 rfl (lv_at hl 0 rfl) ?_
            refine tf_calli (va_runS (As := [.int (Int32.ofInt 21)]) (rest := [.ref a0]) ⟨hx, hb, hml, hown, hts⟩ (c_X10_binds l g T (21) ⟨by omega, by omega⟩) ⟨callB_of 1 hts (gw_ws cm_X10_binds) rfl rfl rfl (hts _ (tw1 (i := 5) rfl)) (hts _ (tw31 (i := 1) rfl)) hd_X10_binds.2 ⟨Nat.le_trans (by decide) hR1, Nat.le_trans (by decide) hR2⟩, hts _ (tw31 (i := 2) rfl)⟩ (tf_preS hk hW trivial) rfl rfl hl.1 rfl (lv_room (Nat.le_of_ble_eq_true rfl)) dX10_behindSum_65 ⟨Nat.zero_le _, Nat.zero_le _⟩) hW (by decide) (fun z98 H98 locs98 hW hF98 hp98 => ?_)
            have hs99 := tf_keepF hF98 ha0 rfl rfl (by decide) hs79
            have hs100 := tf_keepF hF98 ha0 rfl rfl (by decide) hs80
            have hs101 := tf_keepF hF98 ha0 rfl rfl (by decide) hs81
            have hs102 := tf_keepF hF98 ha0 rfl rfl (by decide) hs82
            have hs103 := tf_keepF hF98 ha0 rfl rfl (by decide) hs83
            have hs104 := tf_keepF hF98 ha0 rfl rfl (by decide) hs84
            have hs105 := tf_keepF hF98 ha0 rfl rfl (by decide) hs85
            have hs106 := tf_keepF hF98 ha0 rfl rfl (by decide) hs86
            have hs107 := tf_keepF hF98 ha0 rfl rfl (by decide) hs87
            have hs108 := tf_keepF hF98 ha0 rfl rfl (by decide) hs88
            have hs109 := tf_keepF hF98 ha0 rfl rfl (by decide) hs89
            have hs110 := tf_keepF hF98 ha0 rfl rfl (by decide) hs90
            have hs111 := tf_keepC hF98 hqop rfl (by decide) hs91
            have hs112 := tf_keepC hF98 hqar rfl (by decide) hs92
            have hs113 := tf_keepC hF98 hqpi rfl (by decide) hs93
            have hs114 := tf_keepC hF98 hqpa rfl (by decide) hs94
            obtain ⟨hp98_0, hp98_1, hp98_2⟩ := hp98
            refine tf_callv (va_runV (As := [.int (Int32.ofInt z98)]) (rest := []) ⟨hx, hb, hml, hown, hts⟩ (c_X10_settle l g T a0 ha0 (z98) ⟨by omega, by omega⟩ qop hqop qar hqar qpi hqpi qpa hqpa (gc) ⟨by omega, by omega⟩ (gp) ⟨by omega, by omega⟩ rop rar rpi rpa (by first | omega | assumption) (tf_PI_PB hq3 (by omega))) (cwV 1 hts gv_X10_291 rfl rfl rfl hd_X10_settle ⟨Nat.le_trans (by decide) hR1, Nat.le_trans (by decide) hR2⟩) (tf_preV hk hW ha0 (ci := 10) rfl rfl ⟨hs99, hs100, hs101, hs102, hs109, hs110, hs111, hs112, hs113, hs114⟩) rfl rfl hl.1 rfl (lv_room (Nat.le_of_ble_eq_true rfl)) dX10_behindSum_68 ⟨Nat.zero_le _, Nat.zero_le _⟩) hW (by decide) (fun HS locsS hW hFS hpS => ?_)
            have hs115 := tf_keepF hFS ha0 rfl rfl (by decide) hs99
            have hs116 := tf_keepF hFS ha0 rfl rfl (by decide) hs100
            have hs117 := tf_keepF hFS ha0 rfl rfl (by decide) hs101
            have hs118 := tf_keepF hFS ha0 rfl rfl (by decide) hs102
            have hs119 := tf_keepF hFS ha0 rfl rfl (by decide) hs103
            have hs120 := tf_keepF hFS ha0 rfl rfl (by decide) hs104
            have hs121 := tf_keepF hFS ha0 rfl rfl (by decide) hs105
            have hs122 := tf_keepF hFS ha0 rfl rfl (by decide) hs106
            have hs123 := tf_keepF hFS ha0 rfl rfl (by decide) hs107
            have hs124 := tf_keepF hFS ha0 rfl rfl (by decide) hs108
            have hs125 := tf_keepC hFS hqpi rfl (by decide) hs113
            have hs126 := tf_keepC hFS hqpa rfl (by decide) hs114
            obtain ⟨gc1_S, gp1_S, rop1_S, rar1_S, hXS_0, hXS_1, hXS_2, hXS_3, hBS_0, hBS_1, hRS_0, hRS_1, hRS_2, hRS_3, hRS_4, hRS_5⟩ := hpS
            refine lv_aload_n hx hb dX10_behindSum_71 rfl (lv_at hl 1 rfl) ?_
            refine lv_iload_n hx hb dX10_behindSum_72 rfl (lv_at hl 0 rfl) ?_
            refine tf_iconst hx hb dX10_behindSum_73 ?_
            refine tf_callv (va_runV (As := [.int (Int32.ofInt 21), .int (Int32.ofInt 0)]) (rest := []) ⟨hx, hb, hml, hown, hts⟩ (c_X10_push l g T a0 ha0 (21) ⟨by omega, by omega⟩ (0) ⟨by omega, by omega⟩ qpi hqpi qpa hqpa (gp1_S) ⟨by omega, by omega⟩ rpi rpa) (cwV 2 hts gv_X10_265 rfl rfl rfl hd_X10_push ⟨Nat.le_trans (by decide) hR1, Nat.le_trans (by decide) hR2⟩) (tf_preV hk hW ha0 (ci := 10) rfl rfl ⟨hs117, hs118, hXS_1, hs125, hs126⟩) rfl rfl hl.1 rfl (lv_room (Nat.le_of_ble_eq_true rfl)) dX10_behindSum_74 ⟨Nat.zero_le _, Nat.zero_le _⟩) hW (by decide) (fun H127 locs127 hW hF127 hp127 => ?_)
            have hs128 := tf_keepF hF127 ha0 rfl rfl (by decide) hs115
            have hs129 := tf_keepF hF127 ha0 rfl rfl (by decide) hs116
            have hs130 := tf_keepF hF127 ha0 rfl rfl (by decide) hs117
            have hs131 := tf_keepF hF127 ha0 rfl rfl (by decide) hs118
            have hs132 := tf_keepF hF127 ha0 rfl rfl (by decide) hs119
            have hs133 := tf_keepF hF127 ha0 rfl rfl (by decide) hs120
            have hs134 := tf_keepF hF127 ha0 rfl rfl (by decide) hs121
            have hs135 := tf_keepF hF127 ha0 rfl rfl (by decide) hs122
            have hs136 := tf_keepF hF127 ha0 rfl rfl (by decide) hs123
            have hs137 := tf_keepF hF127 ha0 rfl rfl (by decide) hs124
            have hs138 := tf_keepF hF127 ha0 rfl rfl (by decide) hXS_0
            have hs139 := tf_keepC hF127 hqop rfl (by decide) hXS_2
            have hs140 := tf_keepC hF127 hqar rfl (by decide) hXS_3
            obtain ⟨ho127_0, ho127_1, ho127_2⟩ := hp127
            refine lv_aload_n hx hb dX10_behindSum_77 rfl (lv_at hl 1 rfl) ?_
            refine tf_callv (va_runV (As := []) (rest := []) ⟨hx, hb, hml, hown, hts⟩ (c_X10_next l g T a0 ha0 (gn) ⟨by omega, by omega⟩ (gt) ⟨by omega, by omega⟩ (by first | omega | assumption)) (cwV 0 hts gv_X10_204 rfl rfl rfl hd_X10_next ⟨Nat.le_trans (by decide) hR1, Nat.le_trans (by decide) hR2⟩) (tf_preV hk hW ha0 (ci := 10) rfl rfl ⟨hs132, hs134⟩) rfl rfl hl.1 rfl (lv_room (Nat.le_of_ble_eq_true rfl)) dX10_behindSum_78 ⟨Nat.zero_le _, Nat.zero_le _⟩) hW (by decide) (fun H141 locs141 hW hF141 hp141 => ?_)
            have hs142 := tf_keepF hF141 ha0 rfl rfl (by decide) hs128
            have hs143 := tf_keepF hF141 ha0 rfl rfl (by decide) hs129
            have hs144 := tf_keepF hF141 ha0 rfl rfl (by decide) hs130
            have hs145 := tf_keepF hF141 ha0 rfl rfl (by decide) hs131
            have hs146 := tf_keepF hF141 ha0 rfl rfl (by decide) hs132
            have hs147 := tf_keepF hF141 ha0 rfl rfl (by decide) hs137
            have hs148 := tf_keepF hF141 ha0 rfl rfl (by decide) hs138
            have hs149 := tf_keepC hF141 hqop rfl (by decide) hs139
            have hs150 := tf_keepC hF141 hqar rfl (by decide) hs140
            have hs151 := tf_keepF hF141 ha0 rfl rfl (by decide) ho127_0
            have hs152 := tf_keepC hF141 hqpi rfl (by decide) ho127_1
            have hs153 := tf_keepC hF141 hqpa rfl (by decide) ho127_2
            obtain ⟨gf1_141, gt1_141, gs1_141, gw1_141, hX141_0, hX141_1, hX141_2, hX141_3, hB141_0, hB141_1, hB141_2, hB141_3, hR141_0, hR141_1⟩ := hp141
            refine tf_iconst hx hb dX10_behindSum_81 ?_
            exact tf_reti (z := 1) hx hb hr hlocks hQ hW ⟨by omega, by omega, ⟨(gb), (gf1_141), (gt1_141), (gs1_141), (gw1_141), (gc1_S), ((gp1_S + 1)), rop1_S, rar1_S, (tf_up (rpi) (gp1_S) (21)), (tf_up (rpa) (gp1_S) (0)), hs147, hX141_0, hX141_1, hX141_2, hX141_3, hs148, hs151, hs149, hs150, hs152, hs153, ⟨by omega, by omega⟩, ⟨by omega, by omega⟩, ⟨by omega, by omega⟩, ⟨by omega, by omega⟩, ⟨by omega, by omega⟩, ⟨by omega, by omega⟩, ⟨by omega, by omega⟩, (by first | omega | assumption), (by first | omega | assumption), (tf_PI_PB (tf_PI_sign (hRS_5 o0 u0 fs hq3) (by omega) (by omega)) (by omega)), (Or.inr (tf_ST1 (tf_PI_sign (hRS_5 o0 u0 fs hq3) (by omega) (by omega)) (tf_Q_push (tf_Q_mono hq4 (by omega)) (by omega)))), (by first | omega | assumption)⟩⟩ dX10_behindSum_82
      · refine tf_if_eq (tgt := 28) hx hb ⟨by decide, by decide⟩ dX10_behindSum_20 (by decide) (fun h154 => ?_) (fun h154 => ?_)
        · refine lv_aload_n hx hb dX10_behindSum_28 rfl (lv_at hl 0 rfl) ?_
          refine tf_bipush hx hb dX10_behindSum_29 (by decide) ?_
          refine tf_calli (va_runV (As := [.int (Int32.ofInt 42)]) (rest := []) ⟨hx, hb, hml, hown, hts⟩ (c_X10_isSign l g T a0 ha0 (42) ⟨by omega, by omega⟩ (gs) ⟨by omega, by omega⟩ (gw) ⟨by omega, by omega⟩) (cwV 1 hts gv_X10_271 rfl rfl rfl hd_X10_isSign ⟨Nat.le_trans (by decide) hR1, Nat.le_trans (by decide) hR2⟩) (tf_preV hk hW ha0 (ci := 10) rfl rfl ⟨hs86, hs87⟩) rfl rfl hl.1 rfl (lv_room (Nat.le_of_ble_eq_true rfl)) dX10_behindSum_31 ⟨Nat.zero_le _, Nat.zero_le _⟩) hW (by decide) (fun z155 H155 locs155 hW hF155 hp155 => ?_)
          have hs156 := tf_keepF hF155 ha0 rfl rfl (by decide) hs79
          have hs157 := tf_keepF hF155 ha0 rfl rfl (by decide) hs80
          have hs158 := tf_keepF hF155 ha0 rfl rfl (by decide) hs81
          have hs159 := tf_keepF hF155 ha0 rfl rfl (by decide) hs82
          have hs160 := tf_keepF hF155 ha0 rfl rfl (by decide) hs83
          have hs161 := tf_keepF hF155 ha0 rfl rfl (by decide) hs84
          have hs162 := tf_keepF hF155 ha0 rfl rfl (by decide) hs85
          have hs163 := tf_keepF hF155 ha0 rfl rfl (by decide) hs86
          have hs164 := tf_keepF hF155 ha0 rfl rfl (by decide) hs87
          have hs165 := tf_keepF hF155 ha0 rfl rfl (by decide) hs88
          have hs166 := tf_keepF hF155 ha0 rfl rfl (by decide) hs89
          have hs167 := tf_keepF hF155 ha0 rfl rfl (by decide) hs90
          have hs168 := tf_keepC hF155 hqop rfl (by decide) hs91
          have hs169 := tf_keepC hF155 hqar rfl (by decide) hs92
          have hs170 := tf_keepC hF155 hqpi rfl (by decide) hs93
          have hs171 := tf_keepC hF155 hqpa rfl (by decide) hs94
          rcases hp155 with ⟨rfl, h172⟩ | ⟨rfl⟩
          · refine tf_if_eq (tgt := 42) hx hb ⟨by decide, by decide⟩ dX10_behindSum_34 (by decide) (fun h173 => ?_) (fun h173 => ?_)
            · exfalso; omega
            · refine tf_bipush hx hb dX10_behindSum_37 (by decide) ?_
              refine lv_goto (tgt := 57) hx hb dX10_behindSum_39 (by decide) ?_
              refine lv_istore_n (lv' := [(2, .int (Int32.ofInt 22)), (0, .ref a0), (1, .int (Int32.ofInt x1))]) hx hb dX10_behindSum_57 rfl hl (by decide) rfl (fun ls hl => ?_)
              refine lv_iload_n hx hb dX10_behindSum_58 rfl (lv_at hl 0 rfl) ?_
              refine tf_iconst hx hb dX10_behindSum_59 ?_
              refine tf_icmp_eq (tgt := 83) hx hb ⟨by decide, by decide⟩ ⟨by decide, by decide⟩ dX10_behindSum_60 (by decide) (fun h174 => ?_) (fun h174 => ?_)
              · exfalso; omega
              · refine lv_aload_n hx hb dX10_behindSum_63 rfl (lv_at hl 1 rfl) ?_
                refine lv_iload_n hx hb dX10_behindSum_64 rfl (lv_at hl 0 rfl) ?_
                refine tf_calli (va_runS (As := [.int (Int32.ofInt 22)]) (rest := [.ref a0]) ⟨hx, hb, hml, hown, hts⟩ (c_X10_binds l g T (22) ⟨by omega, by omega⟩) ⟨callB_of 1 hts (gw_ws cm_X10_binds) rfl rfl rfl (hts _ (tw1 (i := 5) rfl)) (hts _ (tw31 (i := 1) rfl)) hd_X10_binds.2 ⟨Nat.le_trans (by decide) hR1, Nat.le_trans (by decide) hR2⟩, hts _ (tw31 (i := 2) rfl)⟩ (tf_preS hk hW trivial) rfl rfl hl.1 rfl (lv_room (Nat.le_of_ble_eq_true rfl)) dX10_behindSum_65 ⟨Nat.zero_le _, Nat.zero_le _⟩) hW (by decide) (fun z175 H175 locs175 hW hF175 hp175 => ?_)
                have hs176 := tf_keepF hF175 ha0 rfl rfl (by decide) hs156
                have hs177 := tf_keepF hF175 ha0 rfl rfl (by decide) hs157
                have hs178 := tf_keepF hF175 ha0 rfl rfl (by decide) hs158
                have hs179 := tf_keepF hF175 ha0 rfl rfl (by decide) hs159
                have hs180 := tf_keepF hF175 ha0 rfl rfl (by decide) hs160
                have hs181 := tf_keepF hF175 ha0 rfl rfl (by decide) hs161
                have hs182 := tf_keepF hF175 ha0 rfl rfl (by decide) hs162
                have hs183 := tf_keepF hF175 ha0 rfl rfl (by decide) hs163
                have hs184 := tf_keepF hF175 ha0 rfl rfl (by decide) hs164
                have hs185 := tf_keepF hF175 ha0 rfl rfl (by decide) hs165
                have hs186 := tf_keepF hF175 ha0 rfl rfl (by decide) hs166
                have hs187 := tf_keepF hF175 ha0 rfl rfl (by decide) hs167
                have hs188 := tf_keepC hF175 hqop rfl (by decide) hs168
                have hs189 := tf_keepC hF175 hqar rfl (by decide) hs169
                have hs190 := tf_keepC hF175 hqpi rfl (by decide) hs170
                have hs191 := tf_keepC hF175 hqpa rfl (by decide) hs171
                obtain ⟨hp175_0, hp175_1, hp175_2⟩ := hp175
                refine tf_callv (va_runV (As := [.int (Int32.ofInt z175)]) (rest := []) ⟨hx, hb, hml, hown, hts⟩ (c_X10_settle l g T a0 ha0 (z175) ⟨by omega, by omega⟩ qop hqop qar hqar qpi hqpi qpa hqpa (gc) ⟨by omega, by omega⟩ (gp) ⟨by omega, by omega⟩ rop rar rpi rpa (by first | omega | assumption) (tf_PI_PB hq3 (by omega))) (cwV 1 hts gv_X10_291 rfl rfl rfl hd_X10_settle ⟨Nat.le_trans (by decide) hR1, Nat.le_trans (by decide) hR2⟩) (tf_preV hk hW ha0 (ci := 10) rfl rfl ⟨hs176, hs177, hs178, hs179, hs186, hs187, hs188, hs189, hs190, hs191⟩) rfl rfl hl.1 rfl (lv_room (Nat.le_of_ble_eq_true rfl)) dX10_behindSum_68 ⟨Nat.zero_le _, Nat.zero_le _⟩) hW (by decide) (fun HS locsS hW hFS hpS => ?_)
                have hs192 := tf_keepF hFS ha0 rfl rfl (by decide) hs176
                have hs193 := tf_keepF hFS ha0 rfl rfl (by decide) hs177
                have hs194 := tf_keepF hFS ha0 rfl rfl (by decide) hs178
                have hs195 := tf_keepF hFS ha0 rfl rfl (by decide) hs179
                have hs196 := tf_keepF hFS ha0 rfl rfl (by decide) hs180
                have hs197 := tf_keepF hFS ha0 rfl rfl (by decide) hs181
                have hs198 := tf_keepF hFS ha0 rfl rfl (by decide) hs182
                have hs199 := tf_keepF hFS ha0 rfl rfl (by decide) hs183
                have hs200 := tf_keepF hFS ha0 rfl rfl (by decide) hs184
                have hs201 := tf_keepF hFS ha0 rfl rfl (by decide) hs185
                have hs202 := tf_keepC hFS hqpi rfl (by decide) hs190
                have hs203 := tf_keepC hFS hqpa rfl (by decide) hs191
                obtain ⟨gc1_S, gp1_S, rop1_S, rar1_S, hXS_0, hXS_1, hXS_2, hXS_3, hBS_0, hBS_1, hRS_0, hRS_1, hRS_2, hRS_3, hRS_4, hRS_5⟩ := hpS
                refine lv_aload_n hx hb dX10_behindSum_71 rfl (lv_at hl 1 rfl) ?_
                refine lv_iload_n hx hb dX10_behindSum_72 rfl (lv_at hl 0 rfl) ?_
                refine tf_iconst hx hb dX10_behindSum_73 ?_
                refine tf_callv (va_runV (As := [.int (Int32.ofInt 22), .int (Int32.ofInt 0)]) (rest := []) ⟨hx, hb, hml, hown, hts⟩ (c_X10_push l g T a0 ha0 (22) ⟨by omega, by omega⟩ (0) ⟨by omega, by omega⟩ qpi hqpi qpa hqpa (gp1_S) ⟨by omega, by omega⟩ rpi rpa) (cwV 2 hts gv_X10_265 rfl rfl rfl hd_X10_push ⟨Nat.le_trans (by decide) hR1, Nat.le_trans (by decide) hR2⟩) (tf_preV hk hW ha0 (ci := 10) rfl rfl ⟨hs194, hs195, hXS_1, hs202, hs203⟩) rfl rfl hl.1 rfl (lv_room (Nat.le_of_ble_eq_true rfl)) dX10_behindSum_74 ⟨Nat.zero_le _, Nat.zero_le _⟩) hW (by decide) (fun H204 locs204 hW hF204 hp204 => ?_)
                have hs205 := tf_keepF hF204 ha0 rfl rfl (by decide) hs192
                have hs206 := tf_keepF hF204 ha0 rfl rfl (by decide) hs193
                have hs207 := tf_keepF hF204 ha0 rfl rfl (by decide) hs194
                have hs208 := tf_keepF hF204 ha0 rfl rfl (by decide) hs195
                have hs209 := tf_keepF hF204 ha0 rfl rfl (by decide) hs196
                have hs210 := tf_keepF hF204 ha0 rfl rfl (by decide) hs197
                have hs211 := tf_keepF hF204 ha0 rfl rfl (by decide) hs198
                have hs212 := tf_keepF hF204 ha0 rfl rfl (by decide) hs199
                have hs213 := tf_keepF hF204 ha0 rfl rfl (by decide) hs200
                have hs214 := tf_keepF hF204 ha0 rfl rfl (by decide) hs201
                have hs215 := tf_keepF hF204 ha0 rfl rfl (by decide) hXS_0
                have hs216 := tf_keepC hF204 hqop rfl (by decide) hXS_2
                have hs217 := tf_keepC hF204 hqar rfl (by decide) hXS_3
                obtain ⟨ho204_0, ho204_1, ho204_2⟩ := hp204
                refine lv_aload_n hx hb dX10_behindSum_77 rfl (lv_at hl 1 rfl) ?_
                refine tf_callv (va_runV (As := []) (rest := []) ⟨hx, hb, hml, hown, hts⟩ (c_X10_next l g T a0 ha0 (gn) ⟨by omega, by omega⟩ (gt) ⟨by omega, by omega⟩ (by first | omega | assumption)) (cwV 0 hts gv_X10_204 rfl rfl rfl hd_X10_next ⟨Nat.le_trans (by decide) hR1, Nat.le_trans (by decide) hR2⟩) (tf_preV hk hW ha0 (ci := 10) rfl rfl ⟨hs209, hs211⟩) rfl rfl hl.1 rfl (lv_room (Nat.le_of_ble_eq_true rfl)) dX10_behindSum_78 ⟨Nat.zero_le _, Nat.zero_le _⟩) hW (by decide) (fun H218 locs218 hW hF218 hp218 => ?_)
                have hs219 := tf_keepF hF218 ha0 rfl rfl (by decide) hs205
                have hs220 := tf_keepF hF218 ha0 rfl rfl (by decide) hs206
                have hs221 := tf_keepF hF218 ha0 rfl rfl (by decide) hs207
                have hs222 := tf_keepF hF218 ha0 rfl rfl (by decide) hs208
                have hs223 := tf_keepF hF218 ha0 rfl rfl (by decide) hs209
                have hs224 := tf_keepF hF218 ha0 rfl rfl (by decide) hs214
                have hs225 := tf_keepF hF218 ha0 rfl rfl (by decide) hs215
                have hs226 := tf_keepC hF218 hqop rfl (by decide) hs216
                have hs227 := tf_keepC hF218 hqar rfl (by decide) hs217
                have hs228 := tf_keepF hF218 ha0 rfl rfl (by decide) ho204_0
                have hs229 := tf_keepC hF218 hqpi rfl (by decide) ho204_1
                have hs230 := tf_keepC hF218 hqpa rfl (by decide) ho204_2
                obtain ⟨gf1_218, gt1_218, gs1_218, gw1_218, hX218_0, hX218_1, hX218_2, hX218_3, hB218_0, hB218_1, hB218_2, hB218_3, hR218_0, hR218_1⟩ := hp218
                refine tf_iconst hx hb dX10_behindSum_81 ?_
                exact tf_reti (z := 1) hx hb hr hlocks hQ hW ⟨by omega, by omega, ⟨(gb), (gf1_218), (gt1_218), (gs1_218), (gw1_218), (gc1_S), ((gp1_S + 1)), rop1_S, rar1_S, (tf_up (rpi) (gp1_S) (22)), (tf_up (rpa) (gp1_S) (0)), hs224, hX218_0, hX218_1, hX218_2, hX218_3, hs225, hs228, hs226, hs227, hs229, hs230, ⟨by omega, by omega⟩, ⟨by omega, by omega⟩, ⟨by omega, by omega⟩, ⟨by omega, by omega⟩, ⟨by omega, by omega⟩, ⟨by omega, by omega⟩, ⟨by omega, by omega⟩, (by first | omega | assumption), (by first | omega | assumption), (tf_PI_PB (tf_PI_sign (hRS_5 o0 u0 fs hq3) (by omega) (by omega)) (by omega)), (Or.inr (tf_ST1 (tf_PI_sign (hRS_5 o0 u0 fs hq3) (by omega) (by omega)) (tf_Q_push (tf_Q_mono hq4 (by omega)) (by omega)))), (by first | omega | assumption)⟩⟩ dX10_behindSum_82
          · refine tf_if_eq (tgt := 42) hx hb ⟨by decide, by decide⟩ dX10_behindSum_34 (by decide) (fun h231 => ?_) (fun h231 => ?_)
            · refine lv_aload_n hx hb dX10_behindSum_42 rfl (lv_at hl 0 rfl) ?_
              refine tf_bipush hx hb dX10_behindSum_43 (by decide) ?_
              refine tf_calli (va_runV (As := [.int (Int32.ofInt 47)]) (rest := []) ⟨hx, hb, hml, hown, hts⟩ (c_X10_isSign l g T a0 ha0 (47) ⟨by omega, by omega⟩ (gs) ⟨by omega, by omega⟩ (gw) ⟨by omega, by omega⟩) (cwV 1 hts gv_X10_271 rfl rfl rfl hd_X10_isSign ⟨Nat.le_trans (by decide) hR1, Nat.le_trans (by decide) hR2⟩) (tf_preV hk hW ha0 (ci := 10) rfl rfl ⟨hs163, hs164⟩) rfl rfl hl.1 rfl (lv_room (Nat.le_of_ble_eq_true rfl)) dX10_behindSum_45 ⟨Nat.zero_le _, Nat.zero_le _⟩) hW (by decide) (fun z232 H232 locs232 hW hF232 hp232 => ?_)
              have hs233 := tf_keepF hF232 ha0 rfl rfl (by decide) hs156
              have hs234 := tf_keepF hF232 ha0 rfl rfl (by decide) hs157
              have hs235 := tf_keepF hF232 ha0 rfl rfl (by decide) hs158
              have hs236 := tf_keepF hF232 ha0 rfl rfl (by decide) hs159
              have hs237 := tf_keepF hF232 ha0 rfl rfl (by decide) hs160
              have hs238 := tf_keepF hF232 ha0 rfl rfl (by decide) hs161
              have hs239 := tf_keepF hF232 ha0 rfl rfl (by decide) hs162
              have hs240 := tf_keepF hF232 ha0 rfl rfl (by decide) hs163
              have hs241 := tf_keepF hF232 ha0 rfl rfl (by decide) hs164
              have hs242 := tf_keepF hF232 ha0 rfl rfl (by decide) hs165
              have hs243 := tf_keepF hF232 ha0 rfl rfl (by decide) hs166
              have hs244 := tf_keepF hF232 ha0 rfl rfl (by decide) hs167
              have hs245 := tf_keepC hF232 hqop rfl (by decide) hs168
              have hs246 := tf_keepC hF232 hqar rfl (by decide) hs169
              have hs247 := tf_keepC hF232 hqpi rfl (by decide) hs170
              have hs248 := tf_keepC hF232 hqpa rfl (by decide) hs171
              rcases hp232 with ⟨rfl, h249⟩ | ⟨rfl⟩
              · refine tf_if_eq (tgt := 56) hx hb ⟨by decide, by decide⟩ dX10_behindSum_48 (by decide) (fun h250 => ?_) (fun h250 => ?_)
                · exfalso; omega
                · refine tf_bipush hx hb dX10_behindSum_51 (by decide) ?_
                  refine lv_goto (tgt := 57) hx hb dX10_behindSum_53 (by decide) ?_
                  refine lv_istore_n (lv' := [(2, .int (Int32.ofInt 23)), (0, .ref a0), (1, .int (Int32.ofInt x1))]) hx hb dX10_behindSum_57 rfl hl (by decide) rfl (fun ls hl => ?_)
                  refine lv_iload_n hx hb dX10_behindSum_58 rfl (lv_at hl 0 rfl) ?_
                  refine tf_iconst hx hb dX10_behindSum_59 ?_
                  refine tf_icmp_eq (tgt := 83) hx hb ⟨by decide, by decide⟩ ⟨by decide, by decide⟩ dX10_behindSum_60 (by decide) (fun h251 => ?_) (fun h251 => ?_)
                  · exfalso; omega
                  · refine lv_aload_n hx hb dX10_behindSum_63 rfl (lv_at hl 1 rfl) ?_
                    refine lv_iload_n hx hb dX10_behindSum_64 rfl (lv_at hl 0 rfl) ?_
                    refine tf_calli (va_runS (As := [.int (Int32.ofInt 23)]) (rest := [.ref a0]) ⟨hx, hb, hml, hown, hts⟩ (c_X10_binds l g T (23) ⟨by omega, by omega⟩) ⟨callB_of 1 hts (gw_ws cm_X10_binds) rfl rfl rfl (hts _ (tw1 (i := 5) rfl)) (hts _ (tw31 (i := 1) rfl)) hd_X10_binds.2 ⟨Nat.le_trans (by decide) hR1, Nat.le_trans (by decide) hR2⟩, hts _ (tw31 (i := 2) rfl)⟩ (tf_preS hk hW trivial) rfl rfl hl.1 rfl (lv_room (Nat.le_of_ble_eq_true rfl)) dX10_behindSum_65 ⟨Nat.zero_le _, Nat.zero_le _⟩) hW (by decide) (fun z252 H252 locs252 hW hF252 hp252 => ?_)
                    have hs253 := tf_keepF hF252 ha0 rfl rfl (by decide) hs233
                    have hs254 := tf_keepF hF252 ha0 rfl rfl (by decide) hs234
                    have hs255 := tf_keepF hF252 ha0 rfl rfl (by decide) hs235
                    have hs256 := tf_keepF hF252 ha0 rfl rfl (by decide) hs236
                    have hs257 := tf_keepF hF252 ha0 rfl rfl (by decide) hs237
                    have hs258 := tf_keepF hF252 ha0 rfl rfl (by decide) hs238
                    have hs259 := tf_keepF hF252 ha0 rfl rfl (by decide) hs239
                    have hs260 := tf_keepF hF252 ha0 rfl rfl (by decide) hs240
                    have hs261 := tf_keepF hF252 ha0 rfl rfl (by decide) hs241
                    have hs262 := tf_keepF hF252 ha0 rfl rfl (by decide) hs242
                    have hs263 := tf_keepF hF252 ha0 rfl rfl (by decide) hs243
                    have hs264 := tf_keepF hF252 ha0 rfl rfl (by decide) hs244
                    have hs265 := tf_keepC hF252 hqop rfl (by decide) hs245
                    have hs266 := tf_keepC hF252 hqar rfl (by decide) hs246
                    have hs267 := tf_keepC hF252 hqpi rfl (by decide) hs247
                    have hs268 := tf_keepC hF252 hqpa rfl (by decide) hs248
                    obtain ⟨hp252_0, hp252_1, hp252_2⟩ := hp252
                    refine tf_callv (va_runV (As := [.int (Int32.ofInt z252)]) (rest := []) ⟨hx, hb, hml, hown, hts⟩ (c_X10_settle l g T a0 ha0 (z252) ⟨by omega, by omega⟩ qop hqop qar hqar qpi hqpi qpa hqpa (gc) ⟨by omega, by omega⟩ (gp) ⟨by omega, by omega⟩ rop rar rpi rpa (by first | omega | assumption) (tf_PI_PB hq3 (by omega))) (cwV 1 hts gv_X10_291 rfl rfl rfl hd_X10_settle ⟨Nat.le_trans (by decide) hR1, Nat.le_trans (by decide) hR2⟩) (tf_preV hk hW ha0 (ci := 10) rfl rfl ⟨hs253, hs254, hs255, hs256, hs263, hs264, hs265, hs266, hs267, hs268⟩) rfl rfl hl.1 rfl (lv_room (Nat.le_of_ble_eq_true rfl)) dX10_behindSum_68 ⟨Nat.zero_le _, Nat.zero_le _⟩) hW (by decide) (fun HS locsS hW hFS hpS => ?_)
                    have hs269 := tf_keepF hFS ha0 rfl rfl (by decide) hs253
                    have hs270 := tf_keepF hFS ha0 rfl rfl (by decide) hs254
                    have hs271 := tf_keepF hFS ha0 rfl rfl (by decide) hs255
                    have hs272 := tf_keepF hFS ha0 rfl rfl (by decide) hs256
                    have hs273 := tf_keepF hFS ha0 rfl rfl (by decide) hs257
                    have hs274 := tf_keepF hFS ha0 rfl rfl (by decide) hs258
                    have hs275 := tf_keepF hFS ha0 rfl rfl (by decide) hs259
                    have hs276 := tf_keepF hFS ha0 rfl rfl (by decide) hs260
                    have hs277 := tf_keepF hFS ha0 rfl rfl (by decide) hs261
                    have hs278 := tf_keepF hFS ha0 rfl rfl (by decide) hs262
                    have hs279 := tf_keepC hFS hqpi rfl (by decide) hs267
                    have hs280 := tf_keepC hFS hqpa rfl (by decide) hs268
                    obtain ⟨gc1_S, gp1_S, rop1_S, rar1_S, hXS_0, hXS_1, hXS_2, hXS_3, hBS_0, hBS_1, hRS_0, hRS_1, hRS_2, hRS_3, hRS_4, hRS_5⟩ := hpS
                    refine lv_aload_n hx hb dX10_behindSum_71 rfl (lv_at hl 1 rfl) ?_
                    refine lv_iload_n hx hb dX10_behindSum_72 rfl (lv_at hl 0 rfl) ?_
                    refine tf_iconst hx hb dX10_behindSum_73 ?_
                    refine tf_callv (va_runV (As := [.int (Int32.ofInt 23), .int (Int32.ofInt 0)]) (rest := []) ⟨hx, hb, hml, hown, hts⟩ (c_X10_push l g T a0 ha0 (23) ⟨by omega, by omega⟩ (0) ⟨by omega, by omega⟩ qpi hqpi qpa hqpa (gp1_S) ⟨by omega, by omega⟩ rpi rpa) (cwV 2 hts gv_X10_265 rfl rfl rfl hd_X10_push ⟨Nat.le_trans (by decide) hR1, Nat.le_trans (by decide) hR2⟩) (tf_preV hk hW ha0 (ci := 10) rfl rfl ⟨hs271, hs272, hXS_1, hs279, hs280⟩) rfl rfl hl.1 rfl (lv_room (Nat.le_of_ble_eq_true rfl)) dX10_behindSum_74 ⟨Nat.zero_le _, Nat.zero_le _⟩) hW (by decide) (fun H281 locs281 hW hF281 hp281 => ?_)
                    have hs282 := tf_keepF hF281 ha0 rfl rfl (by decide) hs269
                    have hs283 := tf_keepF hF281 ha0 rfl rfl (by decide) hs270
                    have hs284 := tf_keepF hF281 ha0 rfl rfl (by decide) hs271
                    have hs285 := tf_keepF hF281 ha0 rfl rfl (by decide) hs272
                    have hs286 := tf_keepF hF281 ha0 rfl rfl (by decide) hs273
                    have hs287 := tf_keepF hF281 ha0 rfl rfl (by decide) hs274
                    have hs288 := tf_keepF hF281 ha0 rfl rfl (by decide) hs275
                    have hs289 := tf_keepF hF281 ha0 rfl rfl (by decide) hs276
                    have hs290 := tf_keepF hF281 ha0 rfl rfl (by decide) hs277
                    have hs291 := tf_keepF hF281 ha0 rfl rfl (by decide) hs278
                    have hs292 := tf_keepF hF281 ha0 rfl rfl (by decide) hXS_0
                    have hs293 := tf_keepC hF281 hqop rfl (by decide) hXS_2
                    have hs294 := tf_keepC hF281 hqar rfl (by decide) hXS_3
                    obtain ⟨ho281_0, ho281_1, ho281_2⟩ := hp281
                    refine lv_aload_n hx hb dX10_behindSum_77 rfl (lv_at hl 1 rfl) ?_
                    refine tf_callv (va_runV (As := []) (rest := []) ⟨hx, hb, hml, hown, hts⟩ (c_X10_next l g T a0 ha0 (gn) ⟨by omega, by omega⟩ (gt) ⟨by omega, by omega⟩ (by first | omega | assumption)) (cwV 0 hts gv_X10_204 rfl rfl rfl hd_X10_next ⟨Nat.le_trans (by decide) hR1, Nat.le_trans (by decide) hR2⟩) (tf_preV hk hW ha0 (ci := 10) rfl rfl ⟨hs286, hs288⟩) rfl rfl hl.1 rfl (lv_room (Nat.le_of_ble_eq_true rfl)) dX10_behindSum_78 ⟨Nat.zero_le _, Nat.zero_le _⟩) hW (by decide) (fun H295 locs295 hW hF295 hp295 => ?_)
                    have hs296 := tf_keepF hF295 ha0 rfl rfl (by decide) hs282
                    have hs297 := tf_keepF hF295 ha0 rfl rfl (by decide) hs283
                    have hs298 := tf_keepF hF295 ha0 rfl rfl (by decide) hs284
                    have hs299 := tf_keepF hF295 ha0 rfl rfl (by decide) hs285
                    have hs300 := tf_keepF hF295 ha0 rfl rfl (by decide) hs286
                    have hs301 := tf_keepF hF295 ha0 rfl rfl (by decide) hs291
                    have hs302 := tf_keepF hF295 ha0 rfl rfl (by decide) hs292
                    have hs303 := tf_keepC hF295 hqop rfl (by decide) hs293
                    have hs304 := tf_keepC hF295 hqar rfl (by decide) hs294
                    have hs305 := tf_keepF hF295 ha0 rfl rfl (by decide) ho281_0
                    have hs306 := tf_keepC hF295 hqpi rfl (by decide) ho281_1
                    have hs307 := tf_keepC hF295 hqpa rfl (by decide) ho281_2
                    obtain ⟨gf1_295, gt1_295, gs1_295, gw1_295, hX295_0, hX295_1, hX295_2, hX295_3, hB295_0, hB295_1, hB295_2, hB295_3, hR295_0, hR295_1⟩ := hp295
                    refine tf_iconst hx hb dX10_behindSum_81 ?_
                    exact tf_reti (z := 1) hx hb hr hlocks hQ hW ⟨by omega, by omega, ⟨(gb), (gf1_295), (gt1_295), (gs1_295), (gw1_295), (gc1_S), ((gp1_S + 1)), rop1_S, rar1_S, (tf_up (rpi) (gp1_S) (23)), (tf_up (rpa) (gp1_S) (0)), hs301, hX295_0, hX295_1, hX295_2, hX295_3, hs302, hs305, hs303, hs304, hs306, hs307, ⟨by omega, by omega⟩, ⟨by omega, by omega⟩, ⟨by omega, by omega⟩, ⟨by omega, by omega⟩, ⟨by omega, by omega⟩, ⟨by omega, by omega⟩, ⟨by omega, by omega⟩, (by first | omega | assumption), (by first | omega | assumption), (tf_PI_PB (tf_PI_sign (hRS_5 o0 u0 fs hq3) (by omega) (by omega)) (by omega)), (Or.inr (tf_ST1 (tf_PI_sign (hRS_5 o0 u0 fs hq3) (by omega) (by omega)) (tf_Q_push (tf_Q_mono hq4 (by omega)) (by omega)))), (by first | omega | assumption)⟩⟩ dX10_behindSum_82
              · refine tf_if_eq (tgt := 56) hx hb ⟨by decide, by decide⟩ dX10_behindSum_48 (by decide) (fun h308 => ?_) (fun h308 => ?_)
                · refine tf_iconst hx hb dX10_behindSum_56 ?_
                  refine lv_istore_n (lv' := [(2, .int (Int32.ofInt ((-1)))), (0, .ref a0), (1, .int (Int32.ofInt x1))]) hx hb dX10_behindSum_57 rfl hl (by decide) rfl (fun ls hl => ?_)
                  refine lv_iload_n hx hb dX10_behindSum_58 rfl (lv_at hl 0 rfl) ?_
                  refine tf_iconst hx hb dX10_behindSum_59 ?_
                  refine tf_icmp_eq (tgt := 83) hx hb ⟨by decide, by decide⟩ ⟨by decide, by decide⟩ dX10_behindSum_60 (by decide) (fun h309 => ?_) (fun h309 => ?_)
                  · refine lv_aload_n hx hb dX10_behindSum_83 rfl (lv_at hl 1 rfl) ?_
                    refine tf_calli (va_runV (As := []) (rest := []) ⟨hx, hb, hml, hown, hts⟩ (c_X10_inner l g T a0 ha0 qpi hqpi (gp) ⟨by omega, by omega⟩ rpi) (cwV 0 hts gv_X10_294 rfl rfl rfl hd_X10_inner ⟨Nat.le_trans (by decide) hR1, Nat.le_trans (by decide) hR2⟩) (tf_preV hk hW ha0 (ci := 10) rfl rfl ⟨hs235, hs244, hs247⟩) rfl rfl hl.1 rfl (lv_room (Nat.le_of_ble_eq_true rfl)) dX10_behindSum_84 ⟨Nat.zero_le _, Nat.zero_le _⟩) hW (by decide) (fun zI HI locsI hW hFI hpI => ?_)
                    have hs310 := tf_keepF hFI ha0 rfl rfl (by decide) hs233
                    have hs311 := tf_keepF hFI ha0 rfl rfl (by decide) hs234
                    have hs312 := tf_keepF hFI ha0 rfl rfl (by decide) hs235
                    have hs313 := tf_keepF hFI ha0 rfl rfl (by decide) hs236
                    have hs314 := tf_keepF hFI ha0 rfl rfl (by decide) hs237
                    have hs315 := tf_keepF hFI ha0 rfl rfl (by decide) hs238
                    have hs316 := tf_keepF hFI ha0 rfl rfl (by decide) hs239
                    have hs317 := tf_keepF hFI ha0 rfl rfl (by decide) hs240
                    have hs318 := tf_keepF hFI ha0 rfl rfl (by decide) hs241
                    have hs319 := tf_keepF hFI ha0 rfl rfl (by decide) hs242
                    have hs320 := tf_keepF hFI ha0 rfl rfl (by decide) hs243
                    have hs321 := tf_keepF hFI ha0 rfl rfl (by decide) hs244
                    have hs322 := tf_keepC hFI hqop rfl (by decide) hs245
                    have hs323 := tf_keepC hFI hqar rfl (by decide) hs246
                    have hs324 := tf_keepC hFI hqpi rfl (by decide) hs247
                    have hs325 := tf_keepC hFI hqpa rfl (by decide) hs248
                    obtain ⟨hpI_0, hpI_1, hpI_2⟩ := hpI
                    refine lv_istore_n (lv' := [(3, .int (Int32.ofInt zI)), (2, .int (Int32.ofInt ((-1)))), (0, .ref a0), (1, .int (Int32.ofInt x1))]) hx hb dX10_behindSum_87 rfl hl (by decide) rfl (fun ls hl => ?_)
                    refine lv_iload_n hx hb dX10_behindSum_88 rfl (lv_at hl 0 rfl) ?_
                    refine tf_bipush hx hb dX10_behindSum_89 (by decide) ?_
                    refine tf_icmp_ne (tgt := 138) hx hb ⟨by omega, by omega⟩ ⟨by decide, by decide⟩ dX10_behindSum_91 (by decide) (fun h326 => ?_) (fun h326 => ?_)
                    · refine lv_iload_n hx hb dX10_behindSum_138 rfl (lv_at hl 0 rfl) ?_
                      refine tf_iconst hx hb dX10_behindSum_139 ?_
                      refine tf_icmp_ne (tgt := 149) hx hb ⟨by omega, by omega⟩ ⟨by decide, by decide⟩ dX10_behindSum_140 (by decide) (fun h327 => ?_) (fun h327 => ?_)
                      · have hNS := tf_inn_NS hpI_2 (by omega) hq4
                        refine lv_aload_n hx hb dX10_behindSum_149 rfl (lv_at hl 2 rfl) ?_
                        refine tf_calli (va_runV (As := []) (rest := []) ⟨hx, hb, hml, hown, hts⟩ (c_X10_isCompared l g T a0 ha0) (cwV 0 hts gv_X10_297 rfl rfl rfl hd_X10_isCompared ⟨Nat.le_trans (by decide) hR1, Nat.le_trans (by decide) hR2⟩) (tf_preV hk hW ha0 (ci := 10) rfl rfl trivial) rfl rfl hl.1 rfl (lv_room (Nat.le_of_ble_eq_true rfl)) dX10_behindSum_150 ⟨Nat.zero_le _, Nat.zero_le _⟩) hW (by decide) (fun z328 H328 locs328 hW hF328 hp328 => ?_)
                        have hs329 := tf_keepF hF328 ha0 rfl rfl (by decide) hs310
                        have hs330 := tf_keepF hF328 ha0 rfl rfl (by decide) hs311
                        have hs331 := tf_keepF hF328 ha0 rfl rfl (by decide) hs312
                        have hs332 := tf_keepF hF328 ha0 rfl rfl (by decide) hs313
                        have hs333 := tf_keepF hF328 ha0 rfl rfl (by decide) hs314
                        have hs334 := tf_keepF hF328 ha0 rfl rfl (by decide) hs315
                        have hs335 := tf_keepF hF328 ha0 rfl rfl (by decide) hs316
                        have hs336 := tf_keepF hF328 ha0 rfl rfl (by decide) hs317
                        have hs337 := tf_keepF hF328 ha0 rfl rfl (by decide) hs318
                        have hs338 := tf_keepF hF328 ha0 rfl rfl (by decide) hs319
                        have hs339 := tf_keepF hF328 ha0 rfl rfl (by decide) hs320
                        have hs340 := tf_keepF hF328 ha0 rfl rfl (by decide) hs321
                        have hs341 := tf_keepC hF328 hqop rfl (by decide) hs322
                        have hs342 := tf_keepC hF328 hqar rfl (by decide) hs323
                        have hs343 := tf_keepC hF328 hqpi rfl (by decide) hs324
                        have hs344 := tf_keepC hF328 hqpa rfl (by decide) hs325
                        have hp328 : z328 = 0 ∨ z328 = 1 := hp328
                        refine tf_if_eq (tgt := 158) hx hb ⟨by omega, by omega⟩ dX10_behindSum_153 (by decide) (fun h345 => ?_) (fun h345 => ?_)
                        · refine lv_aload_n hx hb dX10_behindSum_158 rfl (lv_at hl 2 rfl) ?_
                          refine tf_bipush hx hb dX10_behindSum_159 (by decide) ?_
                          refine tf_calli (va_runV (As := [.int (Int32.ofInt 60)]) (rest := []) ⟨hx, hb, hml, hown, hts⟩ (c_X10_isSign l g T a0 ha0 (60) ⟨by omega, by omega⟩ (gs) ⟨by omega, by omega⟩ (gw) ⟨by omega, by omega⟩) (cwV 1 hts gv_X10_271 rfl rfl rfl hd_X10_isSign ⟨Nat.le_trans (by decide) hR1, Nat.le_trans (by decide) hR2⟩) (tf_preV hk hW ha0 (ci := 10) rfl rfl ⟨hs336, hs337⟩) rfl rfl hl.1 rfl (lv_room (Nat.le_of_ble_eq_true rfl)) dX10_behindSum_161 ⟨Nat.zero_le _, Nat.zero_le _⟩) hW (by decide) (fun z346 H346 locs346 hW hF346 hp346 => ?_)
                          have hs347 := tf_keepF hF346 ha0 rfl rfl (by decide) hs329
                          have hs348 := tf_keepF hF346 ha0 rfl rfl (by decide) hs330
                          have hs349 := tf_keepF hF346 ha0 rfl rfl (by decide) hs331
                          have hs350 := tf_keepF hF346 ha0 rfl rfl (by decide) hs332
                          have hs351 := tf_keepF hF346 ha0 rfl rfl (by decide) hs333
                          have hs352 := tf_keepF hF346 ha0 rfl rfl (by decide) hs334
                          have hs353 := tf_keepF hF346 ha0 rfl rfl (by decide) hs335
                          have hs354 := tf_keepF hF346 ha0 rfl rfl (by decide) hs336
                          have hs355 := tf_keepF hF346 ha0 rfl rfl (by decide) hs337
                          have hs356 := tf_keepF hF346 ha0 rfl rfl (by decide) hs338
                          have hs357 := tf_keepF hF346 ha0 rfl rfl (by decide) hs339
                          have hs358 := tf_keepF hF346 ha0 rfl rfl (by decide) hs340
                          have hs359 := tf_keepC hF346 hqop rfl (by decide) hs341
                          have hs360 := tf_keepC hF346 hqar rfl (by decide) hs342
                          have hs361 := tf_keepC hF346 hqpi rfl (by decide) hs343
                          have hs362 := tf_keepC hF346 hqpa rfl (by decide) hs344
                          rcases hp346 with ⟨rfl, h363⟩ | ⟨rfl⟩
                          · refine tf_if_eq (tgt := 172) hx hb ⟨by decide, by decide⟩ dX10_behindSum_164 (by decide) (fun h364 => ?_) (fun h364 => ?_)
                            · exfalso; omega
                            · refine tf_bipush hx hb dX10_behindSum_167 (by decide) ?_
                              refine lv_goto (tgt := 188) hx hb dX10_behindSum_169 (by decide) ?_
                              refine lv_istore_n (lv' := [(2, .int (Int32.ofInt 24)), (3, .int (Int32.ofInt zI)), (0, .ref a0), (1, .int (Int32.ofInt x1))]) hx hb dX10_behindSum_188 rfl hl (by decide) rfl (fun ls hl => ?_)
                              refine lv_aload_n hx hb dX10_behindSum_189 rfl (lv_at hl 2 rfl) ?_
                              refine lv_iload_n hx hb dX10_behindSum_190 rfl (lv_at hl 0 rfl) ?_
                              refine tf_bipush hx hb dX10_behindSum_191 (by decide) ?_
                              refine tf_icmp_ne (tgt := 205) hx hb ⟨by decide, by decide⟩ ⟨by decide, by decide⟩ dX10_behindSum_193 (by decide) (fun h365 => ?_) (fun h365 => ?_)
                              · refine tf_iconst hx hb dX10_behindSum_205 ?_
                                refine lv_goto (tgt := 210) hx hb dX10_behindSum_206 (by decide) ?_
                                refine tf_callv (va_runV (As := [.int (Int32.ofInt 1)]) (rest := []) ⟨hx, hb, hml, hown, hts⟩ (c_X10_must l g T a0 ha0 (1) ⟨by omega, by omega⟩ (gn) ⟨by omega, by omega⟩ (gf) ⟨by omega, by omega⟩ (gt) ⟨by omega, by omega⟩ (gs) ⟨by omega, by omega⟩ (gw) ⟨by omega, by omega⟩ (gb) ⟨by omega, by omega⟩ (by first | omega | assumption)) (cwV 1 hts gv_X10_235 rfl rfl rfl hd_X10_must ⟨Nat.le_trans (by decide) hR1, Nat.le_trans (by decide) hR2⟩) (tf_preV hk hW ha0 (ci := 10) rfl rfl ⟨hs351, hs352, hs353, hs354, hs355, hs356⟩) rfl rfl hl.1 rfl (lv_room (Nat.le_of_ble_eq_true rfl)) dX10_behindSum_210 ⟨Nat.zero_le _, Nat.zero_le _⟩) hW (by decide) (fun HV locsV hW hFV hpV => ?_)
                                have hs366 := tf_keepF hFV ha0 rfl rfl (by decide) hs347
                                have hs367 := tf_keepF hFV ha0 rfl rfl (by decide) hs348
                                have hs368 := tf_keepF hFV ha0 rfl rfl (by decide) hs349
                                have hs369 := tf_keepF hFV ha0 rfl rfl (by decide) hs350
                                have hs370 := tf_keepF hFV ha0 rfl rfl (by decide) hs351
                                have hs371 := tf_keepF hFV ha0 rfl rfl (by decide) hs357
                                have hs372 := tf_keepF hFV ha0 rfl rfl (by decide) hs358
                                have hs373 := tf_keepC hFV hqop rfl (by decide) hs359
                                have hs374 := tf_keepC hFV hqar rfl (by decide) hs360
                                have hs375 := tf_keepC hFV hqpi rfl (by decide) hs361
                                have hs376 := tf_keepC hFV hqpa rfl (by decide) hs362
                                obtain ⟨gb1_V, gf1_V, gt1_V, gs1_V, gw1_V, hXV_0, hXV_1, hXV_2, hXV_3, hXV_4, hBV_0, hBV_1, hBV_2, hBV_3, hBV_4, hRV_0⟩ := hpV
                                refine lv_aload_n hx hb dX10_behindSum_213 rfl (lv_at hl 2 rfl) ?_
                                refine tf_get hx hb hts inlX10 hown hK (ci := 10) rfl hW ha0 rfl 14 rfl (by decide) (hts _ fl_X10_200) dX10_behindSum_214 (fun v377 hv377 hsv377 => ?_)
                                obtain rfl : v377 = .int (Int32.ofInt gb1_V) := Option.some.inj (hsv377.symm.trans hXV_0)
                                refine tf_if_ne (tgt := 231) hx hb ⟨by omega, by omega⟩ dX10_behindSum_217 (by decide) (fun h378 => ?_) (fun h378 => ?_)
                                · refine tf_iconst hx hb dX10_behindSum_231 ?_
                                  exact tf_reti (z := 1) hx hb hr hlocks hQ hW ⟨by omega, by omega, ⟨(gb1_V), (gf1_V), (gt1_V), (gs1_V), (gw1_V), (gc), (gp), rop, rar, rpi, rpa, hXV_0, hXV_1, hXV_2, hXV_3, hXV_4, hs371, hs372, hs373, hs374, hs375, hs376, ⟨by omega, by omega⟩, ⟨by omega, by omega⟩, ⟨by omega, by omega⟩, ⟨by omega, by omega⟩, ⟨by omega, by omega⟩, ⟨by omega, by omega⟩, ⟨by omega, by omega⟩, (by first | omega | assumption), (by first | omega | assumption), (by first | exact tf_PI_PB (tf_PI_sign (hRW_5 o0 u0 fs hq3) (by omega) (by omega)) (by omega) | exact tf_PI_PB hq3 (by omega)), (by first | exact Or.inr (tf_ST1 (tf_PI_sign (hRW_5 o0 u0 fs hq3) (by omega) (by omega)) (tf_NS_Q (tf_NS_push (tf_NS_mono hNS (by omega)) (by omega)))) | exact Or.inl (by omega)), (by first | omega | assumption)⟩⟩ dX10_behindSum_232
                                · refine lv_aload_n hx hb dX10_behindSum_220 rfl (lv_at hl 2 rfl) ?_
                                  refine tf_iconst hx hb dX10_behindSum_221 ?_
                                  refine tf_callv (va_runV (As := [.int (Int32.ofInt 5)]) (rest := []) ⟨hx, hb, hml, hown, hts⟩ (c_X10_settle l g T a0 ha0 (5) ⟨by omega, by omega⟩ qop hqop qar hqar qpi hqpi qpa hqpa (gc) ⟨by omega, by omega⟩ (gp) ⟨by omega, by omega⟩ rop rar rpi rpa (by first | omega | assumption) (tf_PI_PB hq3 (by omega))) (cwV 1 hts gv_X10_291 rfl rfl rfl hd_X10_settle ⟨Nat.le_trans (by decide) hR1, Nat.le_trans (by decide) hR2⟩) (tf_preV hk hW ha0 (ci := 10) rfl rfl ⟨hs366, hs367, hs368, hs369, hs371, hs372, hs373, hs374, hs375, hs376⟩) rfl rfl hl.1 rfl (lv_room (Nat.le_of_ble_eq_true rfl)) dX10_behindSum_222 ⟨Nat.zero_le _, Nat.zero_le _⟩) hW (by decide) (fun HW locsW hW hFW hpW => ?_)
                                  have hs379 := tf_keepF hFW ha0 rfl rfl (by decide) hs366
                                  have hs380 := tf_keepF hFW ha0 rfl rfl (by decide) hs367
                                  have hs381 := tf_keepF hFW ha0 rfl rfl (by decide) hs368
                                  have hs382 := tf_keepF hFW ha0 rfl rfl (by decide) hs369
                                  have hs383 := tf_keepF hFW ha0 rfl rfl (by decide) hs370
                                  have hs384 := tf_keepC hFW hqpi rfl (by decide) hs375
                                  have hs385 := tf_keepC hFW hqpa rfl (by decide) hs376
                                  have hs386 := tf_keepF hFW ha0 rfl rfl (by decide) hXV_0
                                  have hs387 := tf_keepF hFW ha0 rfl rfl (by decide) hXV_1
                                  have hs388 := tf_keepF hFW ha0 rfl rfl (by decide) hXV_2
                                  have hs389 := tf_keepF hFW ha0 rfl rfl (by decide) hXV_3
                                  have hs390 := tf_keepF hFW ha0 rfl rfl (by decide) hXV_4
                                  obtain ⟨gc1_W, gp1_W, rop1_W, rar1_W, hXW_0, hXW_1, hXW_2, hXW_3, hBW_0, hBW_1, hRW_0, hRW_1, hRW_2, hRW_3, hRW_4, hRW_5⟩ := hpW
                                  refine lv_aload_n hx hb dX10_behindSum_225 rfl (lv_at hl 2 rfl) ?_
                                  refine lv_iload_n hx hb dX10_behindSum_226 rfl (lv_at hl 0 rfl) ?_
                                  refine tf_iconst hx hb dX10_behindSum_227 ?_
                                  refine tf_callv (va_runV (As := [.int (Int32.ofInt 24), .int (Int32.ofInt 0)]) (rest := []) ⟨hx, hb, hml, hown, hts⟩ (c_X10_push l g T a0 ha0 (24) ⟨by omega, by omega⟩ (0) ⟨by omega, by omega⟩ qpi hqpi qpa hqpa (gp1_W) ⟨by omega, by omega⟩ rpi rpa) (cwV 2 hts gv_X10_265 rfl rfl rfl hd_X10_push ⟨Nat.le_trans (by decide) hR1, Nat.le_trans (by decide) hR2⟩) (tf_preV hk hW ha0 (ci := 10) rfl rfl ⟨hs381, hs382, hXW_1, hs384, hs385⟩) rfl rfl hl.1 rfl (lv_room (Nat.le_of_ble_eq_true rfl)) dX10_behindSum_228 ⟨Nat.zero_le _, Nat.zero_le _⟩) hW (by decide) (fun H391 locs391 hW hF391 hp391 => ?_)
                                  have hs392 := tf_keepF hF391 ha0 rfl rfl (by decide) hs379
                                  have hs393 := tf_keepF hF391 ha0 rfl rfl (by decide) hs380
                                  have hs394 := tf_keepF hF391 ha0 rfl rfl (by decide) hs381
                                  have hs395 := tf_keepF hF391 ha0 rfl rfl (by decide) hs382
                                  have hs396 := tf_keepF hF391 ha0 rfl rfl (by decide) hs383
                                  have hs397 := tf_keepF hF391 ha0 rfl rfl (by decide) hs386
                                  have hs398 := tf_keepF hF391 ha0 rfl rfl (by decide) hs387
                                  have hs399 := tf_keepF hF391 ha0 rfl rfl (by decide) hs388
                                  have hs400 := tf_keepF hF391 ha0 rfl rfl (by decide) hs389
                                  have hs401 := tf_keepF hF391 ha0 rfl rfl (by decide) hs390
                                  have hs402 := tf_keepF hF391 ha0 rfl rfl (by decide) hXW_0
                                  have hs403 := tf_keepC hF391 hqop rfl (by decide) hXW_2
                                  have hs404 := tf_keepC hF391 hqar rfl (by decide) hXW_3
                                  obtain ⟨ho391_0, ho391_1, ho391_2⟩ := hp391
                                  refine tf_iconst hx hb dX10_behindSum_231 ?_
                                  exact tf_reti (z := 1) hx hb hr hlocks hQ hW ⟨by omega, by omega, ⟨(gb1_V), (gf1_V), (gt1_V), (gs1_V), (gw1_V), (gc1_W), ((gp1_W + 1)), rop1_W, rar1_W, (tf_up (rpi) (gp1_W) (24)), (tf_up (rpa) (gp1_W) (0)), hs397, hs398, hs399, hs400, hs401, hs402, ho391_0, hs403, hs404, ho391_1, ho391_2, ⟨by omega, by omega⟩, ⟨by omega, by omega⟩, ⟨by omega, by omega⟩, ⟨by omega, by omega⟩, ⟨by omega, by omega⟩, ⟨by omega, by omega⟩, ⟨by omega, by omega⟩, (by first | omega | assumption), (by first | omega | assumption), (by first | exact tf_PI_PB (tf_PI_sign (hRW_5 o0 u0 fs hq3) (by omega) (by omega)) (by omega) | exact tf_PI_PB hq3 (by omega)), (by first | exact Or.inr (tf_ST1 (tf_PI_sign (hRW_5 o0 u0 fs hq3) (by omega) (by omega)) (tf_NS_Q (tf_NS_push (tf_NS_mono hNS (by omega)) (by omega)))) | exact Or.inl (by omega)), (by first | omega | assumption)⟩⟩ dX10_behindSum_232
                              · exfalso; omega
                          · refine tf_if_eq (tgt := 172) hx hb ⟨by decide, by decide⟩ dX10_behindSum_164 (by decide) (fun h405 => ?_) (fun h405 => ?_)
                            · refine lv_aload_n hx hb dX10_behindSum_172 rfl (lv_at hl 2 rfl) ?_
                              refine tf_bipush hx hb dX10_behindSum_173 (by decide) ?_
                              refine tf_calli (va_runV (As := [.int (Int32.ofInt 62)]) (rest := []) ⟨hx, hb, hml, hown, hts⟩ (c_X10_isSign l g T a0 ha0 (62) ⟨by omega, by omega⟩ (gs) ⟨by omega, by omega⟩ (gw) ⟨by omega, by omega⟩) (cwV 1 hts gv_X10_271 rfl rfl rfl hd_X10_isSign ⟨Nat.le_trans (by decide) hR1, Nat.le_trans (by decide) hR2⟩) (tf_preV hk hW ha0 (ci := 10) rfl rfl ⟨hs354, hs355⟩) rfl rfl hl.1 rfl (lv_room (Nat.le_of_ble_eq_true rfl)) dX10_behindSum_175 ⟨Nat.zero_le _, Nat.zero_le _⟩) hW (by decide) (fun z406 H406 locs406 hW hF406 hp406 => ?_)
                              have hs407 := tf_keepF hF406 ha0 rfl rfl (by decide) hs347
                              have hs408 := tf_keepF hF406 ha0 rfl rfl (by decide) hs348
                              have hs409 := tf_keepF hF406 ha0 rfl rfl (by decide) hs349
                              have hs410 := tf_keepF hF406 ha0 rfl rfl (by decide) hs350
                              have hs411 := tf_keepF hF406 ha0 rfl rfl (by decide) hs351
                              have hs412 := tf_keepF hF406 ha0 rfl rfl (by decide) hs352
                              have hs413 := tf_keepF hF406 ha0 rfl rfl (by decide) hs353
                              have hs414 := tf_keepF hF406 ha0 rfl rfl (by decide) hs354
                              have hs415 := tf_keepF hF406 ha0 rfl rfl (by decide) hs355
                              have hs416 := tf_keepF hF406 ha0 rfl rfl (by decide) hs356
                              have hs417 := tf_keepF hF406 ha0 rfl rfl (by decide) hs357
                              have hs418 := tf_keepF hF406 ha0 rfl rfl (by decide) hs358
                              have hs419 := tf_keepC hF406 hqop rfl (by decide) hs359
                              have hs420 := tf_keepC hF406 hqar rfl (by decide) hs360
                              have hs421 := tf_keepC hF406 hqpi rfl (by decide) hs361
                              have hs422 := tf_keepC hF406 hqpa rfl (by decide) hs362
                              rcases hp406 with ⟨rfl, h423⟩ | ⟨rfl⟩
                              · refine tf_if_eq (tgt := 186) hx hb ⟨by decide, by decide⟩ dX10_behindSum_178 (by decide) (fun h424 => ?_) (fun h424 => ?_)
                                · exfalso; omega
                                · refine tf_bipush hx hb dX10_behindSum_181 (by decide) ?_
                                  refine lv_goto (tgt := 188) hx hb dX10_behindSum_183 (by decide) ?_
                                  refine lv_istore_n (lv' := [(2, .int (Int32.ofInt 25)), (3, .int (Int32.ofInt zI)), (0, .ref a0), (1, .int (Int32.ofInt x1))]) hx hb dX10_behindSum_188 rfl hl (by decide) rfl (fun ls hl => ?_)
                                  refine lv_aload_n hx hb dX10_behindSum_189 rfl (lv_at hl 2 rfl) ?_
                                  refine lv_iload_n hx hb dX10_behindSum_190 rfl (lv_at hl 0 rfl) ?_
                                  refine tf_bipush hx hb dX10_behindSum_191 (by decide) ?_
                                  refine tf_icmp_ne (tgt := 205) hx hb ⟨by decide, by decide⟩ ⟨by decide, by decide⟩ dX10_behindSum_193 (by decide) (fun h425 => ?_) (fun h425 => ?_)
                                  · refine tf_iconst hx hb dX10_behindSum_205 ?_
                                    refine lv_goto (tgt := 210) hx hb dX10_behindSum_206 (by decide) ?_
                                    refine tf_callv (va_runV (As := [.int (Int32.ofInt 1)]) (rest := []) ⟨hx, hb, hml, hown, hts⟩ (c_X10_must l g T a0 ha0 (1) ⟨by omega, by omega⟩ (gn) ⟨by omega, by omega⟩ (gf) ⟨by omega, by omega⟩ (gt) ⟨by omega, by omega⟩ (gs) ⟨by omega, by omega⟩ (gw) ⟨by omega, by omega⟩ (gb) ⟨by omega, by omega⟩ (by first | omega | assumption)) (cwV 1 hts gv_X10_235 rfl rfl rfl hd_X10_must ⟨Nat.le_trans (by decide) hR1, Nat.le_trans (by decide) hR2⟩) (tf_preV hk hW ha0 (ci := 10) rfl rfl ⟨hs411, hs412, hs413, hs414, hs415, hs416⟩) rfl rfl hl.1 rfl (lv_room (Nat.le_of_ble_eq_true rfl)) dX10_behindSum_210 ⟨Nat.zero_le _, Nat.zero_le _⟩) hW (by decide) (fun HV locsV hW hFV hpV => ?_)
                                    have hs426 := tf_keepF hFV ha0 rfl rfl (by decide) hs407
                                    have hs427 := tf_keepF hFV ha0 rfl rfl (by decide) hs408
                                    have hs428 := tf_keepF hFV ha0 rfl rfl (by decide) hs409
                                    have hs429 := tf_keepF hFV ha0 rfl rfl (by decide) hs410
                                    have hs430 := tf_keepF hFV ha0 rfl rfl (by decide) hs411
                                    have hs431 := tf_keepF hFV ha0 rfl rfl (by decide) hs417
                                    have hs432 := tf_keepF hFV ha0 rfl rfl (by decide) hs418
                                    have hs433 := tf_keepC hFV hqop rfl (by decide) hs419
                                    have hs434 := tf_keepC hFV hqar rfl (by decide) hs420
                                    have hs435 := tf_keepC hFV hqpi rfl (by decide) hs421
                                    have hs436 := tf_keepC hFV hqpa rfl (by decide) hs422
                                    obtain ⟨gb1_V, gf1_V, gt1_V, gs1_V, gw1_V, hXV_0, hXV_1, hXV_2, hXV_3, hXV_4, hBV_0, hBV_1, hBV_2, hBV_3, hBV_4, hRV_0⟩ := hpV
                                    refine lv_aload_n hx hb dX10_behindSum_213 rfl (lv_at hl 2 rfl) ?_
                                    refine tf_get hx hb hts inlX10 hown hK (ci := 10) rfl hW ha0 rfl 14 rfl (by decide) (hts _ fl_X10_200) dX10_behindSum_214 (fun v437 hv437 hsv437 => ?_)
                                    obtain rfl : v437 = .int (Int32.ofInt gb1_V) := Option.some.inj (hsv437.symm.trans hXV_0)
                                    refine tf_if_ne (tgt := 231) hx hb ⟨by omega, by omega⟩ dX10_behindSum_217 (by decide) (fun h438 => ?_) (fun h438 => ?_)
                                    · refine tf_iconst hx hb dX10_behindSum_231 ?_
                                      exact tf_reti (z := 1) hx hb hr hlocks hQ hW ⟨by omega, by omega, ⟨(gb1_V), (gf1_V), (gt1_V), (gs1_V), (gw1_V), (gc), (gp), rop, rar, rpi, rpa, hXV_0, hXV_1, hXV_2, hXV_3, hXV_4, hs431, hs432, hs433, hs434, hs435, hs436, ⟨by omega, by omega⟩, ⟨by omega, by omega⟩, ⟨by omega, by omega⟩, ⟨by omega, by omega⟩, ⟨by omega, by omega⟩, ⟨by omega, by omega⟩, ⟨by omega, by omega⟩, (by first | omega | assumption), (by first | omega | assumption), (by first | exact tf_PI_PB (tf_PI_sign (hRW_5 o0 u0 fs hq3) (by omega) (by omega)) (by omega) | exact tf_PI_PB hq3 (by omega)), (by first | exact Or.inr (tf_ST1 (tf_PI_sign (hRW_5 o0 u0 fs hq3) (by omega) (by omega)) (tf_NS_Q (tf_NS_push (tf_NS_mono hNS (by omega)) (by omega)))) | exact Or.inl (by omega)), (by first | omega | assumption)⟩⟩ dX10_behindSum_232
                                    · refine lv_aload_n hx hb dX10_behindSum_220 rfl (lv_at hl 2 rfl) ?_
                                      refine tf_iconst hx hb dX10_behindSum_221 ?_
                                      refine tf_callv (va_runV (As := [.int (Int32.ofInt 5)]) (rest := []) ⟨hx, hb, hml, hown, hts⟩ (c_X10_settle l g T a0 ha0 (5) ⟨by omega, by omega⟩ qop hqop qar hqar qpi hqpi qpa hqpa (gc) ⟨by omega, by omega⟩ (gp) ⟨by omega, by omega⟩ rop rar rpi rpa (by first | omega | assumption) (tf_PI_PB hq3 (by omega))) (cwV 1 hts gv_X10_291 rfl rfl rfl hd_X10_settle ⟨Nat.le_trans (by decide) hR1, Nat.le_trans (by decide) hR2⟩) (tf_preV hk hW ha0 (ci := 10) rfl rfl ⟨hs426, hs427, hs428, hs429, hs431, hs432, hs433, hs434, hs435, hs436⟩) rfl rfl hl.1 rfl (lv_room (Nat.le_of_ble_eq_true rfl)) dX10_behindSum_222 ⟨Nat.zero_le _, Nat.zero_le _⟩) hW (by decide) (fun HW locsW hW hFW hpW => ?_)
                                      have hs439 := tf_keepF hFW ha0 rfl rfl (by decide) hs426
                                      have hs440 := tf_keepF hFW ha0 rfl rfl (by decide) hs427
                                      have hs441 := tf_keepF hFW ha0 rfl rfl (by decide) hs428
                                      have hs442 := tf_keepF hFW ha0 rfl rfl (by decide) hs429
                                      have hs443 := tf_keepF hFW ha0 rfl rfl (by decide) hs430
                                      have hs444 := tf_keepC hFW hqpi rfl (by decide) hs435
                                      have hs445 := tf_keepC hFW hqpa rfl (by decide) hs436
                                      have hs446 := tf_keepF hFW ha0 rfl rfl (by decide) hXV_0
                                      have hs447 := tf_keepF hFW ha0 rfl rfl (by decide) hXV_1
                                      have hs448 := tf_keepF hFW ha0 rfl rfl (by decide) hXV_2
                                      have hs449 := tf_keepF hFW ha0 rfl rfl (by decide) hXV_3
                                      have hs450 := tf_keepF hFW ha0 rfl rfl (by decide) hXV_4
                                      obtain ⟨gc1_W, gp1_W, rop1_W, rar1_W, hXW_0, hXW_1, hXW_2, hXW_3, hBW_0, hBW_1, hRW_0, hRW_1, hRW_2, hRW_3, hRW_4, hRW_5⟩ := hpW
                                      refine lv_aload_n hx hb dX10_behindSum_225 rfl (lv_at hl 2 rfl) ?_
                                      refine lv_iload_n hx hb dX10_behindSum_226 rfl (lv_at hl 0 rfl) ?_
                                      refine tf_iconst hx hb dX10_behindSum_227 ?_
                                      refine tf_callv (va_runV (As := [.int (Int32.ofInt 25), .int (Int32.ofInt 0)]) (rest := []) ⟨hx, hb, hml, hown, hts⟩ (c_X10_push l g T a0 ha0 (25) ⟨by omega, by omega⟩ (0) ⟨by omega, by omega⟩ qpi hqpi qpa hqpa (gp1_W) ⟨by omega, by omega⟩ rpi rpa) (cwV 2 hts gv_X10_265 rfl rfl rfl hd_X10_push ⟨Nat.le_trans (by decide) hR1, Nat.le_trans (by decide) hR2⟩) (tf_preV hk hW ha0 (ci := 10) rfl rfl ⟨hs441, hs442, hXW_1, hs444, hs445⟩) rfl rfl hl.1 rfl (lv_room (Nat.le_of_ble_eq_true rfl)) dX10_behindSum_228 ⟨Nat.zero_le _, Nat.zero_le _⟩) hW (by decide) (fun H451 locs451 hW hF451 hp451 => ?_)
                                      have hs452 := tf_keepF hF451 ha0 rfl rfl (by decide) hs439
                                      have hs453 := tf_keepF hF451 ha0 rfl rfl (by decide) hs440
                                      have hs454 := tf_keepF hF451 ha0 rfl rfl (by decide) hs441
                                      have hs455 := tf_keepF hF451 ha0 rfl rfl (by decide) hs442
                                      have hs456 := tf_keepF hF451 ha0 rfl rfl (by decide) hs443
                                      have hs457 := tf_keepF hF451 ha0 rfl rfl (by decide) hs446
                                      have hs458 := tf_keepF hF451 ha0 rfl rfl (by decide) hs447
                                      have hs459 := tf_keepF hF451 ha0 rfl rfl (by decide) hs448
                                      have hs460 := tf_keepF hF451 ha0 rfl rfl (by decide) hs449
                                      have hs461 := tf_keepF hF451 ha0 rfl rfl (by decide) hs450
                                      have hs462 := tf_keepF hF451 ha0 rfl rfl (by decide) hXW_0
                                      have hs463 := tf_keepC hF451 hqop rfl (by decide) hXW_2
                                      have hs464 := tf_keepC hF451 hqar rfl (by decide) hXW_3
                                      obtain ⟨ho451_0, ho451_1, ho451_2⟩ := hp451
                                      refine tf_iconst hx hb dX10_behindSum_231 ?_
                                      exact tf_reti (z := 1) hx hb hr hlocks hQ hW ⟨by omega, by omega, ⟨(gb1_V), (gf1_V), (gt1_V), (gs1_V), (gw1_V), (gc1_W), ((gp1_W + 1)), rop1_W, rar1_W, (tf_up (rpi) (gp1_W) (25)), (tf_up (rpa) (gp1_W) (0)), hs457, hs458, hs459, hs460, hs461, hs462, ho451_0, hs463, hs464, ho451_1, ho451_2, ⟨by omega, by omega⟩, ⟨by omega, by omega⟩, ⟨by omega, by omega⟩, ⟨by omega, by omega⟩, ⟨by omega, by omega⟩, ⟨by omega, by omega⟩, ⟨by omega, by omega⟩, (by first | omega | assumption), (by first | omega | assumption), (by first | exact tf_PI_PB (tf_PI_sign (hRW_5 o0 u0 fs hq3) (by omega) (by omega)) (by omega) | exact tf_PI_PB hq3 (by omega)), (by first | exact Or.inr (tf_ST1 (tf_PI_sign (hRW_5 o0 u0 fs hq3) (by omega) (by omega)) (tf_NS_Q (tf_NS_push (tf_NS_mono hNS (by omega)) (by omega)))) | exact Or.inl (by omega)), (by first | omega | assumption)⟩⟩ dX10_behindSum_232
                                  · exfalso; omega
                              · refine tf_if_eq (tgt := 186) hx hb ⟨by decide, by decide⟩ dX10_behindSum_178 (by decide) (fun h465 => ?_) (fun h465 => ?_)
                                · refine tf_bipush hx hb dX10_behindSum_186 (by decide) ?_
                                  refine lv_istore_n (lv' := [(2, .int (Int32.ofInt 26)), (3, .int (Int32.ofInt zI)), (0, .ref a0), (1, .int (Int32.ofInt x1))]) hx hb dX10_behindSum_188 rfl hl (by decide) rfl (fun ls hl => ?_)
                                  refine lv_aload_n hx hb dX10_behindSum_189 rfl (lv_at hl 2 rfl) ?_
                                  refine lv_iload_n hx hb dX10_behindSum_190 rfl (lv_at hl 0 rfl) ?_
                                  refine tf_bipush hx hb dX10_behindSum_191 (by decide) ?_
                                  refine tf_icmp_ne (tgt := 205) hx hb ⟨by decide, by decide⟩ ⟨by decide, by decide⟩ dX10_behindSum_193 (by decide) (fun h466 => ?_) (fun h466 => ?_)
                                  · exfalso; omega
                                  · refine lv_aload_n hx hb dX10_behindSum_196 rfl (lv_at hl 2 rfl) ?_
                                    refine tf_bipush hx hb dX10_behindSum_197 (by decide) ?_
                                    refine tf_calli (va_runV (As := [.int (Int32.ofInt 61)]) (rest := [.ref a0]) ⟨hx, hb, hml, hown, hts⟩ (c_X10_isSign l g T a0 ha0 (61) ⟨by omega, by omega⟩ (gs) ⟨by omega, by omega⟩ (gw) ⟨by omega, by omega⟩) (cwV 1 hts gv_X10_271 rfl rfl rfl hd_X10_isSign ⟨Nat.le_trans (by decide) hR1, Nat.le_trans (by decide) hR2⟩) (tf_preV hk hW ha0 (ci := 10) rfl rfl ⟨hs414, hs415⟩) rfl rfl hl.1 rfl (lv_room (Nat.le_of_ble_eq_true rfl)) dX10_behindSum_199 ⟨Nat.zero_le _, Nat.zero_le _⟩) hW (by decide) (fun z467 H467 locs467 hW hF467 hp467 => ?_)
                                    have hs468 := tf_keepF hF467 ha0 rfl rfl (by decide) hs407
                                    have hs469 := tf_keepF hF467 ha0 rfl rfl (by decide) hs408
                                    have hs470 := tf_keepF hF467 ha0 rfl rfl (by decide) hs409
                                    have hs471 := tf_keepF hF467 ha0 rfl rfl (by decide) hs410
                                    have hs472 := tf_keepF hF467 ha0 rfl rfl (by decide) hs411
                                    have hs473 := tf_keepF hF467 ha0 rfl rfl (by decide) hs412
                                    have hs474 := tf_keepF hF467 ha0 rfl rfl (by decide) hs413
                                    have hs475 := tf_keepF hF467 ha0 rfl rfl (by decide) hs414
                                    have hs476 := tf_keepF hF467 ha0 rfl rfl (by decide) hs415
                                    have hs477 := tf_keepF hF467 ha0 rfl rfl (by decide) hs416
                                    have hs478 := tf_keepF hF467 ha0 rfl rfl (by decide) hs417
                                    have hs479 := tf_keepF hF467 ha0 rfl rfl (by decide) hs418
                                    have hs480 := tf_keepC hF467 hqop rfl (by decide) hs419
                                    have hs481 := tf_keepC hF467 hqar rfl (by decide) hs420
                                    have hs482 := tf_keepC hF467 hqpi rfl (by decide) hs421
                                    have hs483 := tf_keepC hF467 hqpa rfl (by decide) hs422
                                    rcases hp467 with ⟨rfl, h484⟩ | ⟨rfl⟩
                                    · refine tf_if_eq (tgt := 209) hx hb ⟨by decide, by decide⟩ dX10_behindSum_202 (by decide) (fun h485 => ?_) (fun h485 => ?_)
                                      · exfalso; omega
                                      · refine tf_iconst hx hb dX10_behindSum_205 ?_
                                        refine lv_goto (tgt := 210) hx hb dX10_behindSum_206 (by decide) ?_
                                        refine tf_callv (va_runV (As := [.int (Int32.ofInt 1)]) (rest := []) ⟨hx, hb, hml, hown, hts⟩ (c_X10_must l g T a0 ha0 (1) ⟨by omega, by omega⟩ (gn) ⟨by omega, by omega⟩ (gf) ⟨by omega, by omega⟩ (gt) ⟨by omega, by omega⟩ (gs) ⟨by omega, by omega⟩ (gw) ⟨by omega, by omega⟩ (gb) ⟨by omega, by omega⟩ (by first | omega | assumption)) (cwV 1 hts gv_X10_235 rfl rfl rfl hd_X10_must ⟨Nat.le_trans (by decide) hR1, Nat.le_trans (by decide) hR2⟩) (tf_preV hk hW ha0 (ci := 10) rfl rfl ⟨hs472, hs473, hs474, hs475, hs476, hs477⟩) rfl rfl hl.1 rfl (lv_room (Nat.le_of_ble_eq_true rfl)) dX10_behindSum_210 ⟨Nat.zero_le _, Nat.zero_le _⟩) hW (by decide) (fun HV locsV hW hFV hpV => ?_)
                                        have hs486 := tf_keepF hFV ha0 rfl rfl (by decide) hs468
                                        have hs487 := tf_keepF hFV ha0 rfl rfl (by decide) hs469
                                        have hs488 := tf_keepF hFV ha0 rfl rfl (by decide) hs470
                                        have hs489 := tf_keepF hFV ha0 rfl rfl (by decide) hs471
                                        have hs490 := tf_keepF hFV ha0 rfl rfl (by decide) hs472
                                        have hs491 := tf_keepF hFV ha0 rfl rfl (by decide) hs478
                                        have hs492 := tf_keepF hFV ha0 rfl rfl (by decide) hs479
                                        have hs493 := tf_keepC hFV hqop rfl (by decide) hs480
                                        have hs494 := tf_keepC hFV hqar rfl (by decide) hs481
                                        have hs495 := tf_keepC hFV hqpi rfl (by decide) hs482
                                        have hs496 := tf_keepC hFV hqpa rfl (by decide) hs483
                                        obtain ⟨gb1_V, gf1_V, gt1_V, gs1_V, gw1_V, hXV_0, hXV_1, hXV_2, hXV_3, hXV_4, hBV_0, hBV_1, hBV_2, hBV_3, hBV_4, hRV_0⟩ := hpV
                                        refine lv_aload_n hx hb dX10_behindSum_213 rfl (lv_at hl 2 rfl) ?_
                                        refine tf_get hx hb hts inlX10 hown hK (ci := 10) rfl hW ha0 rfl 14 rfl (by decide) (hts _ fl_X10_200) dX10_behindSum_214 (fun v497 hv497 hsv497 => ?_)
                                        obtain rfl : v497 = .int (Int32.ofInt gb1_V) := Option.some.inj (hsv497.symm.trans hXV_0)
                                        refine tf_if_ne (tgt := 231) hx hb ⟨by omega, by omega⟩ dX10_behindSum_217 (by decide) (fun h498 => ?_) (fun h498 => ?_)
                                        · refine tf_iconst hx hb dX10_behindSum_231 ?_
                                          exact tf_reti (z := 1) hx hb hr hlocks hQ hW ⟨by omega, by omega, ⟨(gb1_V), (gf1_V), (gt1_V), (gs1_V), (gw1_V), (gc), (gp), rop, rar, rpi, rpa, hXV_0, hXV_1, hXV_2, hXV_3, hXV_4, hs491, hs492, hs493, hs494, hs495, hs496, ⟨by omega, by omega⟩, ⟨by omega, by omega⟩, ⟨by omega, by omega⟩, ⟨by omega, by omega⟩, ⟨by omega, by omega⟩, ⟨by omega, by omega⟩, ⟨by omega, by omega⟩, (by first | omega | assumption), (by first | omega | assumption), (by first | exact tf_PI_PB (tf_PI_sign (hRW_5 o0 u0 fs hq3) (by omega) (by omega)) (by omega) | exact tf_PI_PB hq3 (by omega)), (by first | exact Or.inr (tf_ST1 (tf_PI_sign (hRW_5 o0 u0 fs hq3) (by omega) (by omega)) (tf_NS_Q (tf_NS_push (tf_NS_mono hNS (by omega)) (by omega)))) | exact Or.inl (by omega)), (by first | omega | assumption)⟩⟩ dX10_behindSum_232
                                        · refine lv_aload_n hx hb dX10_behindSum_220 rfl (lv_at hl 2 rfl) ?_
                                          refine tf_iconst hx hb dX10_behindSum_221 ?_
                                          refine tf_callv (va_runV (As := [.int (Int32.ofInt 5)]) (rest := []) ⟨hx, hb, hml, hown, hts⟩ (c_X10_settle l g T a0 ha0 (5) ⟨by omega, by omega⟩ qop hqop qar hqar qpi hqpi qpa hqpa (gc) ⟨by omega, by omega⟩ (gp) ⟨by omega, by omega⟩ rop rar rpi rpa (by first | omega | assumption) (tf_PI_PB hq3 (by omega))) (cwV 1 hts gv_X10_291 rfl rfl rfl hd_X10_settle ⟨Nat.le_trans (by decide) hR1, Nat.le_trans (by decide) hR2⟩) (tf_preV hk hW ha0 (ci := 10) rfl rfl ⟨hs486, hs487, hs488, hs489, hs491, hs492, hs493, hs494, hs495, hs496⟩) rfl rfl hl.1 rfl (lv_room (Nat.le_of_ble_eq_true rfl)) dX10_behindSum_222 ⟨Nat.zero_le _, Nat.zero_le _⟩) hW (by decide) (fun HW locsW hW hFW hpW => ?_)
                                          have hs499 := tf_keepF hFW ha0 rfl rfl (by decide) hs486
                                          have hs500 := tf_keepF hFW ha0 rfl rfl (by decide) hs487
                                          have hs501 := tf_keepF hFW ha0 rfl rfl (by decide) hs488
                                          have hs502 := tf_keepF hFW ha0 rfl rfl (by decide) hs489
                                          have hs503 := tf_keepF hFW ha0 rfl rfl (by decide) hs490
                                          have hs504 := tf_keepC hFW hqpi rfl (by decide) hs495
                                          have hs505 := tf_keepC hFW hqpa rfl (by decide) hs496
                                          have hs506 := tf_keepF hFW ha0 rfl rfl (by decide) hXV_0
                                          have hs507 := tf_keepF hFW ha0 rfl rfl (by decide) hXV_1
                                          have hs508 := tf_keepF hFW ha0 rfl rfl (by decide) hXV_2
                                          have hs509 := tf_keepF hFW ha0 rfl rfl (by decide) hXV_3
                                          have hs510 := tf_keepF hFW ha0 rfl rfl (by decide) hXV_4
                                          obtain ⟨gc1_W, gp1_W, rop1_W, rar1_W, hXW_0, hXW_1, hXW_2, hXW_3, hBW_0, hBW_1, hRW_0, hRW_1, hRW_2, hRW_3, hRW_4, hRW_5⟩ := hpW
                                          refine lv_aload_n hx hb dX10_behindSum_225 rfl (lv_at hl 2 rfl) ?_
                                          refine lv_iload_n hx hb dX10_behindSum_226 rfl (lv_at hl 0 rfl) ?_
                                          refine tf_iconst hx hb dX10_behindSum_227 ?_
                                          refine tf_callv (va_runV (As := [.int (Int32.ofInt 26), .int (Int32.ofInt 0)]) (rest := []) ⟨hx, hb, hml, hown, hts⟩ (c_X10_push l g T a0 ha0 (26) ⟨by omega, by omega⟩ (0) ⟨by omega, by omega⟩ qpi hqpi qpa hqpa (gp1_W) ⟨by omega, by omega⟩ rpi rpa) (cwV 2 hts gv_X10_265 rfl rfl rfl hd_X10_push ⟨Nat.le_trans (by decide) hR1, Nat.le_trans (by decide) hR2⟩) (tf_preV hk hW ha0 (ci := 10) rfl rfl ⟨hs501, hs502, hXW_1, hs504, hs505⟩) rfl rfl hl.1 rfl (lv_room (Nat.le_of_ble_eq_true rfl)) dX10_behindSum_228 ⟨Nat.zero_le _, Nat.zero_le _⟩) hW (by decide) (fun H511 locs511 hW hF511 hp511 => ?_)
                                          have hs512 := tf_keepF hF511 ha0 rfl rfl (by decide) hs499
                                          have hs513 := tf_keepF hF511 ha0 rfl rfl (by decide) hs500
                                          have hs514 := tf_keepF hF511 ha0 rfl rfl (by decide) hs501
                                          have hs515 := tf_keepF hF511 ha0 rfl rfl (by decide) hs502
                                          have hs516 := tf_keepF hF511 ha0 rfl rfl (by decide) hs503
                                          have hs517 := tf_keepF hF511 ha0 rfl rfl (by decide) hs506
                                          have hs518 := tf_keepF hF511 ha0 rfl rfl (by decide) hs507
                                          have hs519 := tf_keepF hF511 ha0 rfl rfl (by decide) hs508
                                          have hs520 := tf_keepF hF511 ha0 rfl rfl (by decide) hs509
                                          have hs521 := tf_keepF hF511 ha0 rfl rfl (by decide) hs510
                                          have hs522 := tf_keepF hF511 ha0 rfl rfl (by decide) hXW_0
                                          have hs523 := tf_keepC hF511 hqop rfl (by decide) hXW_2
                                          have hs524 := tf_keepC hF511 hqar rfl (by decide) hXW_3
                                          obtain ⟨ho511_0, ho511_1, ho511_2⟩ := hp511
                                          refine tf_iconst hx hb dX10_behindSum_231 ?_
                                          exact tf_reti (z := 1) hx hb hr hlocks hQ hW ⟨by omega, by omega, ⟨(gb1_V), (gf1_V), (gt1_V), (gs1_V), (gw1_V), (gc1_W), ((gp1_W + 1)), rop1_W, rar1_W, (tf_up (rpi) (gp1_W) (26)), (tf_up (rpa) (gp1_W) (0)), hs517, hs518, hs519, hs520, hs521, hs522, ho511_0, hs523, hs524, ho511_1, ho511_2, ⟨by omega, by omega⟩, ⟨by omega, by omega⟩, ⟨by omega, by omega⟩, ⟨by omega, by omega⟩, ⟨by omega, by omega⟩, ⟨by omega, by omega⟩, ⟨by omega, by omega⟩, (by first | omega | assumption), (by first | omega | assumption), (by first | exact tf_PI_PB (tf_PI_sign (hRW_5 o0 u0 fs hq3) (by omega) (by omega)) (by omega) | exact tf_PI_PB hq3 (by omega)), (by first | exact Or.inr (tf_ST1 (tf_PI_sign (hRW_5 o0 u0 fs hq3) (by omega) (by omega)) (tf_NS_Q (tf_NS_push (tf_NS_mono hNS (by omega)) (by omega)))) | exact Or.inl (by omega)), (by first | omega | assumption)⟩⟩ dX10_behindSum_232
                                    · refine tf_if_eq (tgt := 209) hx hb ⟨by decide, by decide⟩ dX10_behindSum_202 (by decide) (fun h525 => ?_) (fun h525 => ?_)
                                      · refine tf_iconst hx hb dX10_behindSum_209 ?_
                                        refine tf_callv (va_runV (As := [.int (Int32.ofInt 0)]) (rest := []) ⟨hx, hb, hml, hown, hts⟩ (c_X10_must l g T a0 ha0 (0) ⟨by omega, by omega⟩ (gn) ⟨by omega, by omega⟩ (gf) ⟨by omega, by omega⟩ (gt) ⟨by omega, by omega⟩ (gs) ⟨by omega, by omega⟩ (gw) ⟨by omega, by omega⟩ (gb) ⟨by omega, by omega⟩ (by first | omega | assumption)) (cwV 1 hts gv_X10_235 rfl rfl rfl hd_X10_must ⟨Nat.le_trans (by decide) hR1, Nat.le_trans (by decide) hR2⟩) (tf_preV hk hW ha0 (ci := 10) rfl rfl ⟨hs472, hs473, hs474, hs475, hs476, hs477⟩) rfl rfl hl.1 rfl (lv_room (Nat.le_of_ble_eq_true rfl)) dX10_behindSum_210 ⟨Nat.zero_le _, Nat.zero_le _⟩) hW (by decide) (fun HV locsV hW hFV hpV => ?_)
                                        have hs526 := tf_keepF hFV ha0 rfl rfl (by decide) hs468
                                        have hs527 := tf_keepF hFV ha0 rfl rfl (by decide) hs469
                                        have hs528 := tf_keepF hFV ha0 rfl rfl (by decide) hs470
                                        have hs529 := tf_keepF hFV ha0 rfl rfl (by decide) hs471
                                        have hs530 := tf_keepF hFV ha0 rfl rfl (by decide) hs472
                                        have hs531 := tf_keepF hFV ha0 rfl rfl (by decide) hs478
                                        have hs532 := tf_keepF hFV ha0 rfl rfl (by decide) hs479
                                        have hs533 := tf_keepC hFV hqop rfl (by decide) hs480
                                        have hs534 := tf_keepC hFV hqar rfl (by decide) hs481
                                        have hs535 := tf_keepC hFV hqpi rfl (by decide) hs482
                                        have hs536 := tf_keepC hFV hqpa rfl (by decide) hs483
                                        obtain ⟨gb1_V, gf1_V, gt1_V, gs1_V, gw1_V, hXV_0, hXV_1, hXV_2, hXV_3, hXV_4, hBV_0, hBV_1, hBV_2, hBV_3, hBV_4, hRV_0⟩ := hpV
                                        refine lv_aload_n hx hb dX10_behindSum_213 rfl (lv_at hl 2 rfl) ?_
                                        refine tf_get hx hb hts inlX10 hown hK (ci := 10) rfl hW ha0 rfl 14 rfl (by decide) (hts _ fl_X10_200) dX10_behindSum_214 (fun v537 hv537 hsv537 => ?_)
                                        obtain rfl : v537 = .int (Int32.ofInt gb1_V) := Option.some.inj (hsv537.symm.trans hXV_0)
                                        refine tf_if_ne (tgt := 231) hx hb ⟨by omega, by omega⟩ dX10_behindSum_217 (by decide) (fun h538 => ?_) (fun h538 => ?_)
                                        · refine tf_iconst hx hb dX10_behindSum_231 ?_
                                          exact tf_reti (z := 1) hx hb hr hlocks hQ hW ⟨by omega, by omega, ⟨(gb1_V), (gf1_V), (gt1_V), (gs1_V), (gw1_V), (gc), (gp), rop, rar, rpi, rpa, hXV_0, hXV_1, hXV_2, hXV_3, hXV_4, hs531, hs532, hs533, hs534, hs535, hs536, ⟨by omega, by omega⟩, ⟨by omega, by omega⟩, ⟨by omega, by omega⟩, ⟨by omega, by omega⟩, ⟨by omega, by omega⟩, ⟨by omega, by omega⟩, ⟨by omega, by omega⟩, (by first | omega | assumption), (by first | omega | assumption), (by first | exact tf_PI_PB (tf_PI_sign (hRW_5 o0 u0 fs hq3) (by omega) (by omega)) (by omega) | exact tf_PI_PB hq3 (by omega)), (by first | exact Or.inr (tf_ST1 (tf_PI_sign (hRW_5 o0 u0 fs hq3) (by omega) (by omega)) (tf_NS_Q (tf_NS_push (tf_NS_mono hNS (by omega)) (by omega)))) | exact Or.inl (by omega)), (by first | omega | assumption)⟩⟩ dX10_behindSum_232
                                        · refine lv_aload_n hx hb dX10_behindSum_220 rfl (lv_at hl 2 rfl) ?_
                                          refine tf_iconst hx hb dX10_behindSum_221 ?_
                                          refine tf_callv (va_runV (As := [.int (Int32.ofInt 5)]) (rest := []) ⟨hx, hb, hml, hown, hts⟩ (c_X10_settle l g T a0 ha0 (5) ⟨by omega, by omega⟩ qop hqop qar hqar qpi hqpi qpa hqpa (gc) ⟨by omega, by omega⟩ (gp) ⟨by omega, by omega⟩ rop rar rpi rpa (by first | omega | assumption) (tf_PI_PB hq3 (by omega))) (cwV 1 hts gv_X10_291 rfl rfl rfl hd_X10_settle ⟨Nat.le_trans (by decide) hR1, Nat.le_trans (by decide) hR2⟩) (tf_preV hk hW ha0 (ci := 10) rfl rfl ⟨hs526, hs527, hs528, hs529, hs531, hs532, hs533, hs534, hs535, hs536⟩) rfl rfl hl.1 rfl (lv_room (Nat.le_of_ble_eq_true rfl)) dX10_behindSum_222 ⟨Nat.zero_le _, Nat.zero_le _⟩) hW (by decide) (fun HW locsW hW hFW hpW => ?_)
                                          have hs539 := tf_keepF hFW ha0 rfl rfl (by decide) hs526
                                          have hs540 := tf_keepF hFW ha0 rfl rfl (by decide) hs527
                                          have hs541 := tf_keepF hFW ha0 rfl rfl (by decide) hs528
                                          have hs542 := tf_keepF hFW ha0 rfl rfl (by decide) hs529
                                          have hs543 := tf_keepF hFW ha0 rfl rfl (by decide) hs530
                                          have hs544 := tf_keepC hFW hqpi rfl (by decide) hs535
                                          have hs545 := tf_keepC hFW hqpa rfl (by decide) hs536
                                          have hs546 := tf_keepF hFW ha0 rfl rfl (by decide) hXV_0
                                          have hs547 := tf_keepF hFW ha0 rfl rfl (by decide) hXV_1
                                          have hs548 := tf_keepF hFW ha0 rfl rfl (by decide) hXV_2
                                          have hs549 := tf_keepF hFW ha0 rfl rfl (by decide) hXV_3
                                          have hs550 := tf_keepF hFW ha0 rfl rfl (by decide) hXV_4
                                          obtain ⟨gc1_W, gp1_W, rop1_W, rar1_W, hXW_0, hXW_1, hXW_2, hXW_3, hBW_0, hBW_1, hRW_0, hRW_1, hRW_2, hRW_3, hRW_4, hRW_5⟩ := hpW
                                          refine lv_aload_n hx hb dX10_behindSum_225 rfl (lv_at hl 2 rfl) ?_
                                          refine lv_iload_n hx hb dX10_behindSum_226 rfl (lv_at hl 0 rfl) ?_
                                          refine tf_iconst hx hb dX10_behindSum_227 ?_
                                          refine tf_callv (va_runV (As := [.int (Int32.ofInt 26), .int (Int32.ofInt 0)]) (rest := []) ⟨hx, hb, hml, hown, hts⟩ (c_X10_push l g T a0 ha0 (26) ⟨by omega, by omega⟩ (0) ⟨by omega, by omega⟩ qpi hqpi qpa hqpa (gp1_W) ⟨by omega, by omega⟩ rpi rpa) (cwV 2 hts gv_X10_265 rfl rfl rfl hd_X10_push ⟨Nat.le_trans (by decide) hR1, Nat.le_trans (by decide) hR2⟩) (tf_preV hk hW ha0 (ci := 10) rfl rfl ⟨hs541, hs542, hXW_1, hs544, hs545⟩) rfl rfl hl.1 rfl (lv_room (Nat.le_of_ble_eq_true rfl)) dX10_behindSum_228 ⟨Nat.zero_le _, Nat.zero_le _⟩) hW (by decide) (fun H551 locs551 hW hF551 hp551 => ?_)
                                          have hs552 := tf_keepF hF551 ha0 rfl rfl (by decide) hs539
                                          have hs553 := tf_keepF hF551 ha0 rfl rfl (by decide) hs540
                                          have hs554 := tf_keepF hF551 ha0 rfl rfl (by decide) hs541
                                          have hs555 := tf_keepF hF551 ha0 rfl rfl (by decide) hs542
                                          have hs556 := tf_keepF hF551 ha0 rfl rfl (by decide) hs543
                                          have hs557 := tf_keepF hF551 ha0 rfl rfl (by decide) hs546
                                          have hs558 := tf_keepF hF551 ha0 rfl rfl (by decide) hs547
                                          have hs559 := tf_keepF hF551 ha0 rfl rfl (by decide) hs548
                                          have hs560 := tf_keepF hF551 ha0 rfl rfl (by decide) hs549
                                          have hs561 := tf_keepF hF551 ha0 rfl rfl (by decide) hs550
                                          have hs562 := tf_keepF hF551 ha0 rfl rfl (by decide) hXW_0
                                          have hs563 := tf_keepC hF551 hqop rfl (by decide) hXW_2
                                          have hs564 := tf_keepC hF551 hqar rfl (by decide) hXW_3
                                          obtain ⟨ho551_0, ho551_1, ho551_2⟩ := hp551
                                          refine tf_iconst hx hb dX10_behindSum_231 ?_
                                          exact tf_reti (z := 1) hx hb hr hlocks hQ hW ⟨by omega, by omega, ⟨(gb1_V), (gf1_V), (gt1_V), (gs1_V), (gw1_V), (gc1_W), ((gp1_W + 1)), rop1_W, rar1_W, (tf_up (rpi) (gp1_W) (26)), (tf_up (rpa) (gp1_W) (0)), hs557, hs558, hs559, hs560, hs561, hs562, ho551_0, hs563, hs564, ho551_1, ho551_2, ⟨by omega, by omega⟩, ⟨by omega, by omega⟩, ⟨by omega, by omega⟩, ⟨by omega, by omega⟩, ⟨by omega, by omega⟩, ⟨by omega, by omega⟩, ⟨by omega, by omega⟩, (by first | omega | assumption), (by first | omega | assumption), (by first | exact tf_PI_PB (tf_PI_sign (hRW_5 o0 u0 fs hq3) (by omega) (by omega)) (by omega) | exact tf_PI_PB hq3 (by omega)), (by first | exact Or.inr (tf_ST1 (tf_PI_sign (hRW_5 o0 u0 fs hq3) (by omega) (by omega)) (tf_NS_Q (tf_NS_push (tf_NS_mono hNS (by omega)) (by omega)))) | exact Or.inl (by omega)), (by first | omega | assumption)⟩⟩ dX10_behindSum_232
                                      · exfalso; omega
                                · exfalso; omega
                            · exfalso; omega
                        · refine tf_iconst hx hb dX10_behindSum_156 ?_
                          exact tf_reti (z := 2) hx hb hr hlocks hQ hW ⟨by omega, by omega, ⟨(gb), (gf), (gt), (gs), (gw), (gc), (gp), rop, rar, rpi, rpa, hs338, hs334, hs335, hs336, hs337, hs339, hs340, hs341, hs342, hs343, hs344, ⟨by omega, by omega⟩, ⟨by omega, by omega⟩, ⟨by omega, by omega⟩, ⟨by omega, by omega⟩, ⟨by omega, by omega⟩, ⟨by omega, by omega⟩, ⟨by omega, by omega⟩, (by first | omega | assumption), (by first | omega | assumption), (tf_PI_PB hq3 (by omega)), (Or.inr (tf_ST2 hq3 hNS)), (by first | omega | assumption)⟩⟩ dX10_behindSum_157
                      · refine lv_iload_n hx hb dX10_behindSum_143 rfl (lv_at hl 3 rfl) ?_
                        refine tf_if_ne (tgt := 149) hx hb ⟨by omega, by omega⟩ dX10_behindSum_144 (by decide) (fun h565 => ?_) (fun h565 => ?_)
                        · have hNS := tf_inn_NS hpI_2 (by omega) hq4
                          refine lv_aload_n hx hb dX10_behindSum_149 rfl (lv_at hl 2 rfl) ?_
                          refine tf_calli (va_runV (As := []) (rest := []) ⟨hx, hb, hml, hown, hts⟩ (c_X10_isCompared l g T a0 ha0) (cwV 0 hts gv_X10_297 rfl rfl rfl hd_X10_isCompared ⟨Nat.le_trans (by decide) hR1, Nat.le_trans (by decide) hR2⟩) (tf_preV hk hW ha0 (ci := 10) rfl rfl trivial) rfl rfl hl.1 rfl (lv_room (Nat.le_of_ble_eq_true rfl)) dX10_behindSum_150 ⟨Nat.zero_le _, Nat.zero_le _⟩) hW (by decide) (fun z566 H566 locs566 hW hF566 hp566 => ?_)
                          have hs567 := tf_keepF hF566 ha0 rfl rfl (by decide) hs310
                          have hs568 := tf_keepF hF566 ha0 rfl rfl (by decide) hs311
                          have hs569 := tf_keepF hF566 ha0 rfl rfl (by decide) hs312
                          have hs570 := tf_keepF hF566 ha0 rfl rfl (by decide) hs313
                          have hs571 := tf_keepF hF566 ha0 rfl rfl (by decide) hs314
                          have hs572 := tf_keepF hF566 ha0 rfl rfl (by decide) hs315
                          have hs573 := tf_keepF hF566 ha0 rfl rfl (by decide) hs316
                          have hs574 := tf_keepF hF566 ha0 rfl rfl (by decide) hs317
                          have hs575 := tf_keepF hF566 ha0 rfl rfl (by decide) hs318
                          have hs576 := tf_keepF hF566 ha0 rfl rfl (by decide) hs319
                          have hs577 := tf_keepF hF566 ha0 rfl rfl (by decide) hs320
                          have hs578 := tf_keepF hF566 ha0 rfl rfl (by decide) hs321
                          have hs579 := tf_keepC hF566 hqop rfl (by decide) hs322
                          have hs580 := tf_keepC hF566 hqar rfl (by decide) hs323
                          have hs581 := tf_keepC hF566 hqpi rfl (by decide) hs324
                          have hs582 := tf_keepC hF566 hqpa rfl (by decide) hs325
                          have hp566 : z566 = 0 ∨ z566 = 1 := hp566
                          refine tf_if_eq (tgt := 158) hx hb ⟨by omega, by omega⟩ dX10_behindSum_153 (by decide) (fun h583 => ?_) (fun h583 => ?_)
                          · refine lv_aload_n hx hb dX10_behindSum_158 rfl (lv_at hl 2 rfl) ?_
                            refine tf_bipush hx hb dX10_behindSum_159 (by decide) ?_
                            refine tf_calli (va_runV (As := [.int (Int32.ofInt 60)]) (rest := []) ⟨hx, hb, hml, hown, hts⟩ (c_X10_isSign l g T a0 ha0 (60) ⟨by omega, by omega⟩ (gs) ⟨by omega, by omega⟩ (gw) ⟨by omega, by omega⟩) (cwV 1 hts gv_X10_271 rfl rfl rfl hd_X10_isSign ⟨Nat.le_trans (by decide) hR1, Nat.le_trans (by decide) hR2⟩) (tf_preV hk hW ha0 (ci := 10) rfl rfl ⟨hs574, hs575⟩) rfl rfl hl.1 rfl (lv_room (Nat.le_of_ble_eq_true rfl)) dX10_behindSum_161 ⟨Nat.zero_le _, Nat.zero_le _⟩) hW (by decide) (fun z584 H584 locs584 hW hF584 hp584 => ?_)
                            have hs585 := tf_keepF hF584 ha0 rfl rfl (by decide) hs567
                            have hs586 := tf_keepF hF584 ha0 rfl rfl (by decide) hs568
                            have hs587 := tf_keepF hF584 ha0 rfl rfl (by decide) hs569
                            have hs588 := tf_keepF hF584 ha0 rfl rfl (by decide) hs570
                            have hs589 := tf_keepF hF584 ha0 rfl rfl (by decide) hs571
                            have hs590 := tf_keepF hF584 ha0 rfl rfl (by decide) hs572
                            have hs591 := tf_keepF hF584 ha0 rfl rfl (by decide) hs573
                            have hs592 := tf_keepF hF584 ha0 rfl rfl (by decide) hs574
                            have hs593 := tf_keepF hF584 ha0 rfl rfl (by decide) hs575
                            have hs594 := tf_keepF hF584 ha0 rfl rfl (by decide) hs576
                            have hs595 := tf_keepF hF584 ha0 rfl rfl (by decide) hs577
                            have hs596 := tf_keepF hF584 ha0 rfl rfl (by decide) hs578
                            have hs597 := tf_keepC hF584 hqop rfl (by decide) hs579
                            have hs598 := tf_keepC hF584 hqar rfl (by decide) hs580
                            have hs599 := tf_keepC hF584 hqpi rfl (by decide) hs581
                            have hs600 := tf_keepC hF584 hqpa rfl (by decide) hs582
                            rcases hp584 with ⟨rfl, h601⟩ | ⟨rfl⟩
                            · refine tf_if_eq (tgt := 172) hx hb ⟨by decide, by decide⟩ dX10_behindSum_164 (by decide) (fun h602 => ?_) (fun h602 => ?_)
                              · exfalso; omega
                              · refine tf_bipush hx hb dX10_behindSum_167 (by decide) ?_
                                refine lv_goto (tgt := 188) hx hb dX10_behindSum_169 (by decide) ?_
                                refine lv_istore_n (lv' := [(2, .int (Int32.ofInt 24)), (3, .int (Int32.ofInt zI)), (0, .ref a0), (1, .int (Int32.ofInt x1))]) hx hb dX10_behindSum_188 rfl hl (by decide) rfl (fun ls hl => ?_)
                                refine lv_aload_n hx hb dX10_behindSum_189 rfl (lv_at hl 2 rfl) ?_
                                refine lv_iload_n hx hb dX10_behindSum_190 rfl (lv_at hl 0 rfl) ?_
                                refine tf_bipush hx hb dX10_behindSum_191 (by decide) ?_
                                refine tf_icmp_ne (tgt := 205) hx hb ⟨by decide, by decide⟩ ⟨by decide, by decide⟩ dX10_behindSum_193 (by decide) (fun h603 => ?_) (fun h603 => ?_)
                                · refine tf_iconst hx hb dX10_behindSum_205 ?_
                                  refine lv_goto (tgt := 210) hx hb dX10_behindSum_206 (by decide) ?_
                                  refine tf_callv (va_runV (As := [.int (Int32.ofInt 1)]) (rest := []) ⟨hx, hb, hml, hown, hts⟩ (c_X10_must l g T a0 ha0 (1) ⟨by omega, by omega⟩ (gn) ⟨by omega, by omega⟩ (gf) ⟨by omega, by omega⟩ (gt) ⟨by omega, by omega⟩ (gs) ⟨by omega, by omega⟩ (gw) ⟨by omega, by omega⟩ (gb) ⟨by omega, by omega⟩ (by first | omega | assumption)) (cwV 1 hts gv_X10_235 rfl rfl rfl hd_X10_must ⟨Nat.le_trans (by decide) hR1, Nat.le_trans (by decide) hR2⟩) (tf_preV hk hW ha0 (ci := 10) rfl rfl ⟨hs589, hs590, hs591, hs592, hs593, hs594⟩) rfl rfl hl.1 rfl (lv_room (Nat.le_of_ble_eq_true rfl)) dX10_behindSum_210 ⟨Nat.zero_le _, Nat.zero_le _⟩) hW (by decide) (fun HV locsV hW hFV hpV => ?_)
                                  have hs604 := tf_keepF hFV ha0 rfl rfl (by decide) hs585
                                  have hs605 := tf_keepF hFV ha0 rfl rfl (by decide) hs586
                                  have hs606 := tf_keepF hFV ha0 rfl rfl (by decide) hs587
                                  have hs607 := tf_keepF hFV ha0 rfl rfl (by decide) hs588
                                  have hs608 := tf_keepF hFV ha0 rfl rfl (by decide) hs589
                                  have hs609 := tf_keepF hFV ha0 rfl rfl (by decide) hs595
                                  have hs610 := tf_keepF hFV ha0 rfl rfl (by decide) hs596
                                  have hs611 := tf_keepC hFV hqop rfl (by decide) hs597
                                  have hs612 := tf_keepC hFV hqar rfl (by decide) hs598
                                  have hs613 := tf_keepC hFV hqpi rfl (by decide) hs599
                                  have hs614 := tf_keepC hFV hqpa rfl (by decide) hs600
                                  obtain ⟨gb1_V, gf1_V, gt1_V, gs1_V, gw1_V, hXV_0, hXV_1, hXV_2, hXV_3, hXV_4, hBV_0, hBV_1, hBV_2, hBV_3, hBV_4, hRV_0⟩ := hpV
                                  refine lv_aload_n hx hb dX10_behindSum_213 rfl (lv_at hl 2 rfl) ?_
                                  refine tf_get hx hb hts inlX10 hown hK (ci := 10) rfl hW ha0 rfl 14 rfl (by decide) (hts _ fl_X10_200) dX10_behindSum_214 (fun v615 hv615 hsv615 => ?_)
                                  obtain rfl : v615 = .int (Int32.ofInt gb1_V) := Option.some.inj (hsv615.symm.trans hXV_0)
                                  refine tf_if_ne (tgt := 231) hx hb ⟨by omega, by omega⟩ dX10_behindSum_217 (by decide) (fun h616 => ?_) (fun h616 => ?_)
                                  · refine tf_iconst hx hb dX10_behindSum_231 ?_
                                    exact tf_reti (z := 1) hx hb hr hlocks hQ hW ⟨by omega, by omega, ⟨(gb1_V), (gf1_V), (gt1_V), (gs1_V), (gw1_V), (gc), (gp), rop, rar, rpi, rpa, hXV_0, hXV_1, hXV_2, hXV_3, hXV_4, hs609, hs610, hs611, hs612, hs613, hs614, ⟨by omega, by omega⟩, ⟨by omega, by omega⟩, ⟨by omega, by omega⟩, ⟨by omega, by omega⟩, ⟨by omega, by omega⟩, ⟨by omega, by omega⟩, ⟨by omega, by omega⟩, (by first | omega | assumption), (by first | omega | assumption), (by first | exact tf_PI_PB (tf_PI_sign (hRW_5 o0 u0 fs hq3) (by omega) (by omega)) (by omega) | exact tf_PI_PB hq3 (by omega)), (by first | exact Or.inr (tf_ST1 (tf_PI_sign (hRW_5 o0 u0 fs hq3) (by omega) (by omega)) (tf_NS_Q (tf_NS_push (tf_NS_mono hNS (by omega)) (by omega)))) | exact Or.inl (by omega)), (by first | omega | assumption)⟩⟩ dX10_behindSum_232
                                  · refine lv_aload_n hx hb dX10_behindSum_220 rfl (lv_at hl 2 rfl) ?_
                                    refine tf_iconst hx hb dX10_behindSum_221 ?_
                                    refine tf_callv (va_runV (As := [.int (Int32.ofInt 5)]) (rest := []) ⟨hx, hb, hml, hown, hts⟩ (c_X10_settle l g T a0 ha0 (5) ⟨by omega, by omega⟩ qop hqop qar hqar qpi hqpi qpa hqpa (gc) ⟨by omega, by omega⟩ (gp) ⟨by omega, by omega⟩ rop rar rpi rpa (by first | omega | assumption) (tf_PI_PB hq3 (by omega))) (cwV 1 hts gv_X10_291 rfl rfl rfl hd_X10_settle ⟨Nat.le_trans (by decide) hR1, Nat.le_trans (by decide) hR2⟩) (tf_preV hk hW ha0 (ci := 10) rfl rfl ⟨hs604, hs605, hs606, hs607, hs609, hs610, hs611, hs612, hs613, hs614⟩) rfl rfl hl.1 rfl (lv_room (Nat.le_of_ble_eq_true rfl)) dX10_behindSum_222 ⟨Nat.zero_le _, Nat.zero_le _⟩) hW (by decide) (fun HW locsW hW hFW hpW => ?_)
                                    have hs617 := tf_keepF hFW ha0 rfl rfl (by decide) hs604
                                    have hs618 := tf_keepF hFW ha0 rfl rfl (by decide) hs605
                                    have hs619 := tf_keepF hFW ha0 rfl rfl (by decide) hs606
                                    have hs620 := tf_keepF hFW ha0 rfl rfl (by decide) hs607
                                    have hs621 := tf_keepF hFW ha0 rfl rfl (by decide) hs608
                                    have hs622 := tf_keepC hFW hqpi rfl (by decide) hs613
                                    have hs623 := tf_keepC hFW hqpa rfl (by decide) hs614
                                    have hs624 := tf_keepF hFW ha0 rfl rfl (by decide) hXV_0
                                    have hs625 := tf_keepF hFW ha0 rfl rfl (by decide) hXV_1
                                    have hs626 := tf_keepF hFW ha0 rfl rfl (by decide) hXV_2
                                    have hs627 := tf_keepF hFW ha0 rfl rfl (by decide) hXV_3
                                    have hs628 := tf_keepF hFW ha0 rfl rfl (by decide) hXV_4
                                    obtain ⟨gc1_W, gp1_W, rop1_W, rar1_W, hXW_0, hXW_1, hXW_2, hXW_3, hBW_0, hBW_1, hRW_0, hRW_1, hRW_2, hRW_3, hRW_4, hRW_5⟩ := hpW
                                    refine lv_aload_n hx hb dX10_behindSum_225 rfl (lv_at hl 2 rfl) ?_
                                    refine lv_iload_n hx hb dX10_behindSum_226 rfl (lv_at hl 0 rfl) ?_
                                    refine tf_iconst hx hb dX10_behindSum_227 ?_
                                    refine tf_callv (va_runV (As := [.int (Int32.ofInt 24), .int (Int32.ofInt 0)]) (rest := []) ⟨hx, hb, hml, hown, hts⟩ (c_X10_push l g T a0 ha0 (24) ⟨by omega, by omega⟩ (0) ⟨by omega, by omega⟩ qpi hqpi qpa hqpa (gp1_W) ⟨by omega, by omega⟩ rpi rpa) (cwV 2 hts gv_X10_265 rfl rfl rfl hd_X10_push ⟨Nat.le_trans (by decide) hR1, Nat.le_trans (by decide) hR2⟩) (tf_preV hk hW ha0 (ci := 10) rfl rfl ⟨hs619, hs620, hXW_1, hs622, hs623⟩) rfl rfl hl.1 rfl (lv_room (Nat.le_of_ble_eq_true rfl)) dX10_behindSum_228 ⟨Nat.zero_le _, Nat.zero_le _⟩) hW (by decide) (fun H629 locs629 hW hF629 hp629 => ?_)
                                    have hs630 := tf_keepF hF629 ha0 rfl rfl (by decide) hs617
                                    have hs631 := tf_keepF hF629 ha0 rfl rfl (by decide) hs618
                                    have hs632 := tf_keepF hF629 ha0 rfl rfl (by decide) hs619
                                    have hs633 := tf_keepF hF629 ha0 rfl rfl (by decide) hs620
                                    have hs634 := tf_keepF hF629 ha0 rfl rfl (by decide) hs621
                                    have hs635 := tf_keepF hF629 ha0 rfl rfl (by decide) hs624
                                    have hs636 := tf_keepF hF629 ha0 rfl rfl (by decide) hs625
                                    have hs637 := tf_keepF hF629 ha0 rfl rfl (by decide) hs626
                                    have hs638 := tf_keepF hF629 ha0 rfl rfl (by decide) hs627
                                    have hs639 := tf_keepF hF629 ha0 rfl rfl (by decide) hs628
                                    have hs640 := tf_keepF hF629 ha0 rfl rfl (by decide) hXW_0
                                    have hs641 := tf_keepC hF629 hqop rfl (by decide) hXW_2
                                    have hs642 := tf_keepC hF629 hqar rfl (by decide) hXW_3
                                    obtain ⟨ho629_0, ho629_1, ho629_2⟩ := hp629
                                    refine tf_iconst hx hb dX10_behindSum_231 ?_
                                    exact tf_reti (z := 1) hx hb hr hlocks hQ hW ⟨by omega, by omega, ⟨(gb1_V), (gf1_V), (gt1_V), (gs1_V), (gw1_V), (gc1_W), ((gp1_W + 1)), rop1_W, rar1_W, (tf_up (rpi) (gp1_W) (24)), (tf_up (rpa) (gp1_W) (0)), hs635, hs636, hs637, hs638, hs639, hs640, ho629_0, hs641, hs642, ho629_1, ho629_2, ⟨by omega, by omega⟩, ⟨by omega, by omega⟩, ⟨by omega, by omega⟩, ⟨by omega, by omega⟩, ⟨by omega, by omega⟩, ⟨by omega, by omega⟩, ⟨by omega, by omega⟩, (by first | omega | assumption), (by first | omega | assumption), (by first | exact tf_PI_PB (tf_PI_sign (hRW_5 o0 u0 fs hq3) (by omega) (by omega)) (by omega) | exact tf_PI_PB hq3 (by omega)), (by first | exact Or.inr (tf_ST1 (tf_PI_sign (hRW_5 o0 u0 fs hq3) (by omega) (by omega)) (tf_NS_Q (tf_NS_push (tf_NS_mono hNS (by omega)) (by omega)))) | exact Or.inl (by omega)), (by first | omega | assumption)⟩⟩ dX10_behindSum_232
                                · exfalso; omega
                            · refine tf_if_eq (tgt := 172) hx hb ⟨by decide, by decide⟩ dX10_behindSum_164 (by decide) (fun h643 => ?_) (fun h643 => ?_)
                              · refine lv_aload_n hx hb dX10_behindSum_172 rfl (lv_at hl 2 rfl) ?_
                                refine tf_bipush hx hb dX10_behindSum_173 (by decide) ?_
                                refine tf_calli (va_runV (As := [.int (Int32.ofInt 62)]) (rest := []) ⟨hx, hb, hml, hown, hts⟩ (c_X10_isSign l g T a0 ha0 (62) ⟨by omega, by omega⟩ (gs) ⟨by omega, by omega⟩ (gw) ⟨by omega, by omega⟩) (cwV 1 hts gv_X10_271 rfl rfl rfl hd_X10_isSign ⟨Nat.le_trans (by decide) hR1, Nat.le_trans (by decide) hR2⟩) (tf_preV hk hW ha0 (ci := 10) rfl rfl ⟨hs592, hs593⟩) rfl rfl hl.1 rfl (lv_room (Nat.le_of_ble_eq_true rfl)) dX10_behindSum_175 ⟨Nat.zero_le _, Nat.zero_le _⟩) hW (by decide) (fun z644 H644 locs644 hW hF644 hp644 => ?_)
                                have hs645 := tf_keepF hF644 ha0 rfl rfl (by decide) hs585
                                have hs646 := tf_keepF hF644 ha0 rfl rfl (by decide) hs586
                                have hs647 := tf_keepF hF644 ha0 rfl rfl (by decide) hs587
                                have hs648 := tf_keepF hF644 ha0 rfl rfl (by decide) hs588
                                have hs649 := tf_keepF hF644 ha0 rfl rfl (by decide) hs589
                                have hs650 := tf_keepF hF644 ha0 rfl rfl (by decide) hs590
                                have hs651 := tf_keepF hF644 ha0 rfl rfl (by decide) hs591
                                have hs652 := tf_keepF hF644 ha0 rfl rfl (by decide) hs592
                                have hs653 := tf_keepF hF644 ha0 rfl rfl (by decide) hs593
                                have hs654 := tf_keepF hF644 ha0 rfl rfl (by decide) hs594
                                have hs655 := tf_keepF hF644 ha0 rfl rfl (by decide) hs595
                                have hs656 := tf_keepF hF644 ha0 rfl rfl (by decide) hs596
                                have hs657 := tf_keepC hF644 hqop rfl (by decide) hs597
                                have hs658 := tf_keepC hF644 hqar rfl (by decide) hs598
                                have hs659 := tf_keepC hF644 hqpi rfl (by decide) hs599
                                have hs660 := tf_keepC hF644 hqpa rfl (by decide) hs600
                                rcases hp644 with ⟨rfl, h661⟩ | ⟨rfl⟩
                                · refine tf_if_eq (tgt := 186) hx hb ⟨by decide, by decide⟩ dX10_behindSum_178 (by decide) (fun h662 => ?_) (fun h662 => ?_)
                                  · exfalso; omega
                                  · refine tf_bipush hx hb dX10_behindSum_181 (by decide) ?_
                                    refine lv_goto (tgt := 188) hx hb dX10_behindSum_183 (by decide) ?_
                                    refine lv_istore_n (lv' := [(2, .int (Int32.ofInt 25)), (3, .int (Int32.ofInt zI)), (0, .ref a0), (1, .int (Int32.ofInt x1))]) hx hb dX10_behindSum_188 rfl hl (by decide) rfl (fun ls hl => ?_)
                                    refine lv_aload_n hx hb dX10_behindSum_189 rfl (lv_at hl 2 rfl) ?_
                                    refine lv_iload_n hx hb dX10_behindSum_190 rfl (lv_at hl 0 rfl) ?_
                                    refine tf_bipush hx hb dX10_behindSum_191 (by decide) ?_
                                    refine tf_icmp_ne (tgt := 205) hx hb ⟨by decide, by decide⟩ ⟨by decide, by decide⟩ dX10_behindSum_193 (by decide) (fun h663 => ?_) (fun h663 => ?_)
                                    · refine tf_iconst hx hb dX10_behindSum_205 ?_
                                      refine lv_goto (tgt := 210) hx hb dX10_behindSum_206 (by decide) ?_
                                      refine tf_callv (va_runV (As := [.int (Int32.ofInt 1)]) (rest := []) ⟨hx, hb, hml, hown, hts⟩ (c_X10_must l g T a0 ha0 (1) ⟨by omega, by omega⟩ (gn) ⟨by omega, by omega⟩ (gf) ⟨by omega, by omega⟩ (gt) ⟨by omega, by omega⟩ (gs) ⟨by omega, by omega⟩ (gw) ⟨by omega, by omega⟩ (gb) ⟨by omega, by omega⟩ (by first | omega | assumption)) (cwV 1 hts gv_X10_235 rfl rfl rfl hd_X10_must ⟨Nat.le_trans (by decide) hR1, Nat.le_trans (by decide) hR2⟩) (tf_preV hk hW ha0 (ci := 10) rfl rfl ⟨hs649, hs650, hs651, hs652, hs653, hs654⟩) rfl rfl hl.1 rfl (lv_room (Nat.le_of_ble_eq_true rfl)) dX10_behindSum_210 ⟨Nat.zero_le _, Nat.zero_le _⟩) hW (by decide) (fun HV locsV hW hFV hpV => ?_)
                                      have hs664 := tf_keepF hFV ha0 rfl rfl (by decide) hs645
                                      have hs665 := tf_keepF hFV ha0 rfl rfl (by decide) hs646
                                      have hs666 := tf_keepF hFV ha0 rfl rfl (by decide) hs647
                                      have hs667 := tf_keepF hFV ha0 rfl rfl (by decide) hs648
                                      have hs668 := tf_keepF hFV ha0 rfl rfl (by decide) hs649
                                      have hs669 := tf_keepF hFV ha0 rfl rfl (by decide) hs655
                                      have hs670 := tf_keepF hFV ha0 rfl rfl (by decide) hs656
                                      have hs671 := tf_keepC hFV hqop rfl (by decide) hs657
                                      have hs672 := tf_keepC hFV hqar rfl (by decide) hs658
                                      have hs673 := tf_keepC hFV hqpi rfl (by decide) hs659
                                      have hs674 := tf_keepC hFV hqpa rfl (by decide) hs660
                                      obtain ⟨gb1_V, gf1_V, gt1_V, gs1_V, gw1_V, hXV_0, hXV_1, hXV_2, hXV_3, hXV_4, hBV_0, hBV_1, hBV_2, hBV_3, hBV_4, hRV_0⟩ := hpV
                                      refine lv_aload_n hx hb dX10_behindSum_213 rfl (lv_at hl 2 rfl) ?_
                                      refine tf_get hx hb hts inlX10 hown hK (ci := 10) rfl hW ha0 rfl 14 rfl (by decide) (hts _ fl_X10_200) dX10_behindSum_214 (fun v675 hv675 hsv675 => ?_)
                                      obtain rfl : v675 = .int (Int32.ofInt gb1_V) := Option.some.inj (hsv675.symm.trans hXV_0)
                                      refine tf_if_ne (tgt := 231) hx hb ⟨by omega, by omega⟩ dX10_behindSum_217 (by decide) (fun h676 => ?_) (fun h676 => ?_)
                                      · refine tf_iconst hx hb dX10_behindSum_231 ?_
                                        exact tf_reti (z := 1) hx hb hr hlocks hQ hW ⟨by omega, by omega, ⟨(gb1_V), (gf1_V), (gt1_V), (gs1_V), (gw1_V), (gc), (gp), rop, rar, rpi, rpa, hXV_0, hXV_1, hXV_2, hXV_3, hXV_4, hs669, hs670, hs671, hs672, hs673, hs674, ⟨by omega, by omega⟩, ⟨by omega, by omega⟩, ⟨by omega, by omega⟩, ⟨by omega, by omega⟩, ⟨by omega, by omega⟩, ⟨by omega, by omega⟩, ⟨by omega, by omega⟩, (by first | omega | assumption), (by first | omega | assumption), (by first | exact tf_PI_PB (tf_PI_sign (hRW_5 o0 u0 fs hq3) (by omega) (by omega)) (by omega) | exact tf_PI_PB hq3 (by omega)), (by first | exact Or.inr (tf_ST1 (tf_PI_sign (hRW_5 o0 u0 fs hq3) (by omega) (by omega)) (tf_NS_Q (tf_NS_push (tf_NS_mono hNS (by omega)) (by omega)))) | exact Or.inl (by omega)), (by first | omega | assumption)⟩⟩ dX10_behindSum_232
                                      · refine lv_aload_n hx hb dX10_behindSum_220 rfl (lv_at hl 2 rfl) ?_
                                        refine tf_iconst hx hb dX10_behindSum_221 ?_
                                        refine tf_callv (va_runV (As := [.int (Int32.ofInt 5)]) (rest := []) ⟨hx, hb, hml, hown, hts⟩ (c_X10_settle l g T a0 ha0 (5) ⟨by omega, by omega⟩ qop hqop qar hqar qpi hqpi qpa hqpa (gc) ⟨by omega, by omega⟩ (gp) ⟨by omega, by omega⟩ rop rar rpi rpa (by first | omega | assumption) (tf_PI_PB hq3 (by omega))) (cwV 1 hts gv_X10_291 rfl rfl rfl hd_X10_settle ⟨Nat.le_trans (by decide) hR1, Nat.le_trans (by decide) hR2⟩) (tf_preV hk hW ha0 (ci := 10) rfl rfl ⟨hs664, hs665, hs666, hs667, hs669, hs670, hs671, hs672, hs673, hs674⟩) rfl rfl hl.1 rfl (lv_room (Nat.le_of_ble_eq_true rfl)) dX10_behindSum_222 ⟨Nat.zero_le _, Nat.zero_le _⟩) hW (by decide) (fun HW locsW hW hFW hpW => ?_)
                                        have hs677 := tf_keepF hFW ha0 rfl rfl (by decide) hs664
                                        have hs678 := tf_keepF hFW ha0 rfl rfl (by decide) hs665
                                        have hs679 := tf_keepF hFW ha0 rfl rfl (by decide) hs666
                                        have hs680 := tf_keepF hFW ha0 rfl rfl (by decide) hs667
                                        have hs681 := tf_keepF hFW ha0 rfl rfl (by decide) hs668
                                        have hs682 := tf_keepC hFW hqpi rfl (by decide) hs673
                                        have hs683 := tf_keepC hFW hqpa rfl (by decide) hs674
                                        have hs684 := tf_keepF hFW ha0 rfl rfl (by decide) hXV_0
                                        have hs685 := tf_keepF hFW ha0 rfl rfl (by decide) hXV_1
                                        have hs686 := tf_keepF hFW ha0 rfl rfl (by decide) hXV_2
                                        have hs687 := tf_keepF hFW ha0 rfl rfl (by decide) hXV_3
                                        have hs688 := tf_keepF hFW ha0 rfl rfl (by decide) hXV_4
                                        obtain ⟨gc1_W, gp1_W, rop1_W, rar1_W, hXW_0, hXW_1, hXW_2, hXW_3, hBW_0, hBW_1, hRW_0, hRW_1, hRW_2, hRW_3, hRW_4, hRW_5⟩ := hpW
                                        refine lv_aload_n hx hb dX10_behindSum_225 rfl (lv_at hl 2 rfl) ?_
                                        refine lv_iload_n hx hb dX10_behindSum_226 rfl (lv_at hl 0 rfl) ?_
                                        refine tf_iconst hx hb dX10_behindSum_227 ?_
                                        refine tf_callv (va_runV (As := [.int (Int32.ofInt 25), .int (Int32.ofInt 0)]) (rest := []) ⟨hx, hb, hml, hown, hts⟩ (c_X10_push l g T a0 ha0 (25) ⟨by omega, by omega⟩ (0) ⟨by omega, by omega⟩ qpi hqpi qpa hqpa (gp1_W) ⟨by omega, by omega⟩ rpi rpa) (cwV 2 hts gv_X10_265 rfl rfl rfl hd_X10_push ⟨Nat.le_trans (by decide) hR1, Nat.le_trans (by decide) hR2⟩) (tf_preV hk hW ha0 (ci := 10) rfl rfl ⟨hs679, hs680, hXW_1, hs682, hs683⟩) rfl rfl hl.1 rfl (lv_room (Nat.le_of_ble_eq_true rfl)) dX10_behindSum_228 ⟨Nat.zero_le _, Nat.zero_le _⟩) hW (by decide) (fun H689 locs689 hW hF689 hp689 => ?_)
                                        have hs690 := tf_keepF hF689 ha0 rfl rfl (by decide) hs677
                                        have hs691 := tf_keepF hF689 ha0 rfl rfl (by decide) hs678
                                        have hs692 := tf_keepF hF689 ha0 rfl rfl (by decide) hs679
                                        have hs693 := tf_keepF hF689 ha0 rfl rfl (by decide) hs680
                                        have hs694 := tf_keepF hF689 ha0 rfl rfl (by decide) hs681
                                        have hs695 := tf_keepF hF689 ha0 rfl rfl (by decide) hs684
                                        have hs696 := tf_keepF hF689 ha0 rfl rfl (by decide) hs685
                                        have hs697 := tf_keepF hF689 ha0 rfl rfl (by decide) hs686
                                        have hs698 := tf_keepF hF689 ha0 rfl rfl (by decide) hs687
                                        have hs699 := tf_keepF hF689 ha0 rfl rfl (by decide) hs688
                                        have hs700 := tf_keepF hF689 ha0 rfl rfl (by decide) hXW_0
                                        have hs701 := tf_keepC hF689 hqop rfl (by decide) hXW_2
                                        have hs702 := tf_keepC hF689 hqar rfl (by decide) hXW_3
                                        obtain ⟨ho689_0, ho689_1, ho689_2⟩ := hp689
                                        refine tf_iconst hx hb dX10_behindSum_231 ?_
                                        exact tf_reti (z := 1) hx hb hr hlocks hQ hW ⟨by omega, by omega, ⟨(gb1_V), (gf1_V), (gt1_V), (gs1_V), (gw1_V), (gc1_W), ((gp1_W + 1)), rop1_W, rar1_W, (tf_up (rpi) (gp1_W) (25)), (tf_up (rpa) (gp1_W) (0)), hs695, hs696, hs697, hs698, hs699, hs700, ho689_0, hs701, hs702, ho689_1, ho689_2, ⟨by omega, by omega⟩, ⟨by omega, by omega⟩, ⟨by omega, by omega⟩, ⟨by omega, by omega⟩, ⟨by omega, by omega⟩, ⟨by omega, by omega⟩, ⟨by omega, by omega⟩, (by first | omega | assumption), (by first | omega | assumption), (by first | exact tf_PI_PB (tf_PI_sign (hRW_5 o0 u0 fs hq3) (by omega) (by omega)) (by omega) | exact tf_PI_PB hq3 (by omega)), (by first | exact Or.inr (tf_ST1 (tf_PI_sign (hRW_5 o0 u0 fs hq3) (by omega) (by omega)) (tf_NS_Q (tf_NS_push (tf_NS_mono hNS (by omega)) (by omega)))) | exact Or.inl (by omega)), (by first | omega | assumption)⟩⟩ dX10_behindSum_232
                                    · exfalso; omega
                                · refine tf_if_eq (tgt := 186) hx hb ⟨by decide, by decide⟩ dX10_behindSum_178 (by decide) (fun h703 => ?_) (fun h703 => ?_)
                                  · refine tf_bipush hx hb dX10_behindSum_186 (by decide) ?_
                                    refine lv_istore_n (lv' := [(2, .int (Int32.ofInt 26)), (3, .int (Int32.ofInt zI)), (0, .ref a0), (1, .int (Int32.ofInt x1))]) hx hb dX10_behindSum_188 rfl hl (by decide) rfl (fun ls hl => ?_)
                                    refine lv_aload_n hx hb dX10_behindSum_189 rfl (lv_at hl 2 rfl) ?_
                                    refine lv_iload_n hx hb dX10_behindSum_190 rfl (lv_at hl 0 rfl) ?_
                                    refine tf_bipush hx hb dX10_behindSum_191 (by decide) ?_
                                    refine tf_icmp_ne (tgt := 205) hx hb ⟨by decide, by decide⟩ ⟨by decide, by decide⟩ dX10_behindSum_193 (by decide) (fun h704 => ?_) (fun h704 => ?_)
                                    · exfalso; omega
                                    · refine lv_aload_n hx hb dX10_behindSum_196 rfl (lv_at hl 2 rfl) ?_
                                      refine tf_bipush hx hb dX10_behindSum_197 (by decide) ?_
                                      refine tf_calli (va_runV (As := [.int (Int32.ofInt 61)]) (rest := [.ref a0]) ⟨hx, hb, hml, hown, hts⟩ (c_X10_isSign l g T a0 ha0 (61) ⟨by omega, by omega⟩ (gs) ⟨by omega, by omega⟩ (gw) ⟨by omega, by omega⟩) (cwV 1 hts gv_X10_271 rfl rfl rfl hd_X10_isSign ⟨Nat.le_trans (by decide) hR1, Nat.le_trans (by decide) hR2⟩) (tf_preV hk hW ha0 (ci := 10) rfl rfl ⟨hs652, hs653⟩) rfl rfl hl.1 rfl (lv_room (Nat.le_of_ble_eq_true rfl)) dX10_behindSum_199 ⟨Nat.zero_le _, Nat.zero_le _⟩) hW (by decide) (fun z705 H705 locs705 hW hF705 hp705 => ?_)
                                      have hs706 := tf_keepF hF705 ha0 rfl rfl (by decide) hs645
                                      have hs707 := tf_keepF hF705 ha0 rfl rfl (by decide) hs646
                                      have hs708 := tf_keepF hF705 ha0 rfl rfl (by decide) hs647
                                      have hs709 := tf_keepF hF705 ha0 rfl rfl (by decide) hs648
                                      have hs710 := tf_keepF hF705 ha0 rfl rfl (by decide) hs649
                                      have hs711 := tf_keepF hF705 ha0 rfl rfl (by decide) hs650
                                      have hs712 := tf_keepF hF705 ha0 rfl rfl (by decide) hs651
                                      have hs713 := tf_keepF hF705 ha0 rfl rfl (by decide) hs652
                                      have hs714 := tf_keepF hF705 ha0 rfl rfl (by decide) hs653
                                      have hs715 := tf_keepF hF705 ha0 rfl rfl (by decide) hs654
                                      have hs716 := tf_keepF hF705 ha0 rfl rfl (by decide) hs655
                                      have hs717 := tf_keepF hF705 ha0 rfl rfl (by decide) hs656
                                      have hs718 := tf_keepC hF705 hqop rfl (by decide) hs657
                                      have hs719 := tf_keepC hF705 hqar rfl (by decide) hs658
                                      have hs720 := tf_keepC hF705 hqpi rfl (by decide) hs659
                                      have hs721 := tf_keepC hF705 hqpa rfl (by decide) hs660
                                      rcases hp705 with ⟨rfl, h722⟩ | ⟨rfl⟩
                                      · refine tf_if_eq (tgt := 209) hx hb ⟨by decide, by decide⟩ dX10_behindSum_202 (by decide) (fun h723 => ?_) (fun h723 => ?_)
                                        · exfalso; omega
                                        · refine tf_iconst hx hb dX10_behindSum_205 ?_
                                          refine lv_goto (tgt := 210) hx hb dX10_behindSum_206 (by decide) ?_
                                          refine tf_callv (va_runV (As := [.int (Int32.ofInt 1)]) (rest := []) ⟨hx, hb, hml, hown, hts⟩ (c_X10_must l g T a0 ha0 (1) ⟨by omega, by omega⟩ (gn) ⟨by omega, by omega⟩ (gf) ⟨by omega, by omega⟩ (gt) ⟨by omega, by omega⟩ (gs) ⟨by omega, by omega⟩ (gw) ⟨by omega, by omega⟩ (gb) ⟨by omega, by omega⟩ (by first | omega | assumption)) (cwV 1 hts gv_X10_235 rfl rfl rfl hd_X10_must ⟨Nat.le_trans (by decide) hR1, Nat.le_trans (by decide) hR2⟩) (tf_preV hk hW ha0 (ci := 10) rfl rfl ⟨hs710, hs711, hs712, hs713, hs714, hs715⟩) rfl rfl hl.1 rfl (lv_room (Nat.le_of_ble_eq_true rfl)) dX10_behindSum_210 ⟨Nat.zero_le _, Nat.zero_le _⟩) hW (by decide) (fun HV locsV hW hFV hpV => ?_)
                                          have hs724 := tf_keepF hFV ha0 rfl rfl (by decide) hs706
                                          have hs725 := tf_keepF hFV ha0 rfl rfl (by decide) hs707
                                          have hs726 := tf_keepF hFV ha0 rfl rfl (by decide) hs708
                                          have hs727 := tf_keepF hFV ha0 rfl rfl (by decide) hs709
                                          have hs728 := tf_keepF hFV ha0 rfl rfl (by decide) hs710
                                          have hs729 := tf_keepF hFV ha0 rfl rfl (by decide) hs716
                                          have hs730 := tf_keepF hFV ha0 rfl rfl (by decide) hs717
                                          have hs731 := tf_keepC hFV hqop rfl (by decide) hs718
                                          have hs732 := tf_keepC hFV hqar rfl (by decide) hs719
                                          have hs733 := tf_keepC hFV hqpi rfl (by decide) hs720
                                          have hs734 := tf_keepC hFV hqpa rfl (by decide) hs721
                                          obtain ⟨gb1_V, gf1_V, gt1_V, gs1_V, gw1_V, hXV_0, hXV_1, hXV_2, hXV_3, hXV_4, hBV_0, hBV_1, hBV_2, hBV_3, hBV_4, hRV_0⟩ := hpV
                                          refine lv_aload_n hx hb dX10_behindSum_213 rfl (lv_at hl 2 rfl) ?_
                                          refine tf_get hx hb hts inlX10 hown hK (ci := 10) rfl hW ha0 rfl 14 rfl (by decide) (hts _ fl_X10_200) dX10_behindSum_214 (fun v735 hv735 hsv735 => ?_)
                                          obtain rfl : v735 = .int (Int32.ofInt gb1_V) := Option.some.inj (hsv735.symm.trans hXV_0)
                                          refine tf_if_ne (tgt := 231) hx hb ⟨by omega, by omega⟩ dX10_behindSum_217 (by decide) (fun h736 => ?_) (fun h736 => ?_)
                                          · refine tf_iconst hx hb dX10_behindSum_231 ?_
                                            exact tf_reti (z := 1) hx hb hr hlocks hQ hW ⟨by omega, by omega, ⟨(gb1_V), (gf1_V), (gt1_V), (gs1_V), (gw1_V), (gc), (gp), rop, rar, rpi, rpa, hXV_0, hXV_1, hXV_2, hXV_3, hXV_4, hs729, hs730, hs731, hs732, hs733, hs734, ⟨by omega, by omega⟩, ⟨by omega, by omega⟩, ⟨by omega, by omega⟩, ⟨by omega, by omega⟩, ⟨by omega, by omega⟩, ⟨by omega, by omega⟩, ⟨by omega, by omega⟩, (by first | omega | assumption), (by first | omega | assumption), (by first | exact tf_PI_PB (tf_PI_sign (hRW_5 o0 u0 fs hq3) (by omega) (by omega)) (by omega) | exact tf_PI_PB hq3 (by omega)), (by first | exact Or.inr (tf_ST1 (tf_PI_sign (hRW_5 o0 u0 fs hq3) (by omega) (by omega)) (tf_NS_Q (tf_NS_push (tf_NS_mono hNS (by omega)) (by omega)))) | exact Or.inl (by omega)), (by first | omega | assumption)⟩⟩ dX10_behindSum_232
                                          · refine lv_aload_n hx hb dX10_behindSum_220 rfl (lv_at hl 2 rfl) ?_
                                            refine tf_iconst hx hb dX10_behindSum_221 ?_
                                            refine tf_callv (va_runV (As := [.int (Int32.ofInt 5)]) (rest := []) ⟨hx, hb, hml, hown, hts⟩ (c_X10_settle l g T a0 ha0 (5) ⟨by omega, by omega⟩ qop hqop qar hqar qpi hqpi qpa hqpa (gc) ⟨by omega, by omega⟩ (gp) ⟨by omega, by omega⟩ rop rar rpi rpa (by first | omega | assumption) (tf_PI_PB hq3 (by omega))) (cwV 1 hts gv_X10_291 rfl rfl rfl hd_X10_settle ⟨Nat.le_trans (by decide) hR1, Nat.le_trans (by decide) hR2⟩) (tf_preV hk hW ha0 (ci := 10) rfl rfl ⟨hs724, hs725, hs726, hs727, hs729, hs730, hs731, hs732, hs733, hs734⟩) rfl rfl hl.1 rfl (lv_room (Nat.le_of_ble_eq_true rfl)) dX10_behindSum_222 ⟨Nat.zero_le _, Nat.zero_le _⟩) hW (by decide) (fun HW locsW hW hFW hpW => ?_)
                                            have hs737 := tf_keepF hFW ha0 rfl rfl (by decide) hs724
                                            have hs738 := tf_keepF hFW ha0 rfl rfl (by decide) hs725
                                            have hs739 := tf_keepF hFW ha0 rfl rfl (by decide) hs726
                                            have hs740 := tf_keepF hFW ha0 rfl rfl (by decide) hs727
                                            have hs741 := tf_keepF hFW ha0 rfl rfl (by decide) hs728
                                            have hs742 := tf_keepC hFW hqpi rfl (by decide) hs733
                                            have hs743 := tf_keepC hFW hqpa rfl (by decide) hs734
                                            have hs744 := tf_keepF hFW ha0 rfl rfl (by decide) hXV_0
                                            have hs745 := tf_keepF hFW ha0 rfl rfl (by decide) hXV_1
                                            have hs746 := tf_keepF hFW ha0 rfl rfl (by decide) hXV_2
                                            have hs747 := tf_keepF hFW ha0 rfl rfl (by decide) hXV_3
                                            have hs748 := tf_keepF hFW ha0 rfl rfl (by decide) hXV_4
                                            obtain ⟨gc1_W, gp1_W, rop1_W, rar1_W, hXW_0, hXW_1, hXW_2, hXW_3, hBW_0, hBW_1, hRW_0, hRW_1, hRW_2, hRW_3, hRW_4, hRW_5⟩ := hpW
                                            refine lv_aload_n hx hb dX10_behindSum_225 rfl (lv_at hl 2 rfl) ?_
                                            refine lv_iload_n hx hb dX10_behindSum_226 rfl (lv_at hl 0 rfl) ?_
                                            refine tf_iconst hx hb dX10_behindSum_227 ?_
                                            refine tf_callv (va_runV (As := [.int (Int32.ofInt 26), .int (Int32.ofInt 0)]) (rest := []) ⟨hx, hb, hml, hown, hts⟩ (c_X10_push l g T a0 ha0 (26) ⟨by omega, by omega⟩ (0) ⟨by omega, by omega⟩ qpi hqpi qpa hqpa (gp1_W) ⟨by omega, by omega⟩ rpi rpa) (cwV 2 hts gv_X10_265 rfl rfl rfl hd_X10_push ⟨Nat.le_trans (by decide) hR1, Nat.le_trans (by decide) hR2⟩) (tf_preV hk hW ha0 (ci := 10) rfl rfl ⟨hs739, hs740, hXW_1, hs742, hs743⟩) rfl rfl hl.1 rfl (lv_room (Nat.le_of_ble_eq_true rfl)) dX10_behindSum_228 ⟨Nat.zero_le _, Nat.zero_le _⟩) hW (by decide) (fun H749 locs749 hW hF749 hp749 => ?_)
                                            have hs750 := tf_keepF hF749 ha0 rfl rfl (by decide) hs737
                                            have hs751 := tf_keepF hF749 ha0 rfl rfl (by decide) hs738
                                            have hs752 := tf_keepF hF749 ha0 rfl rfl (by decide) hs739
                                            have hs753 := tf_keepF hF749 ha0 rfl rfl (by decide) hs740
                                            have hs754 := tf_keepF hF749 ha0 rfl rfl (by decide) hs741
                                            have hs755 := tf_keepF hF749 ha0 rfl rfl (by decide) hs744
                                            have hs756 := tf_keepF hF749 ha0 rfl rfl (by decide) hs745
                                            have hs757 := tf_keepF hF749 ha0 rfl rfl (by decide) hs746
                                            have hs758 := tf_keepF hF749 ha0 rfl rfl (by decide) hs747
                                            have hs759 := tf_keepF hF749 ha0 rfl rfl (by decide) hs748
                                            have hs760 := tf_keepF hF749 ha0 rfl rfl (by decide) hXW_0
                                            have hs761 := tf_keepC hF749 hqop rfl (by decide) hXW_2
                                            have hs762 := tf_keepC hF749 hqar rfl (by decide) hXW_3
                                            obtain ⟨ho749_0, ho749_1, ho749_2⟩ := hp749
                                            refine tf_iconst hx hb dX10_behindSum_231 ?_
                                            exact tf_reti (z := 1) hx hb hr hlocks hQ hW ⟨by omega, by omega, ⟨(gb1_V), (gf1_V), (gt1_V), (gs1_V), (gw1_V), (gc1_W), ((gp1_W + 1)), rop1_W, rar1_W, (tf_up (rpi) (gp1_W) (26)), (tf_up (rpa) (gp1_W) (0)), hs755, hs756, hs757, hs758, hs759, hs760, ho749_0, hs761, hs762, ho749_1, ho749_2, ⟨by omega, by omega⟩, ⟨by omega, by omega⟩, ⟨by omega, by omega⟩, ⟨by omega, by omega⟩, ⟨by omega, by omega⟩, ⟨by omega, by omega⟩, ⟨by omega, by omega⟩, (by first | omega | assumption), (by first | omega | assumption), (by first | exact tf_PI_PB (tf_PI_sign (hRW_5 o0 u0 fs hq3) (by omega) (by omega)) (by omega) | exact tf_PI_PB hq3 (by omega)), (by first | exact Or.inr (tf_ST1 (tf_PI_sign (hRW_5 o0 u0 fs hq3) (by omega) (by omega)) (tf_NS_Q (tf_NS_push (tf_NS_mono hNS (by omega)) (by omega)))) | exact Or.inl (by omega)), (by first | omega | assumption)⟩⟩ dX10_behindSum_232
                                      · refine tf_if_eq (tgt := 209) hx hb ⟨by decide, by decide⟩ dX10_behindSum_202 (by decide) (fun h763 => ?_) (fun h763 => ?_)
                                        · refine tf_iconst hx hb dX10_behindSum_209 ?_
                                          refine tf_callv (va_runV (As := [.int (Int32.ofInt 0)]) (rest := []) ⟨hx, hb, hml, hown, hts⟩ (c_X10_must l g T a0 ha0 (0) ⟨by omega, by omega⟩ (gn) ⟨by omega, by omega⟩ (gf) ⟨by omega, by omega⟩ (gt) ⟨by omega, by omega⟩ (gs) ⟨by omega, by omega⟩ (gw) ⟨by omega, by omega⟩ (gb) ⟨by omega, by omega⟩ (by first | omega | assumption)) (cwV 1 hts gv_X10_235 rfl rfl rfl hd_X10_must ⟨Nat.le_trans (by decide) hR1, Nat.le_trans (by decide) hR2⟩) (tf_preV hk hW ha0 (ci := 10) rfl rfl ⟨hs710, hs711, hs712, hs713, hs714, hs715⟩) rfl rfl hl.1 rfl (lv_room (Nat.le_of_ble_eq_true rfl)) dX10_behindSum_210 ⟨Nat.zero_le _, Nat.zero_le _⟩) hW (by decide) (fun HV locsV hW hFV hpV => ?_)
                                          have hs764 := tf_keepF hFV ha0 rfl rfl (by decide) hs706
                                          have hs765 := tf_keepF hFV ha0 rfl rfl (by decide) hs707
                                          have hs766 := tf_keepF hFV ha0 rfl rfl (by decide) hs708
                                          have hs767 := tf_keepF hFV ha0 rfl rfl (by decide) hs709
                                          have hs768 := tf_keepF hFV ha0 rfl rfl (by decide) hs710
                                          have hs769 := tf_keepF hFV ha0 rfl rfl (by decide) hs716
                                          have hs770 := tf_keepF hFV ha0 rfl rfl (by decide) hs717
                                          have hs771 := tf_keepC hFV hqop rfl (by decide) hs718
                                          have hs772 := tf_keepC hFV hqar rfl (by decide) hs719
                                          have hs773 := tf_keepC hFV hqpi rfl (by decide) hs720
                                          have hs774 := tf_keepC hFV hqpa rfl (by decide) hs721
                                          obtain ⟨gb1_V, gf1_V, gt1_V, gs1_V, gw1_V, hXV_0, hXV_1, hXV_2, hXV_3, hXV_4, hBV_0, hBV_1, hBV_2, hBV_3, hBV_4, hRV_0⟩ := hpV
                                          refine lv_aload_n hx hb dX10_behindSum_213 rfl (lv_at hl 2 rfl) ?_
                                          refine tf_get hx hb hts inlX10 hown hK (ci := 10) rfl hW ha0 rfl 14 rfl (by decide) (hts _ fl_X10_200) dX10_behindSum_214 (fun v775 hv775 hsv775 => ?_)
                                          obtain rfl : v775 = .int (Int32.ofInt gb1_V) := Option.some.inj (hsv775.symm.trans hXV_0)
                                          refine tf_if_ne (tgt := 231) hx hb ⟨by omega, by omega⟩ dX10_behindSum_217 (by decide) (fun h776 => ?_) (fun h776 => ?_)
                                          · refine tf_iconst hx hb dX10_behindSum_231 ?_
                                            exact tf_reti (z := 1) hx hb hr hlocks hQ hW ⟨by omega, by omega, ⟨(gb1_V), (gf1_V), (gt1_V), (gs1_V), (gw1_V), (gc), (gp), rop, rar, rpi, rpa, hXV_0, hXV_1, hXV_2, hXV_3, hXV_4, hs769, hs770, hs771, hs772, hs773, hs774, ⟨by omega, by omega⟩, ⟨by omega, by omega⟩, ⟨by omega, by omega⟩, ⟨by omega, by omega⟩, ⟨by omega, by omega⟩, ⟨by omega, by omega⟩, ⟨by omega, by omega⟩, (by first | omega | assumption), (by first | omega | assumption), (by first | exact tf_PI_PB (tf_PI_sign (hRW_5 o0 u0 fs hq3) (by omega) (by omega)) (by omega) | exact tf_PI_PB hq3 (by omega)), (by first | exact Or.inr (tf_ST1 (tf_PI_sign (hRW_5 o0 u0 fs hq3) (by omega) (by omega)) (tf_NS_Q (tf_NS_push (tf_NS_mono hNS (by omega)) (by omega)))) | exact Or.inl (by omega)), (by first | omega | assumption)⟩⟩ dX10_behindSum_232
                                          · refine lv_aload_n hx hb dX10_behindSum_220 rfl (lv_at hl 2 rfl) ?_
                                            refine tf_iconst hx hb dX10_behindSum_221 ?_
                                            refine tf_callv (va_runV (As := [.int (Int32.ofInt 5)]) (rest := []) ⟨hx, hb, hml, hown, hts⟩ (c_X10_settle l g T a0 ha0 (5) ⟨by omega, by omega⟩ qop hqop qar hqar qpi hqpi qpa hqpa (gc) ⟨by omega, by omega⟩ (gp) ⟨by omega, by omega⟩ rop rar rpi rpa (by first | omega | assumption) (tf_PI_PB hq3 (by omega))) (cwV 1 hts gv_X10_291 rfl rfl rfl hd_X10_settle ⟨Nat.le_trans (by decide) hR1, Nat.le_trans (by decide) hR2⟩) (tf_preV hk hW ha0 (ci := 10) rfl rfl ⟨hs764, hs765, hs766, hs767, hs769, hs770, hs771, hs772, hs773, hs774⟩) rfl rfl hl.1 rfl (lv_room (Nat.le_of_ble_eq_true rfl)) dX10_behindSum_222 ⟨Nat.zero_le _, Nat.zero_le _⟩) hW (by decide) (fun HW locsW hW hFW hpW => ?_)
                                            have hs777 := tf_keepF hFW ha0 rfl rfl (by decide) hs764
                                            have hs778 := tf_keepF hFW ha0 rfl rfl (by decide) hs765
                                            have hs779 := tf_keepF hFW ha0 rfl rfl (by decide) hs766
                                            have hs780 := tf_keepF hFW ha0 rfl rfl (by decide) hs767
                                            have hs781 := tf_keepF hFW ha0 rfl rfl (by decide) hs768
                                            have hs782 := tf_keepC hFW hqpi rfl (by decide) hs773
                                            have hs783 := tf_keepC hFW hqpa rfl (by decide) hs774
                                            have hs784 := tf_keepF hFW ha0 rfl rfl (by decide) hXV_0
                                            have hs785 := tf_keepF hFW ha0 rfl rfl (by decide) hXV_1
                                            have hs786 := tf_keepF hFW ha0 rfl rfl (by decide) hXV_2
                                            have hs787 := tf_keepF hFW ha0 rfl rfl (by decide) hXV_3
                                            have hs788 := tf_keepF hFW ha0 rfl rfl (by decide) hXV_4
                                            obtain ⟨gc1_W, gp1_W, rop1_W, rar1_W, hXW_0, hXW_1, hXW_2, hXW_3, hBW_0, hBW_1, hRW_0, hRW_1, hRW_2, hRW_3, hRW_4, hRW_5⟩ := hpW
                                            refine lv_aload_n hx hb dX10_behindSum_225 rfl (lv_at hl 2 rfl) ?_
                                            refine lv_iload_n hx hb dX10_behindSum_226 rfl (lv_at hl 0 rfl) ?_
                                            refine tf_iconst hx hb dX10_behindSum_227 ?_
                                            refine tf_callv (va_runV (As := [.int (Int32.ofInt 26), .int (Int32.ofInt 0)]) (rest := []) ⟨hx, hb, hml, hown, hts⟩ (c_X10_push l g T a0 ha0 (26) ⟨by omega, by omega⟩ (0) ⟨by omega, by omega⟩ qpi hqpi qpa hqpa (gp1_W) ⟨by omega, by omega⟩ rpi rpa) (cwV 2 hts gv_X10_265 rfl rfl rfl hd_X10_push ⟨Nat.le_trans (by decide) hR1, Nat.le_trans (by decide) hR2⟩) (tf_preV hk hW ha0 (ci := 10) rfl rfl ⟨hs779, hs780, hXW_1, hs782, hs783⟩) rfl rfl hl.1 rfl (lv_room (Nat.le_of_ble_eq_true rfl)) dX10_behindSum_228 ⟨Nat.zero_le _, Nat.zero_le _⟩) hW (by decide) (fun H789 locs789 hW hF789 hp789 => ?_)
                                            have hs790 := tf_keepF hF789 ha0 rfl rfl (by decide) hs777
                                            have hs791 := tf_keepF hF789 ha0 rfl rfl (by decide) hs778
                                            have hs792 := tf_keepF hF789 ha0 rfl rfl (by decide) hs779
                                            have hs793 := tf_keepF hF789 ha0 rfl rfl (by decide) hs780
                                            have hs794 := tf_keepF hF789 ha0 rfl rfl (by decide) hs781
                                            have hs795 := tf_keepF hF789 ha0 rfl rfl (by decide) hs784
                                            have hs796 := tf_keepF hF789 ha0 rfl rfl (by decide) hs785
                                            have hs797 := tf_keepF hF789 ha0 rfl rfl (by decide) hs786
                                            have hs798 := tf_keepF hF789 ha0 rfl rfl (by decide) hs787
                                            have hs799 := tf_keepF hF789 ha0 rfl rfl (by decide) hs788
                                            have hs800 := tf_keepF hF789 ha0 rfl rfl (by decide) hXW_0
                                            have hs801 := tf_keepC hF789 hqop rfl (by decide) hXW_2
                                            have hs802 := tf_keepC hF789 hqar rfl (by decide) hXW_3
                                            obtain ⟨ho789_0, ho789_1, ho789_2⟩ := hp789
                                            refine tf_iconst hx hb dX10_behindSum_231 ?_
                                            exact tf_reti (z := 1) hx hb hr hlocks hQ hW ⟨by omega, by omega, ⟨(gb1_V), (gf1_V), (gt1_V), (gs1_V), (gw1_V), (gc1_W), ((gp1_W + 1)), rop1_W, rar1_W, (tf_up (rpi) (gp1_W) (26)), (tf_up (rpa) (gp1_W) (0)), hs795, hs796, hs797, hs798, hs799, hs800, ho789_0, hs801, hs802, ho789_1, ho789_2, ⟨by omega, by omega⟩, ⟨by omega, by omega⟩, ⟨by omega, by omega⟩, ⟨by omega, by omega⟩, ⟨by omega, by omega⟩, ⟨by omega, by omega⟩, ⟨by omega, by omega⟩, (by first | omega | assumption), (by first | omega | assumption), (by first | exact tf_PI_PB (tf_PI_sign (hRW_5 o0 u0 fs hq3) (by omega) (by omega)) (by omega) | exact tf_PI_PB hq3 (by omega)), (by first | exact Or.inr (tf_ST1 (tf_PI_sign (hRW_5 o0 u0 fs hq3) (by omega) (by omega)) (tf_NS_Q (tf_NS_push (tf_NS_mono hNS (by omega)) (by omega)))) | exact Or.inl (by omega)), (by first | omega | assumption)⟩⟩ dX10_behindSum_232
                                        · exfalso; omega
                                  · exfalso; omega
                              · exfalso; omega
                          · refine tf_iconst hx hb dX10_behindSum_156 ?_
                            exact tf_reti (z := 2) hx hb hr hlocks hQ hW ⟨by omega, by omega, ⟨(gb), (gf), (gt), (gs), (gw), (gc), (gp), rop, rar, rpi, rpa, hs576, hs572, hs573, hs574, hs575, hs577, hs578, hs579, hs580, hs581, hs582, ⟨by omega, by omega⟩, ⟨by omega, by omega⟩, ⟨by omega, by omega⟩, ⟨by omega, by omega⟩, ⟨by omega, by omega⟩, ⟨by omega, by omega⟩, ⟨by omega, by omega⟩, (by first | omega | assumption), (by first | omega | assumption), (tf_PI_PB hq3 (by omega)), (Or.inr (tf_ST2 hq3 hNS)), (by first | omega | assumption)⟩⟩ dX10_behindSum_157
                        · refine tf_iconst hx hb dX10_behindSum_147 ?_
                          exact tf_reti (z := 4) hx hb hr hlocks hQ hW ⟨by omega, by omega, ⟨(gb), (gf), (gt), (gs), (gw), (gc), (gp), rop, rar, rpi, rpa, hs319, hs315, hs316, hs317, hs318, hs320, hs321, hs322, hs323, hs324, hs325, ⟨by omega, by omega⟩, ⟨by omega, by omega⟩, ⟨by omega, by omega⟩, ⟨by omega, by omega⟩, ⟨by omega, by omega⟩, ⟨by omega, by omega⟩, ⟨by omega, by omega⟩, (by first | omega | assumption), (by first | omega | assumption), (tf_PI_PB hq3 (by omega)), (Or.inr (tf_ST4 hq3 hq4 (tf_inn_NB hpI_2 (by omega)))), (by first | omega | assumption)⟩⟩ dX10_behindSum_148
                    · refine lv_aload_n hx hb dX10_behindSum_94 rfl (lv_at hl 2 rfl) ?_
                      refine lv_aload_n hx hb dX10_behindSum_95 rfl (lv_at hl 2 rfl) ?_
                      refine tf_bipush hx hb dX10_behindSum_96 (by decide) ?_
                      refine tf_calli (va_runV (As := [.int (Int32.ofInt 93)]) (rest := [.ref a0]) ⟨hx, hb, hml, hown, hts⟩ (c_X10_isSign l g T a0 ha0 (93) ⟨by omega, by omega⟩ (gs) ⟨by omega, by omega⟩ (gw) ⟨by omega, by omega⟩) (cwV 1 hts gv_X10_271 rfl rfl rfl hd_X10_isSign ⟨Nat.le_trans (by decide) hR1, Nat.le_trans (by decide) hR2⟩) (tf_preV hk hW ha0 (ci := 10) rfl rfl ⟨hs317, hs318⟩) rfl rfl hl.1 rfl (lv_room (Nat.le_of_ble_eq_true rfl)) dX10_behindSum_98 ⟨Nat.zero_le _, Nat.zero_le _⟩) hW (by decide) (fun z803 H803 locs803 hW hF803 hp803 => ?_)
                      have hs804 := tf_keepF hF803 ha0 rfl rfl (by decide) hs310
                      have hs805 := tf_keepF hF803 ha0 rfl rfl (by decide) hs311
                      have hs806 := tf_keepF hF803 ha0 rfl rfl (by decide) hs312
                      have hs807 := tf_keepF hF803 ha0 rfl rfl (by decide) hs313
                      have hs808 := tf_keepF hF803 ha0 rfl rfl (by decide) hs314
                      have hs809 := tf_keepF hF803 ha0 rfl rfl (by decide) hs315
                      have hs810 := tf_keepF hF803 ha0 rfl rfl (by decide) hs316
                      have hs811 := tf_keepF hF803 ha0 rfl rfl (by decide) hs317
                      have hs812 := tf_keepF hF803 ha0 rfl rfl (by decide) hs318
                      have hs813 := tf_keepF hF803 ha0 rfl rfl (by decide) hs319
                      have hs814 := tf_keepF hF803 ha0 rfl rfl (by decide) hs320
                      have hs815 := tf_keepF hF803 ha0 rfl rfl (by decide) hs321
                      have hs816 := tf_keepC hF803 hqop rfl (by decide) hs322
                      have hs817 := tf_keepC hF803 hqar rfl (by decide) hs323
                      have hs818 := tf_keepC hF803 hqpi rfl (by decide) hs324
                      have hs819 := tf_keepC hF803 hqpa rfl (by decide) hs325
                      rcases hp803 with ⟨rfl, h820⟩ | ⟨rfl⟩
                      · refine tf_callv (va_runV (As := [.int (Int32.ofInt 1)]) (rest := []) ⟨hx, hb, hml, hown, hts⟩ (c_X10_must l g T a0 ha0 (1) ⟨by omega, by omega⟩ (gn) ⟨by omega, by omega⟩ (gf) ⟨by omega, by omega⟩ (gt) ⟨by omega, by omega⟩ (gs) ⟨by omega, by omega⟩ (gw) ⟨by omega, by omega⟩ (gb) ⟨by omega, by omega⟩ (by first | omega | assumption)) (cwV 1 hts gv_X10_235 rfl rfl rfl hd_X10_must ⟨Nat.le_trans (by decide) hR1, Nat.le_trans (by decide) hR2⟩) (tf_preV hk hW ha0 (ci := 10) rfl rfl ⟨hs808, hs809, hs810, hs811, hs812, hs813⟩) rfl rfl hl.1 rfl (lv_room (Nat.le_of_ble_eq_true rfl)) dX10_behindSum_101 ⟨Nat.zero_le _, Nat.zero_le _⟩) hW (by decide) (fun HU locsU hW hFU hpU => ?_)
                        have hs821 := tf_keepF hFU ha0 rfl rfl (by decide) hs804
                        have hs822 := tf_keepF hFU ha0 rfl rfl (by decide) hs805
                        have hs823 := tf_keepF hFU ha0 rfl rfl (by decide) hs806
                        have hs824 := tf_keepF hFU ha0 rfl rfl (by decide) hs807
                        have hs825 := tf_keepF hFU ha0 rfl rfl (by decide) hs808
                        have hs826 := tf_keepF hFU ha0 rfl rfl (by decide) hs814
                        have hs827 := tf_keepF hFU ha0 rfl rfl (by decide) hs815
                        have hs828 := tf_keepC hFU hqop rfl (by decide) hs816
                        have hs829 := tf_keepC hFU hqar rfl (by decide) hs817
                        have hs830 := tf_keepC hFU hqpi rfl (by decide) hs818
                        have hs831 := tf_keepC hFU hqpa rfl (by decide) hs819
                        obtain ⟨gb1_U, gf1_U, gt1_U, gs1_U, gw1_U, hXU_0, hXU_1, hXU_2, hXU_3, hXU_4, hBU_0, hBU_1, hBU_2, hBU_3, hBU_4, hRU_0⟩ := hpU
                        refine lv_aload_n hx hb dX10_behindSum_104 rfl (lv_at hl 2 rfl) ?_
                        refine tf_get hx hb hts inlX10 hown hK (ci := 10) rfl hW ha0 rfl 14 rfl (by decide) (hts _ fl_X10_200) dX10_behindSum_105 (fun v832 hv832 hsv832 => ?_)
                        obtain rfl : v832 = .int (Int32.ofInt gb1_U) := Option.some.inj (hsv832.symm.trans hXU_0)
                        refine tf_if_ne (tgt := 136) hx hb ⟨by omega, by omega⟩ dX10_behindSum_108 (by decide) (fun h833 => ?_) (fun h833 => ?_)
                        · refine tf_iconst hx hb dX10_behindSum_136 ?_
                          exact tf_reti (z := 3) hx hb hr hlocks hQ hW ⟨by omega, by omega, ⟨(gb1_U), (gf1_U), (gt1_U), (gs1_U), (gw1_U), (gc), (gp), rop, rar, rpi, rpa, hXU_0, hXU_1, hXU_2, hXU_3, hXU_4, hs826, hs827, hs828, hs829, hs830, hs831, ⟨by omega, by omega⟩, ⟨by omega, by omega⟩, ⟨by omega, by omega⟩, ⟨by omega, by omega⟩, ⟨by omega, by omega⟩, ⟨by omega, by omega⟩, ⟨by omega, by omega⟩, (by first | omega | assumption), (by first | omega | assumption), (by first | exact tf_PI_PB (tf_PI_close (hRS_5 o0 u0 fs hq3) rfl h31.1 h31.2) (by omega) | exact tf_PI_PB hq3 (by omega)), (by first | exact Or.inr (tf_ST3 (tf_PI_close (hRS_5 o0 u0 fs hq3) rfl h31.1 h31.2) (tf_Q_mono hq4 (by omega))) | exact Or.inl (by omega)), (by first | omega | assumption)⟩⟩ dX10_behindSum_137
                        · refine lv_aload_n hx hb dX10_behindSum_111 rfl (lv_at hl 2 rfl) ?_
                          refine tf_iconst hx hb dX10_behindSum_112 ?_
                          refine tf_callv (va_runV (As := [.int (Int32.ofInt 5)]) (rest := []) ⟨hx, hb, hml, hown, hts⟩ (c_X10_settle l g T a0 ha0 (5) ⟨by omega, by omega⟩ qop hqop qar hqar qpi hqpi qpa hqpa (gc) ⟨by omega, by omega⟩ (gp) ⟨by omega, by omega⟩ rop rar rpi rpa (by first | omega | assumption) (tf_PI_PB hq3 (by omega))) (cwV 1 hts gv_X10_291 rfl rfl rfl hd_X10_settle ⟨Nat.le_trans (by decide) hR1, Nat.le_trans (by decide) hR2⟩) (tf_preV hk hW ha0 (ci := 10) rfl rfl ⟨hs821, hs822, hs823, hs824, hs826, hs827, hs828, hs829, hs830, hs831⟩) rfl rfl hl.1 rfl (lv_room (Nat.le_of_ble_eq_true rfl)) dX10_behindSum_113 ⟨Nat.zero_le _, Nat.zero_le _⟩) hW (by decide) (fun HS locsS hW hFS hpS => ?_)
                          have hs834 := tf_keepF hFS ha0 rfl rfl (by decide) hs821
                          have hs835 := tf_keepF hFS ha0 rfl rfl (by decide) hs822
                          have hs836 := tf_keepF hFS ha0 rfl rfl (by decide) hs823
                          have hs837 := tf_keepF hFS ha0 rfl rfl (by decide) hs824
                          have hs838 := tf_keepF hFS ha0 rfl rfl (by decide) hs825
                          have hs839 := tf_keepC hFS hqpi rfl (by decide) hs830
                          have hs840 := tf_keepC hFS hqpa rfl (by decide) hs831
                          have hs841 := tf_keepF hFS ha0 rfl rfl (by decide) hXU_0
                          have hs842 := tf_keepF hFS ha0 rfl rfl (by decide) hXU_1
                          have hs843 := tf_keepF hFS ha0 rfl rfl (by decide) hXU_2
                          have hs844 := tf_keepF hFS ha0 rfl rfl (by decide) hXU_3
                          have hs845 := tf_keepF hFS ha0 rfl rfl (by decide) hXU_4
                          obtain ⟨gc1_S, gp1_S, rop1_S, rar1_S, hXS_0, hXS_1, hXS_2, hXS_3, hBS_0, hBS_1, hRS_0, hRS_1, hRS_2, hRS_3, hRS_4, hRS_5⟩ := hpS
                          refine lv_aload_n hx hb dX10_behindSum_116 rfl (lv_at hl 2 rfl) ?_
                          refine lv_dup hx hb dX10_behindSum_117 rfl ?_
                          refine tf_get hx hb hts inlX10 hown hK (ci := 10) rfl hW ha0 rfl 23 rfl (by decide) (hts _ fl_X10_242) dX10_behindSum_118 (fun v846 hv846 hsv846 => ?_)
                          obtain rfl : v846 = .int (Int32.ofInt gp1_S) := Option.some.inj (hsv846.symm.trans hXS_1)
                          refine tf_iconst hx hb dX10_behindSum_121 ?_
                          refine tf_isub hx hb dX10_behindSum_122 ?_
                          have h31 := tf_inn_31 (show tf_inn rpi gp 31 from (show zI = 31 by omega) ▸ hpI_2) hq4 (by omega) (by omega) hRS_4 (by omega)
                          refine tf_put hx hb hts inlX10 tyX10 tyX10_ok nmX10 hown hK (ci := 10) rfl hW ha0 rfl rfl 23 rfl (by decide) (by decide) (hts _ fl_X10_242) rfl (tf_u0 (by omega) (by omega)) rfl rfl dX10_behindSum_123 (fun H847 locs847 hW hs847 ht847 hq847 => ?_)
                          have hs848 := (ht847 18 (by decide) (by decide)).trans hs834
                          have hs849 := (ht847 19 (by decide) (by decide)).trans hs835
                          have hs850 := (ht847 21 (by decide) (by decide)).trans hs836
                          have hs851 := (ht847 22 (by decide) (by decide)).trans hs837
                          have hs852 := (ht847 8 (by decide) (by decide)).trans hs838
                          have hs853 := tf_keepCQ hs839 (hq847 _ (tf_ne hqpi ha0 (by decide)))
                          have hs854 := tf_keepCQ hs840 (hq847 _ (tf_ne hqpa ha0 (by decide)))
                          have hs855 := (ht847 14 (by decide) (by decide)).trans hs841
                          have hs856 := (ht847 9 (by decide) (by decide)).trans hs842
                          have hs857 := (ht847 10 (by decide) (by decide)).trans hs843
                          have hs858 := (ht847 11 (by decide) (by decide)).trans hs844
                          have hs859 := (ht847 12 (by decide) (by decide)).trans hs845
                          have hs860 := (ht847 17 (by decide) (by decide)).trans hXS_0
                          have hs861 := tf_keepCQ hXS_2 (hq847 _ (tf_ne hqop ha0 (by decide)))
                          have hs862 := tf_keepCQ hXS_3 (hq847 _ (tf_ne hqar ha0 (by decide)))
                          refine lv_aload_n hx hb dX10_behindSum_126 rfl (lv_at hl 2 rfl) ?_
                          refine lv_dup hx hb dX10_behindSum_127 rfl ?_
                          refine tf_get hx hb hts inlX10 hown hK (ci := 10) rfl hW ha0 rfl 24 rfl (by decide) (hts _ fl_X10_262) dX10_behindSum_128 (fun v863 hv863 hsv863 => ?_)
                          obtain ⟨z864, rfl, hz864⟩ := tf_v0 hv863
                          refine tf_iconst hx hb dX10_behindSum_131 ?_
                          refine tf_isub_any hx hb dX10_behindSum_132 (fun z865 hz865 => ?_)
                          refine tf_put hx hb hts inlX10 tyX10 tyX10_ok nmX10 hown hK (ci := 10) rfl hW ha0 rfl rfl 24 rfl (by decide) (by decide) (hts _ fl_X10_262) rfl (tf_u0 (by omega) (by omega)) rfl rfl dX10_behindSum_133 (fun H866 locs866 hW hs866 ht866 hq866 => ?_)
                          have hs867 := (ht866 18 (by decide) (by decide)).trans hs848
                          have hs868 := (ht866 19 (by decide) (by decide)).trans hs849
                          have hs869 := (ht866 21 (by decide) (by decide)).trans hs850
                          have hs870 := (ht866 22 (by decide) (by decide)).trans hs851
                          have hs871 := (ht866 8 (by decide) (by decide)).trans hs852
                          have hs872 := tf_keepCQ hs853 (hq866 _ (tf_ne hqpi ha0 (by decide)))
                          have hs873 := tf_keepCQ hs854 (hq866 _ (tf_ne hqpa ha0 (by decide)))
                          have hs874 := (ht866 14 (by decide) (by decide)).trans hs855
                          have hs875 := (ht866 9 (by decide) (by decide)).trans hs856
                          have hs876 := (ht866 10 (by decide) (by decide)).trans hs857
                          have hs877 := (ht866 11 (by decide) (by decide)).trans hs858
                          have hs878 := (ht866 12 (by decide) (by decide)).trans hs859
                          have hs879 := (ht866 17 (by decide) (by decide)).trans hs860
                          have hs880 := tf_keepCQ hs861 (hq866 _ (tf_ne hqop ha0 (by decide)))
                          have hs881 := tf_keepCQ hs862 (hq866 _ (tf_ne hqar ha0 (by decide)))
                          have hs882 := (ht866 23 (by decide) (by decide)).trans hs847
                          refine tf_iconst hx hb dX10_behindSum_136 ?_
                          exact tf_reti (z := 3) hx hb hr hlocks hQ hW ⟨by omega, by omega, ⟨(gb1_U), (gf1_U), (gt1_U), (gs1_U), (gw1_U), (gc1_S), ((gp1_S - 1)), rop1_S, rar1_S, rpi, rpa, hs874, hs875, hs876, hs877, hs878, hs879, hs882, hs880, hs881, hs872, hs873, ⟨by omega, by omega⟩, ⟨by omega, by omega⟩, ⟨by omega, by omega⟩, ⟨by omega, by omega⟩, ⟨by omega, by omega⟩, ⟨by omega, by omega⟩, ⟨by omega, by omega⟩, (by first | omega | assumption), (by first | omega | assumption), (by first | exact tf_PI_PB (tf_PI_close (hRS_5 o0 u0 fs hq3) rfl h31.1 h31.2) (by omega) | exact tf_PI_PB hq3 (by omega)), (by first | exact Or.inr (tf_ST3 (tf_PI_close (hRS_5 o0 u0 fs hq3) rfl h31.1 h31.2) (tf_Q_mono hq4 (by omega))) | exact Or.inl (by omega)), (by first | omega | assumption)⟩⟩ dX10_behindSum_137
                      · refine tf_callv (va_runV (As := [.int (Int32.ofInt 0)]) (rest := []) ⟨hx, hb, hml, hown, hts⟩ (c_X10_must l g T a0 ha0 (0) ⟨by omega, by omega⟩ (gn) ⟨by omega, by omega⟩ (gf) ⟨by omega, by omega⟩ (gt) ⟨by omega, by omega⟩ (gs) ⟨by omega, by omega⟩ (gw) ⟨by omega, by omega⟩ (gb) ⟨by omega, by omega⟩ (by first | omega | assumption)) (cwV 1 hts gv_X10_235 rfl rfl rfl hd_X10_must ⟨Nat.le_trans (by decide) hR1, Nat.le_trans (by decide) hR2⟩) (tf_preV hk hW ha0 (ci := 10) rfl rfl ⟨hs808, hs809, hs810, hs811, hs812, hs813⟩) rfl rfl hl.1 rfl (lv_room (Nat.le_of_ble_eq_true rfl)) dX10_behindSum_101 ⟨Nat.zero_le _, Nat.zero_le _⟩) hW (by decide) (fun HU locsU hW hFU hpU => ?_)
                        have hs883 := tf_keepF hFU ha0 rfl rfl (by decide) hs804
                        have hs884 := tf_keepF hFU ha0 rfl rfl (by decide) hs805
                        have hs885 := tf_keepF hFU ha0 rfl rfl (by decide) hs806
                        have hs886 := tf_keepF hFU ha0 rfl rfl (by decide) hs807
                        have hs887 := tf_keepF hFU ha0 rfl rfl (by decide) hs808
                        have hs888 := tf_keepF hFU ha0 rfl rfl (by decide) hs814
                        have hs889 := tf_keepF hFU ha0 rfl rfl (by decide) hs815
                        have hs890 := tf_keepC hFU hqop rfl (by decide) hs816
                        have hs891 := tf_keepC hFU hqar rfl (by decide) hs817
                        have hs892 := tf_keepC hFU hqpi rfl (by decide) hs818
                        have hs893 := tf_keepC hFU hqpa rfl (by decide) hs819
                        obtain ⟨gb1_U, gf1_U, gt1_U, gs1_U, gw1_U, hXU_0, hXU_1, hXU_2, hXU_3, hXU_4, hBU_0, hBU_1, hBU_2, hBU_3, hBU_4, hRU_0⟩ := hpU
                        refine lv_aload_n hx hb dX10_behindSum_104 rfl (lv_at hl 2 rfl) ?_
                        refine tf_get hx hb hts inlX10 hown hK (ci := 10) rfl hW ha0 rfl 14 rfl (by decide) (hts _ fl_X10_200) dX10_behindSum_105 (fun v894 hv894 hsv894 => ?_)
                        obtain rfl : v894 = .int (Int32.ofInt gb1_U) := Option.some.inj (hsv894.symm.trans hXU_0)
                        refine tf_if_ne (tgt := 136) hx hb ⟨by omega, by omega⟩ dX10_behindSum_108 (by decide) (fun h895 => ?_) (fun h895 => ?_)
                        · refine tf_iconst hx hb dX10_behindSum_136 ?_
                          exact tf_reti (z := 3) hx hb hr hlocks hQ hW ⟨by omega, by omega, ⟨(gb1_U), (gf1_U), (gt1_U), (gs1_U), (gw1_U), (gc), (gp), rop, rar, rpi, rpa, hXU_0, hXU_1, hXU_2, hXU_3, hXU_4, hs888, hs889, hs890, hs891, hs892, hs893, ⟨by omega, by omega⟩, ⟨by omega, by omega⟩, ⟨by omega, by omega⟩, ⟨by omega, by omega⟩, ⟨by omega, by omega⟩, ⟨by omega, by omega⟩, ⟨by omega, by omega⟩, (by first | omega | assumption), (by first | omega | assumption), (by first | exact tf_PI_PB (tf_PI_close (hRS_5 o0 u0 fs hq3) rfl h31.1 h31.2) (by omega) | exact tf_PI_PB hq3 (by omega)), (by first | exact Or.inr (tf_ST3 (tf_PI_close (hRS_5 o0 u0 fs hq3) rfl h31.1 h31.2) (tf_Q_mono hq4 (by omega))) | exact Or.inl (by omega)), (by first | omega | assumption)⟩⟩ dX10_behindSum_137
                        · refine lv_aload_n hx hb dX10_behindSum_111 rfl (lv_at hl 2 rfl) ?_
                          refine tf_iconst hx hb dX10_behindSum_112 ?_
                          refine tf_callv (va_runV (As := [.int (Int32.ofInt 5)]) (rest := []) ⟨hx, hb, hml, hown, hts⟩ (c_X10_settle l g T a0 ha0 (5) ⟨by omega, by omega⟩ qop hqop qar hqar qpi hqpi qpa hqpa (gc) ⟨by omega, by omega⟩ (gp) ⟨by omega, by omega⟩ rop rar rpi rpa (by first | omega | assumption) (tf_PI_PB hq3 (by omega))) (cwV 1 hts gv_X10_291 rfl rfl rfl hd_X10_settle ⟨Nat.le_trans (by decide) hR1, Nat.le_trans (by decide) hR2⟩) (tf_preV hk hW ha0 (ci := 10) rfl rfl ⟨hs883, hs884, hs885, hs886, hs888, hs889, hs890, hs891, hs892, hs893⟩) rfl rfl hl.1 rfl (lv_room (Nat.le_of_ble_eq_true rfl)) dX10_behindSum_113 ⟨Nat.zero_le _, Nat.zero_le _⟩) hW (by decide) (fun HS locsS hW hFS hpS => ?_)
                          have hs896 := tf_keepF hFS ha0 rfl rfl (by decide) hs883
                          have hs897 := tf_keepF hFS ha0 rfl rfl (by decide) hs884
                          have hs898 := tf_keepF hFS ha0 rfl rfl (by decide) hs885
                          have hs899 := tf_keepF hFS ha0 rfl rfl (by decide) hs886
                          have hs900 := tf_keepF hFS ha0 rfl rfl (by decide) hs887
                          have hs901 := tf_keepC hFS hqpi rfl (by decide) hs892
                          have hs902 := tf_keepC hFS hqpa rfl (by decide) hs893
                          have hs903 := tf_keepF hFS ha0 rfl rfl (by decide) hXU_0
                          have hs904 := tf_keepF hFS ha0 rfl rfl (by decide) hXU_1
                          have hs905 := tf_keepF hFS ha0 rfl rfl (by decide) hXU_2
                          have hs906 := tf_keepF hFS ha0 rfl rfl (by decide) hXU_3
                          have hs907 := tf_keepF hFS ha0 rfl rfl (by decide) hXU_4
                          obtain ⟨gc1_S, gp1_S, rop1_S, rar1_S, hXS_0, hXS_1, hXS_2, hXS_3, hBS_0, hBS_1, hRS_0, hRS_1, hRS_2, hRS_3, hRS_4, hRS_5⟩ := hpS
                          refine lv_aload_n hx hb dX10_behindSum_116 rfl (lv_at hl 2 rfl) ?_
                          refine lv_dup hx hb dX10_behindSum_117 rfl ?_
                          refine tf_get hx hb hts inlX10 hown hK (ci := 10) rfl hW ha0 rfl 23 rfl (by decide) (hts _ fl_X10_242) dX10_behindSum_118 (fun v908 hv908 hsv908 => ?_)
                          obtain rfl : v908 = .int (Int32.ofInt gp1_S) := Option.some.inj (hsv908.symm.trans hXS_1)
                          refine tf_iconst hx hb dX10_behindSum_121 ?_
                          refine tf_isub hx hb dX10_behindSum_122 ?_
                          have h31 := tf_inn_31 (show tf_inn rpi gp 31 from (show zI = 31 by omega) ▸ hpI_2) hq4 (by omega) (by omega) hRS_4 (by omega)
                          refine tf_put hx hb hts inlX10 tyX10 tyX10_ok nmX10 hown hK (ci := 10) rfl hW ha0 rfl rfl 23 rfl (by decide) (by decide) (hts _ fl_X10_242) rfl (tf_u0 (by omega) (by omega)) rfl rfl dX10_behindSum_123 (fun H909 locs909 hW hs909 ht909 hq909 => ?_)
                          have hs910 := (ht909 18 (by decide) (by decide)).trans hs896
                          have hs911 := (ht909 19 (by decide) (by decide)).trans hs897
                          have hs912 := (ht909 21 (by decide) (by decide)).trans hs898
                          have hs913 := (ht909 22 (by decide) (by decide)).trans hs899
                          have hs914 := (ht909 8 (by decide) (by decide)).trans hs900
                          have hs915 := tf_keepCQ hs901 (hq909 _ (tf_ne hqpi ha0 (by decide)))
                          have hs916 := tf_keepCQ hs902 (hq909 _ (tf_ne hqpa ha0 (by decide)))
                          have hs917 := (ht909 14 (by decide) (by decide)).trans hs903
                          have hs918 := (ht909 9 (by decide) (by decide)).trans hs904
                          have hs919 := (ht909 10 (by decide) (by decide)).trans hs905
                          have hs920 := (ht909 11 (by decide) (by decide)).trans hs906
                          have hs921 := (ht909 12 (by decide) (by decide)).trans hs907
                          have hs922 := (ht909 17 (by decide) (by decide)).trans hXS_0
                          have hs923 := tf_keepCQ hXS_2 (hq909 _ (tf_ne hqop ha0 (by decide)))
                          have hs924 := tf_keepCQ hXS_3 (hq909 _ (tf_ne hqar ha0 (by decide)))
                          refine lv_aload_n hx hb dX10_behindSum_126 rfl (lv_at hl 2 rfl) ?_
                          refine lv_dup hx hb dX10_behindSum_127 rfl ?_
                          refine tf_get hx hb hts inlX10 hown hK (ci := 10) rfl hW ha0 rfl 24 rfl (by decide) (hts _ fl_X10_262) dX10_behindSum_128 (fun v925 hv925 hsv925 => ?_)
                          obtain ⟨z926, rfl, hz926⟩ := tf_v0 hv925
                          refine tf_iconst hx hb dX10_behindSum_131 ?_
                          refine tf_isub_any hx hb dX10_behindSum_132 (fun z927 hz927 => ?_)
                          refine tf_put hx hb hts inlX10 tyX10 tyX10_ok nmX10 hown hK (ci := 10) rfl hW ha0 rfl rfl 24 rfl (by decide) (by decide) (hts _ fl_X10_262) rfl (tf_u0 (by omega) (by omega)) rfl rfl dX10_behindSum_133 (fun H928 locs928 hW hs928 ht928 hq928 => ?_)
                          have hs929 := (ht928 18 (by decide) (by decide)).trans hs910
                          have hs930 := (ht928 19 (by decide) (by decide)).trans hs911
                          have hs931 := (ht928 21 (by decide) (by decide)).trans hs912
                          have hs932 := (ht928 22 (by decide) (by decide)).trans hs913
                          have hs933 := (ht928 8 (by decide) (by decide)).trans hs914
                          have hs934 := tf_keepCQ hs915 (hq928 _ (tf_ne hqpi ha0 (by decide)))
                          have hs935 := tf_keepCQ hs916 (hq928 _ (tf_ne hqpa ha0 (by decide)))
                          have hs936 := (ht928 14 (by decide) (by decide)).trans hs917
                          have hs937 := (ht928 9 (by decide) (by decide)).trans hs918
                          have hs938 := (ht928 10 (by decide) (by decide)).trans hs919
                          have hs939 := (ht928 11 (by decide) (by decide)).trans hs920
                          have hs940 := (ht928 12 (by decide) (by decide)).trans hs921
                          have hs941 := (ht928 17 (by decide) (by decide)).trans hs922
                          have hs942 := tf_keepCQ hs923 (hq928 _ (tf_ne hqop ha0 (by decide)))
                          have hs943 := tf_keepCQ hs924 (hq928 _ (tf_ne hqar ha0 (by decide)))
                          have hs944 := (ht928 23 (by decide) (by decide)).trans hs909
                          refine tf_iconst hx hb dX10_behindSum_136 ?_
                          exact tf_reti (z := 3) hx hb hr hlocks hQ hW ⟨by omega, by omega, ⟨(gb1_U), (gf1_U), (gt1_U), (gs1_U), (gw1_U), (gc1_S), ((gp1_S - 1)), rop1_S, rar1_S, rpi, rpa, hs936, hs937, hs938, hs939, hs940, hs941, hs944, hs942, hs943, hs934, hs935, ⟨by omega, by omega⟩, ⟨by omega, by omega⟩, ⟨by omega, by omega⟩, ⟨by omega, by omega⟩, ⟨by omega, by omega⟩, ⟨by omega, by omega⟩, ⟨by omega, by omega⟩, (by first | omega | assumption), (by first | omega | assumption), (by first | exact tf_PI_PB (tf_PI_close (hRS_5 o0 u0 fs hq3) rfl h31.1 h31.2) (by omega) | exact tf_PI_PB hq3 (by omega)), (by first | exact Or.inr (tf_ST3 (tf_PI_close (hRS_5 o0 u0 fs hq3) rfl h31.1 h31.2) (tf_Q_mono hq4 (by omega))) | exact Or.inl (by omega)), (by first | omega | assumption)⟩⟩ dX10_behindSum_137
                  · exfalso; omega
                · exfalso; omega
            · exfalso; omega
        · exfalso; omega
    · exfalso; omega

abbrev M_X10_behindTest : List (Nat × Nat) := [(33, 0), (34, 0), (35, 0), (36, 0), (50, 9), (50, 10), (50, 11), (50, 12), (50, 13), (50, 14), (50, 17), (50, 23), (50, 24)]
set_option maxHeartbeats 4000000 in
set_option maxRecDepth 100000 in
theorem c_X10_behindTest (l : Launch) (g : tf_G) (T : tf_T) (a0 : Nat) (ha0 : T a0 = some (50, 0)) (fs : Int) (o0 : Int → Int) (u0 : Int → Int) (qop : Nat) (hqop : T qop = some (33, 400)) (qar : Nat) (hqar : T qar = some (34, 400)) (qpi : Nat) (hqpi : T qpi = some (35, 400)) (qpa : Nat) (hqpa : T qpa = some (36, 400)) (gn : Int) (hgn : 0 ≤ gn ∧ gn ≤ 400) (gf : Int) (hgf : 0 ≤ gf ∧ gf ≤ 400) (gt : Int) (hgt : 0 ≤ gt ∧ gt ≤ 400) (gs : Int) (hgs : 0 ≤ gs ∧ gs ≤ 3) (gw : Int) (hgw : (-9223372036854775808) ≤ gw ∧ gw ≤ 9223372036854775807) (gb : Int) (hgb : 0 ≤ gb ∧ gb ≤ 1) (gc : Int) (hgc : 0 ≤ gc ∧ gc ≤ 400) (gp : Int) (hgp : 0 ≤ gp ∧ gp ≤ 400) (rop : Int → Int) (rar : Int → Int) (rpi : Int → Int) (rpa : Int → Int) (hq0 : (gb = 0)) (hq1 : (gc + gp ≤ gf)) (hq2 : (gf ≤ gt ∧ gt ≤ gn ∧ (gs = 0 → gf = gn) ∧ (gs ≠ 0 → gf < gt) ∧ (gs = 1 → 26 < gw → gf + 2 ≤ gt))) (hq3 : (tf_PI o0 u0 rop rar rpi rpa fs gc gp 1)) (hq4 : (tf_NS rpi gp)) : Met l yX10_behindTest (cd_X10_behindTest :: wsL_law) ({ frames := 4, cells := 0, slots := 0, locals := 85 }) (tf_P g T [.ref a0] (fun H => tf_s H a0 (g.1.2 10 18) = some (.ref qop) ∧ tf_s H a0 (g.1.2 10 19) = some (.ref qar) ∧ tf_s H a0 (g.1.2 10 21) = some (.ref qpi) ∧ tf_s H a0 (g.1.2 10 22) = some (.ref qpa) ∧ tf_s H a0 (g.1.2 10 8) = some (.int (Int32.ofInt gn)) ∧ tf_s H a0 (g.1.2 10 9) = some (.int (Int32.ofInt gf)) ∧ tf_s H a0 (g.1.2 10 10) = some (.int (Int32.ofInt gt)) ∧ tf_s H a0 (g.1.2 10 11) = some (.int (Int32.ofInt gs)) ∧ tf_s H a0 (g.1.2 10 12) = some (.long (Int64.ofInt gw)) ∧ tf_s H a0 (g.1.2 10 14) = some (.int (Int32.ofInt gb)) ∧ tf_s H a0 (g.1.2 10 17) = some (.int (Int32.ofInt gc)) ∧ tf_s H a0 (g.1.2 10 23) = some (.int (Int32.ofInt gp)) ∧ tf_rw H qop = rop ∧ tf_rw H qar = rar ∧ tf_rw H qpi = rpi ∧ tf_rw H qpa = rpa)) (tf_Qi g M_X10_behindTest T (fun z _ H => 0 ≤ z ∧ z ≤ 4 ∧ (∃ (gb1 gf1 gt1 gs1 gw1 gc1 gp1 : Int) (rop1 rar1 rpi1 rpa1 : Int → Int), tf_s H a0 (g.1.2 10 14) = some (.int (Int32.ofInt gb1)) ∧ tf_s H a0 (g.1.2 10 9) = some (.int (Int32.ofInt gf1)) ∧ tf_s H a0 (g.1.2 10 10) = some (.int (Int32.ofInt gt1)) ∧ tf_s H a0 (g.1.2 10 11) = some (.int (Int32.ofInt gs1)) ∧ tf_s H a0 (g.1.2 10 12) = some (.long (Int64.ofInt gw1)) ∧ tf_s H a0 (g.1.2 10 17) = some (.int (Int32.ofInt gc1)) ∧ tf_s H a0 (g.1.2 10 23) = some (.int (Int32.ofInt gp1)) ∧ tf_rw H qop = rop1 ∧ tf_rw H qar = rar1 ∧ tf_rw H qpi = rpi1 ∧ tf_rw H qpa = rpa1 ∧ (0 ≤ gb1 ∧ gb1 ≤ 1) ∧ (0 ≤ gf1 ∧ gf1 ≤ 400) ∧ (0 ≤ gt1 ∧ gt1 ≤ 400) ∧ (0 ≤ gs1 ∧ gs1 ≤ 3) ∧ ((-9223372036854775808) ≤ gw1 ∧ gw1 ≤ 9223372036854775807) ∧ (0 ≤ gc1 ∧ gc1 ≤ 400) ∧ (0 ≤ gp1 ∧ gp1 ≤ 400) ∧ (gf1 ≤ gt1 ∧ gt1 ≤ gn ∧ (gs1 = 0 → gf1 = gn) ∧ (gs1 ≠ 0 → gf1 < gt1) ∧ (gs1 = 1 → 26 < gw1 → gf1 + 2 ≤ gt1)) ∧ (gc1 + gp1 ≤ gf1) ∧ (tf_PB rpi1 rpa1 gp1) ∧ (gb1 = 1 ∨ tf_ST z o0 u0 rop1 rar1 rpi1 rpa1 fs gc1 gp1) ∧ (gf < gf1 ∨ (gf1 = gf ∧ (gb1 = 1 ∨ z = 4)))))) 0 0 (fun q => tf_B g ≤ q) := by
  refine Met.ofW (cc := cX10_behindTest) (maxL := 2) (ret := (some .int)) (by decide) rfl ?_
  intro p e s m args below meth c s₁ B hml hv
  obtain ⟨hargs, hk, hW0, hB, hpre⟩ := hv
  obtain ⟨he0, he1, he2, he3, he4, he5, he6, he7, he8, he9, he10, he11, he12, he13, he14, he15⟩ := hpre
  have hx := B.exec
  have hb := B.bytes
  have hr := B.returns
  have hts : ∀ w ∈ wsL_law, w.before args s = true := fun w h => atoms_spec (ws := cd_X10_behindTest :: wsL_law) B.pre w (List.mem_cons_of_mem _ h)
  have hown : s.vm.findClass RX10 = some m.cls := findClass_of_methodNamed B.named
  have hlocks := B.notSynchronized
  have hK := hk.1
  have hW := tf_n.start (M := M_X10_behindTest) hW0 hB
  obtain ⟨Q, hQ⟩ : ∃ q, q = MQ below (tf_Qi g M_X10_behindTest T (fun z _ H => 0 ≤ z ∧ z ≤ 4 ∧ (∃ (gb1 gf1 gt1 gs1 gw1 gc1 gp1 : Int) (rop1 rar1 rpi1 rpa1 : Int → Int), tf_s H a0 (g.1.2 10 14) = some (.int (Int32.ofInt gb1)) ∧ tf_s H a0 (g.1.2 10 9) = some (.int (Int32.ofInt gf1)) ∧ tf_s H a0 (g.1.2 10 10) = some (.int (Int32.ofInt gt1)) ∧ tf_s H a0 (g.1.2 10 11) = some (.int (Int32.ofInt gs1)) ∧ tf_s H a0 (g.1.2 10 12) = some (.long (Int64.ofInt gw1)) ∧ tf_s H a0 (g.1.2 10 17) = some (.int (Int32.ofInt gc1)) ∧ tf_s H a0 (g.1.2 10 23) = some (.int (Int32.ofInt gp1)) ∧ tf_rw H qop = rop1 ∧ tf_rw H qar = rar1 ∧ tf_rw H qpi = rpi1 ∧ tf_rw H qpa = rpa1 ∧ (0 ≤ gb1 ∧ gb1 ≤ 1) ∧ (0 ≤ gf1 ∧ gf1 ≤ 400) ∧ (0 ≤ gt1 ∧ gt1 ≤ 400) ∧ (0 ≤ gs1 ∧ gs1 ≤ 3) ∧ ((-9223372036854775808) ≤ gw1 ∧ gw1 ≤ 9223372036854775807) ∧ (0 ≤ gc1 ∧ gc1 ≤ 400) ∧ (0 ≤ gp1 ∧ gp1 ≤ 400) ∧ (gf1 ≤ gt1 ∧ gt1 ≤ gn ∧ (gs1 = 0 → gf1 = gn) ∧ (gs1 ≠ 0 → gf1 < gt1) ∧ (gs1 = 1 → 26 < gw1 → gf1 + 2 ≤ gt1)) ∧ (gc1 + gp1 ≤ gf1) ∧ (tf_PB rpi1 rpa1 gp1) ∧ (gb1 = 1 ∨ tf_ST z o0 u0 rop1 rar1 rpi1 rpa1 fs gc1 gp1) ∧ (gf < gf1 ∨ (gf1 = gf ∧ (gb1 = 1 ∨ z = 4)))))) args s 0 0 (fun q => tf_B g ≤ q) := ⟨_, rfl⟩
  rw [← hQ]
  obtain ⟨R, hR⟩ : ∃ q, q = (headSpec (cd_X10_behindTest :: wsL_law) ({ frames := 4, cells := 0, slots := 0, locals := 85 })).room := ⟨_, rfl⟩
  rw [← hR]
  have hR1 : 4 ≤ R.frames := by rw [hR]; exact Nat.le_refl _
  have hR2 : 85 ≤ R.locals := by rw [hR]; exact Nat.le_refl _
  have hR3 : 0 ≤ R.cells := by rw [hR]; exact Nat.le_refl _
  have hR4 : 0 ≤ R.slots := by rw [hR]; exact Nat.le_refl _
  have hin := (name_of_methodNamed B.named B.method).1
  clear hR B
  refine tf_enter (As := [.ref a0]) hargs (Nat.le_of_ble_eq_true rfl) (fun ls hl => ?_)
  have hl : lv_has ls 2 [(0, .ref a0)] := hl
  refine lv_aload_n hx hb dX10_behindTest_0 rfl (lv_at hl 0 rfl) ?_
  refine tf_ldc2 (z := 1476) hx hb hown (hts _ kl_X10_301) (by decide) dX10_behindTest_1 ?_
  refine tf_calli (va_runV (As := [.long (Int64.ofInt 1476)]) (rest := []) ⟨hx, hb, hml, hown, hts⟩ (c_X10_isWord l g T a0 ha0 (1476) ⟨by omega, by omega⟩ (gs) ⟨by omega, by omega⟩ (gw) ⟨by omega, by omega⟩) (cwV 1 hts gv_X10_258 rfl rfl rfl hd_X10_isWord ⟨Nat.le_trans (by decide) hR1, Nat.le_trans (by decide) hR2⟩) (tf_preV hk hW ha0 (ci := 10) rfl rfl ⟨he7, he8⟩) rfl rfl hl.1 rfl (lv_room (Nat.le_of_ble_eq_true rfl)) dX10_behindTest_4 ⟨Nat.zero_le _, Nat.zero_le _⟩) hW (by decide) (fun z1 H1 locs1 hW hF1 hp1 => ?_)
  have hs2 := tf_keepF hF1 ha0 rfl rfl (by decide) he0
  have hs3 := tf_keepF hF1 ha0 rfl rfl (by decide) he1
  have hs4 := tf_keepF hF1 ha0 rfl rfl (by decide) he2
  have hs5 := tf_keepF hF1 ha0 rfl rfl (by decide) he3
  have hs6 := tf_keepF hF1 ha0 rfl rfl (by decide) he4
  have hs7 := tf_keepF hF1 ha0 rfl rfl (by decide) he5
  have hs8 := tf_keepF hF1 ha0 rfl rfl (by decide) he6
  have hs9 := tf_keepF hF1 ha0 rfl rfl (by decide) he7
  have hs10 := tf_keepF hF1 ha0 rfl rfl (by decide) he8
  have hs11 := tf_keepF hF1 ha0 rfl rfl (by decide) he9
  have hs12 := tf_keepF hF1 ha0 rfl rfl (by decide) he10
  have hs13 := tf_keepF hF1 ha0 rfl rfl (by decide) he11
  have hs14 := tf_keepC hF1 hqop rfl (by decide) he12
  have hs15 := tf_keepC hF1 hqar rfl (by decide) he13
  have hs16 := tf_keepC hF1 hqpi rfl (by decide) he14
  have hs17 := tf_keepC hF1 hqpa rfl (by decide) he15
  rcases hp1 with ⟨rfl, h18⟩ | ⟨rfl⟩
  · refine lv_istore_n (lv' := [(1, .int (Int32.ofInt 1)), (0, .ref a0)]) hx hb dX10_behindTest_7 rfl hl (by decide) rfl (fun ls hl => ?_)
    refine lv_iload_n hx hb dX10_behindTest_8 rfl (lv_at hl 0 rfl) ?_
    refine tf_if_ne (tgt := 22) hx hb ⟨by decide, by decide⟩ dX10_behindTest_9 (by decide) (fun h19 => ?_) (fun h19 => ?_)
    · refine lv_aload_n hx hb dX10_behindTest_22 rfl (lv_at hl 1 rfl) ?_
      refine lv_iload_n hx hb dX10_behindTest_23 rfl (lv_at hl 0 rfl) ?_
      refine tf_if_eq (tgt := 31) hx hb ⟨by decide, by decide⟩ dX10_behindTest_24 (by decide) (fun h20 => ?_) (fun h20 => ?_)
      · exfalso; omega
      · refine tf_iconst hx hb dX10_behindTest_27 ?_
        refine lv_goto (tgt := 32) hx hb dX10_behindTest_28 (by decide) ?_
        refine tf_callv (va_runV (As := [.int (Int32.ofInt 2)]) (rest := []) ⟨hx, hb, hml, hown, hts⟩ (c_X10_settle l g T a0 ha0 (2) ⟨by omega, by omega⟩ qop hqop qar hqar qpi hqpi qpa hqpa (gc) ⟨by omega, by omega⟩ (gp) ⟨by omega, by omega⟩ rop rar rpi rpa (by first | omega | assumption) (tf_PI_PB hq3 (by omega))) (cwV 1 hts gv_X10_291 rfl rfl rfl hd_X10_settle ⟨Nat.le_trans (by decide) hR1, Nat.le_trans (by decide) hR2⟩) (tf_preV hk hW ha0 (ci := 10) rfl rfl ⟨hs2, hs3, hs4, hs5, hs12, hs13, hs14, hs15, hs16, hs17⟩) rfl rfl hl.1 rfl (lv_room (Nat.le_of_ble_eq_true rfl)) dX10_behindTest_32 ⟨Nat.zero_le _, Nat.zero_le _⟩) hW (by decide) (fun HS locsS hW hFS hpS => ?_)
        have hs21 := tf_keepF hFS ha0 rfl rfl (by decide) hs2
        have hs22 := tf_keepF hFS ha0 rfl rfl (by decide) hs3
        have hs23 := tf_keepF hFS ha0 rfl rfl (by decide) hs4
        have hs24 := tf_keepF hFS ha0 rfl rfl (by decide) hs5
        have hs25 := tf_keepF hFS ha0 rfl rfl (by decide) hs6
        have hs26 := tf_keepF hFS ha0 rfl rfl (by decide) hs7
        have hs27 := tf_keepF hFS ha0 rfl rfl (by decide) hs8
        have hs28 := tf_keepF hFS ha0 rfl rfl (by decide) hs9
        have hs29 := tf_keepF hFS ha0 rfl rfl (by decide) hs10
        have hs30 := tf_keepF hFS ha0 rfl rfl (by decide) hs11
        have hs31 := tf_keepC hFS hqpi rfl (by decide) hs16
        have hs32 := tf_keepC hFS hqpa rfl (by decide) hs17
        obtain ⟨gc1_S, gp1_S, rop1_S, rar1_S, hXS_0, hXS_1, hXS_2, hXS_3, hBS_0, hBS_1, hRS_0, hRS_1, hRS_2, hRS_3, hRS_4, hRS_5⟩ := hpS
        refine lv_aload_n hx hb dX10_behindTest_35 rfl (lv_at hl 1 rfl) ?_
        refine lv_iload_n hx hb dX10_behindTest_36 rfl (lv_at hl 0 rfl) ?_
        refine tf_if_eq (tgt := 45) hx hb ⟨by decide, by decide⟩ dX10_behindTest_37 (by decide) (fun h33 => ?_) (fun h33 => ?_)
        · exfalso; omega
        · refine tf_bipush hx hb dX10_behindTest_40 (by decide) ?_
          refine lv_goto (tgt := 47) hx hb dX10_behindTest_42 (by decide) ?_
          refine lv_aload_n hx hb dX10_behindTest_47 rfl (lv_at hl 1 rfl) ?_
          refine tf_get hx hb hts inlX10 hown hK (ci := 10) rfl hW ha0 rfl 17 rfl (by decide) (hts _ fl_X10_239) dX10_behindTest_48 (fun v34 hv34 hsv34 => ?_)
          obtain rfl : v34 = .int (Int32.ofInt gc1_S) := Option.some.inj (hsv34.symm.trans hXS_0)
          refine tf_callv (va_runV (As := [.int (Int32.ofInt 28), .int (Int32.ofInt gc1_S)]) (rest := []) ⟨hx, hb, hml, hown, hts⟩ (c_X10_push l g T a0 ha0 (28) ⟨by omega, by omega⟩ (gc1_S) ⟨by omega, by omega⟩ qpi hqpi qpa hqpa (gp1_S) ⟨by omega, by omega⟩ rpi rpa) (cwV 2 hts gv_X10_265 rfl rfl rfl hd_X10_push ⟨Nat.le_trans (by decide) hR1, Nat.le_trans (by decide) hR2⟩) (tf_preV hk hW ha0 (ci := 10) rfl rfl ⟨hs23, hs24, hXS_1, hs31, hs32⟩) rfl rfl hl.1 rfl (lv_room (Nat.le_of_ble_eq_true rfl)) dX10_behindTest_51 ⟨Nat.zero_le _, Nat.zero_le _⟩) hW (by decide) (fun H35 locs35 hW hF35 hp35 => ?_)
          have hs36 := tf_keepF hF35 ha0 rfl rfl (by decide) hs21
          have hs37 := tf_keepF hF35 ha0 rfl rfl (by decide) hs22
          have hs38 := tf_keepF hF35 ha0 rfl rfl (by decide) hs23
          have hs39 := tf_keepF hF35 ha0 rfl rfl (by decide) hs24
          have hs40 := tf_keepF hF35 ha0 rfl rfl (by decide) hs25
          have hs41 := tf_keepF hF35 ha0 rfl rfl (by decide) hs26
          have hs42 := tf_keepF hF35 ha0 rfl rfl (by decide) hs27
          have hs43 := tf_keepF hF35 ha0 rfl rfl (by decide) hs28
          have hs44 := tf_keepF hF35 ha0 rfl rfl (by decide) hs29
          have hs45 := tf_keepF hF35 ha0 rfl rfl (by decide) hs30
          have hs46 := tf_keepF hF35 ha0 rfl rfl (by decide) hXS_0
          have hs47 := tf_keepC hF35 hqop rfl (by decide) hXS_2
          have hs48 := tf_keepC hF35 hqar rfl (by decide) hXS_3
          obtain ⟨ho35_0, ho35_1, ho35_2⟩ := hp35
          refine lv_aload_n hx hb dX10_behindTest_54 rfl (lv_at hl 1 rfl) ?_
          refine lv_iload_n hx hb dX10_behindTest_55 rfl (lv_at hl 0 rfl) ?_
          refine tf_if_eq (tgt := 64) hx hb ⟨by decide, by decide⟩ dX10_behindTest_56 (by decide) (fun h49 => ?_) (fun h49 => ?_)
          · exfalso; omega
          · refine tf_bipush hx hb dX10_behindTest_59 (by decide) ?_
            refine lv_goto (tgt := 66) hx hb dX10_behindTest_61 (by decide) ?_
            refine tf_iconst hx hb dX10_behindTest_66 ?_
            refine tf_callv (va_runV (As := [.int (Int32.ofInt 28), .int (Int32.ofInt 0)]) (rest := []) ⟨hx, hb, hml, hown, hts⟩ (c_X10_emit l g T a0 ha0 (28) ⟨by omega, by omega⟩ (0) ⟨by omega, by omega⟩ qop hqop qar hqar (gc1_S) ⟨by omega, by omega⟩ rop1_S rar1_S) (cwV 2 hts gv_X10_248 rfl rfl rfl hd_X10_emit ⟨Nat.le_trans (by decide) hR1, Nat.le_trans (by decide) hR2⟩) (tf_preV hk hW ha0 (ci := 10) rfl rfl ⟨hs36, hs37, hs46, hs47, hs48⟩) rfl rfl hl.1 rfl (lv_room (Nat.le_of_ble_eq_true rfl)) dX10_behindTest_67 ⟨Nat.zero_le _, Nat.zero_le _⟩) hW (by decide) (fun H50 locs50 hW hF50 hp50 => ?_)
            have hs51 := tf_keepF hF50 ha0 rfl rfl (by decide) hs36
            have hs52 := tf_keepF hF50 ha0 rfl rfl (by decide) hs37
            have hs53 := tf_keepF hF50 ha0 rfl rfl (by decide) hs38
            have hs54 := tf_keepF hF50 ha0 rfl rfl (by decide) hs39
            have hs55 := tf_keepF hF50 ha0 rfl rfl (by decide) hs40
            have hs56 := tf_keepF hF50 ha0 rfl rfl (by decide) hs41
            have hs57 := tf_keepF hF50 ha0 rfl rfl (by decide) hs42
            have hs58 := tf_keepF hF50 ha0 rfl rfl (by decide) hs43
            have hs59 := tf_keepF hF50 ha0 rfl rfl (by decide) hs44
            have hs60 := tf_keepF hF50 ha0 rfl rfl (by decide) hs45
            have hs61 := tf_keepF hF50 ha0 rfl rfl (by decide) ho35_0
            have hs62 := tf_keepC hF50 hqpi rfl (by decide) ho35_1
            have hs63 := tf_keepC hF50 hqpa rfl (by decide) ho35_2
            obtain ⟨ho50_0, ho50_1, ho50_2⟩ := hp50
            refine lv_aload_n hx hb dX10_behindTest_70 rfl (lv_at hl 1 rfl) ?_
            refine tf_callv (va_runV (As := []) (rest := []) ⟨hx, hb, hml, hown, hts⟩ (c_X10_next l g T a0 ha0 (gn) ⟨by omega, by omega⟩ (gt) ⟨by omega, by omega⟩ (by first | omega | assumption)) (cwV 0 hts gv_X10_204 rfl rfl rfl hd_X10_next ⟨Nat.le_trans (by decide) hR1, Nat.le_trans (by decide) hR2⟩) (tf_preV hk hW ha0 (ci := 10) rfl rfl ⟨hs55, hs57⟩) rfl rfl hl.1 rfl (lv_room (Nat.le_of_ble_eq_true rfl)) dX10_behindTest_71 ⟨Nat.zero_le _, Nat.zero_le _⟩) hW (by decide) (fun H64 locs64 hW hF64 hp64 => ?_)
            have hs65 := tf_keepF hF64 ha0 rfl rfl (by decide) hs51
            have hs66 := tf_keepF hF64 ha0 rfl rfl (by decide) hs52
            have hs67 := tf_keepF hF64 ha0 rfl rfl (by decide) hs53
            have hs68 := tf_keepF hF64 ha0 rfl rfl (by decide) hs54
            have hs69 := tf_keepF hF64 ha0 rfl rfl (by decide) hs55
            have hs70 := tf_keepF hF64 ha0 rfl rfl (by decide) hs60
            have hs71 := tf_keepF hF64 ha0 rfl rfl (by decide) hs61
            have hs72 := tf_keepC hF64 hqpi rfl (by decide) hs62
            have hs73 := tf_keepC hF64 hqpa rfl (by decide) hs63
            have hs74 := tf_keepF hF64 ha0 rfl rfl (by decide) ho50_0
            have hs75 := tf_keepC hF64 hqop rfl (by decide) ho50_1
            have hs76 := tf_keepC hF64 hqar rfl (by decide) ho50_2
            obtain ⟨gf1_64, gt1_64, gs1_64, gw1_64, hX64_0, hX64_1, hX64_2, hX64_3, hB64_0, hB64_1, hB64_2, hB64_3, hR64_0, hR64_1⟩ := hp64
            refine tf_iconst hx hb dX10_behindTest_74 ?_
            exact tf_reti (z := 0) hx hb hr hlocks hQ hW ⟨by omega, by omega, ⟨(gb), (gf1_64), (gt1_64), (gs1_64), (gw1_64), ((gc1_S + 1)), ((gp1_S + 1)), (tf_up (rop1_S) (gc1_S) (28)), (tf_up (rar1_S) (gc1_S) (0)), (tf_up (rpi) (gp1_S) (28)), (tf_up (rpa) (gp1_S) (gc1_S)), hs70, hX64_0, hX64_1, hX64_2, hX64_3, hs74, hs71, hs75, hs76, hs72, hs73, ⟨by omega, by omega⟩, ⟨by omega, by omega⟩, ⟨by omega, by omega⟩, ⟨by omega, by omega⟩, ⟨by omega, by omega⟩, ⟨by omega, by omega⟩, ⟨by omega, by omega⟩, (by first | omega | assumption), (by first | omega | assumption), (tf_PI_PB (tf_PI_and (hRS_5 o0 u0 fs hq3) (by omega) (by omega)) (by omega)), (Or.inr (tf_ST0 (tf_PI_and (hRS_5 o0 u0 fs hq3) (by omega) (by omega)) (tf_NS_push (tf_NS_mono hq4 (by omega)) (by omega)))), (by first | omega | assumption)⟩⟩ dX10_behindTest_75
    · exfalso; omega
  · refine lv_istore_n (lv' := [(1, .int (Int32.ofInt 0)), (0, .ref a0)]) hx hb dX10_behindTest_7 rfl hl (by decide) rfl (fun ls hl => ?_)
    refine lv_iload_n hx hb dX10_behindTest_8 rfl (lv_at hl 0 rfl) ?_
    refine tf_if_ne (tgt := 22) hx hb ⟨by decide, by decide⟩ dX10_behindTest_9 (by decide) (fun h77 => ?_) (fun h77 => ?_)
    · exfalso; omega
    · refine lv_aload_n hx hb dX10_behindTest_12 rfl (lv_at hl 1 rfl) ?_
      refine tf_ldc2 (z := 498) hx hb hown (hts _ kl_X10_303) (by decide) dX10_behindTest_13 ?_
      refine tf_calli (va_runV (As := [.long (Int64.ofInt 498)]) (rest := []) ⟨hx, hb, hml, hown, hts⟩ (c_X10_isWord l g T a0 ha0 (498) ⟨by omega, by omega⟩ (gs) ⟨by omega, by omega⟩ (gw) ⟨by omega, by omega⟩) (cwV 1 hts gv_X10_258 rfl rfl rfl hd_X10_isWord ⟨Nat.le_trans (by decide) hR1, Nat.le_trans (by decide) hR2⟩) (tf_preV hk hW ha0 (ci := 10) rfl rfl ⟨hs9, hs10⟩) rfl rfl hl.1 rfl (lv_room (Nat.le_of_ble_eq_true rfl)) dX10_behindTest_16 ⟨Nat.zero_le _, Nat.zero_le _⟩) hW (by decide) (fun z78 H78 locs78 hW hF78 hp78 => ?_)
      have hs79 := tf_keepF hF78 ha0 rfl rfl (by decide) hs2
      have hs80 := tf_keepF hF78 ha0 rfl rfl (by decide) hs3
      have hs81 := tf_keepF hF78 ha0 rfl rfl (by decide) hs4
      have hs82 := tf_keepF hF78 ha0 rfl rfl (by decide) hs5
      have hs83 := tf_keepF hF78 ha0 rfl rfl (by decide) hs6
      have hs84 := tf_keepF hF78 ha0 rfl rfl (by decide) hs7
      have hs85 := tf_keepF hF78 ha0 rfl rfl (by decide) hs8
      have hs86 := tf_keepF hF78 ha0 rfl rfl (by decide) hs9
      have hs87 := tf_keepF hF78 ha0 rfl rfl (by decide) hs10
      have hs88 := tf_keepF hF78 ha0 rfl rfl (by decide) hs11
      have hs89 := tf_keepF hF78 ha0 rfl rfl (by decide) hs12
      have hs90 := tf_keepF hF78 ha0 rfl rfl (by decide) hs13
      have hs91 := tf_keepC hF78 hqop rfl (by decide) hs14
      have hs92 := tf_keepC hF78 hqar rfl (by decide) hs15
      have hs93 := tf_keepC hF78 hqpi rfl (by decide) hs16
      have hs94 := tf_keepC hF78 hqpa rfl (by decide) hs17
      rcases hp78 with ⟨rfl, h95⟩ | ⟨rfl⟩
      · refine tf_if_eq (tgt := 76) hx hb ⟨by decide, by decide⟩ dX10_behindTest_19 (by decide) (fun h96 => ?_) (fun h96 => ?_)
        · exfalso; omega
        · refine lv_aload_n hx hb dX10_behindTest_22 rfl (lv_at hl 1 rfl) ?_
          refine lv_iload_n hx hb dX10_behindTest_23 rfl (lv_at hl 0 rfl) ?_
          refine tf_if_eq (tgt := 31) hx hb ⟨by decide, by decide⟩ dX10_behindTest_24 (by decide) (fun h97 => ?_) (fun h97 => ?_)
          · refine tf_iconst hx hb dX10_behindTest_31 ?_
            refine tf_callv (va_runV (As := [.int (Int32.ofInt 1)]) (rest := []) ⟨hx, hb, hml, hown, hts⟩ (c_X10_settle l g T a0 ha0 (1) ⟨by omega, by omega⟩ qop hqop qar hqar qpi hqpi qpa hqpa (gc) ⟨by omega, by omega⟩ (gp) ⟨by omega, by omega⟩ rop rar rpi rpa (by first | omega | assumption) (tf_PI_PB hq3 (by omega))) (cwV 1 hts gv_X10_291 rfl rfl rfl hd_X10_settle ⟨Nat.le_trans (by decide) hR1, Nat.le_trans (by decide) hR2⟩) (tf_preV hk hW ha0 (ci := 10) rfl rfl ⟨hs79, hs80, hs81, hs82, hs89, hs90, hs91, hs92, hs93, hs94⟩) rfl rfl hl.1 rfl (lv_room (Nat.le_of_ble_eq_true rfl)) dX10_behindTest_32 ⟨Nat.zero_le _, Nat.zero_le _⟩) hW (by decide) (fun HS locsS hW hFS hpS => ?_)
            have hs98 := tf_keepF hFS ha0 rfl rfl (by decide) hs79
            have hs99 := tf_keepF hFS ha0 rfl rfl (by decide) hs80
            have hs100 := tf_keepF hFS ha0 rfl rfl (by decide) hs81
            have hs101 := tf_keepF hFS ha0 rfl rfl (by decide) hs82
            have hs102 := tf_keepF hFS ha0 rfl rfl (by decide) hs83
            have hs103 := tf_keepF hFS ha0 rfl rfl (by decide) hs84
            have hs104 := tf_keepF hFS ha0 rfl rfl (by decide) hs85
            have hs105 := tf_keepF hFS ha0 rfl rfl (by decide) hs86
            have hs106 := tf_keepF hFS ha0 rfl rfl (by decide) hs87
            have hs107 := tf_keepF hFS ha0 rfl rfl (by decide) hs88
            have hs108 := tf_keepC hFS hqpi rfl (by decide) hs93
            have hs109 := tf_keepC hFS hqpa rfl (by decide) hs94
            obtain ⟨gc1_S, gp1_S, rop1_S, rar1_S, hXS_0, hXS_1, hXS_2, hXS_3, hBS_0, hBS_1, hRS_0, hRS_1, hRS_2, hRS_3, hRS_4, hRS_5⟩ := hpS
            refine lv_aload_n hx hb dX10_behindTest_35 rfl (lv_at hl 1 rfl) ?_
            refine lv_iload_n hx hb dX10_behindTest_36 rfl (lv_at hl 0 rfl) ?_
            refine tf_if_eq (tgt := 45) hx hb ⟨by decide, by decide⟩ dX10_behindTest_37 (by decide) (fun h110 => ?_) (fun h110 => ?_)
            · refine tf_bipush hx hb dX10_behindTest_45 (by decide) ?_
              refine lv_aload_n hx hb dX10_behindTest_47 rfl (lv_at hl 1 rfl) ?_
              refine tf_get hx hb hts inlX10 hown hK (ci := 10) rfl hW ha0 rfl 17 rfl (by decide) (hts _ fl_X10_239) dX10_behindTest_48 (fun v111 hv111 hsv111 => ?_)
              obtain rfl : v111 = .int (Int32.ofInt gc1_S) := Option.some.inj (hsv111.symm.trans hXS_0)
              refine tf_callv (va_runV (As := [.int (Int32.ofInt 29), .int (Int32.ofInt gc1_S)]) (rest := []) ⟨hx, hb, hml, hown, hts⟩ (c_X10_push l g T a0 ha0 (29) ⟨by omega, by omega⟩ (gc1_S) ⟨by omega, by omega⟩ qpi hqpi qpa hqpa (gp1_S) ⟨by omega, by omega⟩ rpi rpa) (cwV 2 hts gv_X10_265 rfl rfl rfl hd_X10_push ⟨Nat.le_trans (by decide) hR1, Nat.le_trans (by decide) hR2⟩) (tf_preV hk hW ha0 (ci := 10) rfl rfl ⟨hs100, hs101, hXS_1, hs108, hs109⟩) rfl rfl hl.1 rfl (lv_room (Nat.le_of_ble_eq_true rfl)) dX10_behindTest_51 ⟨Nat.zero_le _, Nat.zero_le _⟩) hW (by decide) (fun H112 locs112 hW hF112 hp112 => ?_)
              have hs113 := tf_keepF hF112 ha0 rfl rfl (by decide) hs98
              have hs114 := tf_keepF hF112 ha0 rfl rfl (by decide) hs99
              have hs115 := tf_keepF hF112 ha0 rfl rfl (by decide) hs100
              have hs116 := tf_keepF hF112 ha0 rfl rfl (by decide) hs101
              have hs117 := tf_keepF hF112 ha0 rfl rfl (by decide) hs102
              have hs118 := tf_keepF hF112 ha0 rfl rfl (by decide) hs103
              have hs119 := tf_keepF hF112 ha0 rfl rfl (by decide) hs104
              have hs120 := tf_keepF hF112 ha0 rfl rfl (by decide) hs105
              have hs121 := tf_keepF hF112 ha0 rfl rfl (by decide) hs106
              have hs122 := tf_keepF hF112 ha0 rfl rfl (by decide) hs107
              have hs123 := tf_keepF hF112 ha0 rfl rfl (by decide) hXS_0
              have hs124 := tf_keepC hF112 hqop rfl (by decide) hXS_2
              have hs125 := tf_keepC hF112 hqar rfl (by decide) hXS_3
              obtain ⟨ho112_0, ho112_1, ho112_2⟩ := hp112
              refine lv_aload_n hx hb dX10_behindTest_54 rfl (lv_at hl 1 rfl) ?_
              refine lv_iload_n hx hb dX10_behindTest_55 rfl (lv_at hl 0 rfl) ?_
              refine tf_if_eq (tgt := 64) hx hb ⟨by decide, by decide⟩ dX10_behindTest_56 (by decide) (fun h126 => ?_) (fun h126 => ?_)
              · refine tf_bipush hx hb dX10_behindTest_64 (by decide) ?_
                refine tf_iconst hx hb dX10_behindTest_66 ?_
                refine tf_callv (va_runV (As := [.int (Int32.ofInt 29), .int (Int32.ofInt 0)]) (rest := []) ⟨hx, hb, hml, hown, hts⟩ (c_X10_emit l g T a0 ha0 (29) ⟨by omega, by omega⟩ (0) ⟨by omega, by omega⟩ qop hqop qar hqar (gc1_S) ⟨by omega, by omega⟩ rop1_S rar1_S) (cwV 2 hts gv_X10_248 rfl rfl rfl hd_X10_emit ⟨Nat.le_trans (by decide) hR1, Nat.le_trans (by decide) hR2⟩) (tf_preV hk hW ha0 (ci := 10) rfl rfl ⟨hs113, hs114, hs123, hs124, hs125⟩) rfl rfl hl.1 rfl (lv_room (Nat.le_of_ble_eq_true rfl)) dX10_behindTest_67 ⟨Nat.zero_le _, Nat.zero_le _⟩) hW (by decide) (fun H127 locs127 hW hF127 hp127 => ?_)
                have hs128 := tf_keepF hF127 ha0 rfl rfl (by decide) hs113
                have hs129 := tf_keepF hF127 ha0 rfl rfl (by decide) hs114
                have hs130 := tf_keepF hF127 ha0 rfl rfl (by decide) hs115
                have hs131 := tf_keepF hF127 ha0 rfl rfl (by decide) hs116
                have hs132 := tf_keepF hF127 ha0 rfl rfl (by decide) hs117
                have hs133 := tf_keepF hF127 ha0 rfl rfl (by decide) hs118
                have hs134 := tf_keepF hF127 ha0 rfl rfl (by decide) hs119
                have hs135 := tf_keepF hF127 ha0 rfl rfl (by decide) hs120
                have hs136 := tf_keepF hF127 ha0 rfl rfl (by decide) hs121
                have hs137 := tf_keepF hF127 ha0 rfl rfl (by decide) hs122
                have hs138 := tf_keepF hF127 ha0 rfl rfl (by decide) ho112_0
                have hs139 := tf_keepC hF127 hqpi rfl (by decide) ho112_1
                have hs140 := tf_keepC hF127 hqpa rfl (by decide) ho112_2
                obtain ⟨ho127_0, ho127_1, ho127_2⟩ := hp127
                refine lv_aload_n hx hb dX10_behindTest_70 rfl (lv_at hl 1 rfl) ?_
                refine tf_callv (va_runV (As := []) (rest := []) ⟨hx, hb, hml, hown, hts⟩ (c_X10_next l g T a0 ha0 (gn) ⟨by omega, by omega⟩ (gt) ⟨by omega, by omega⟩ (by first | omega | assumption)) (cwV 0 hts gv_X10_204 rfl rfl rfl hd_X10_next ⟨Nat.le_trans (by decide) hR1, Nat.le_trans (by decide) hR2⟩) (tf_preV hk hW ha0 (ci := 10) rfl rfl ⟨hs132, hs134⟩) rfl rfl hl.1 rfl (lv_room (Nat.le_of_ble_eq_true rfl)) dX10_behindTest_71 ⟨Nat.zero_le _, Nat.zero_le _⟩) hW (by decide) (fun H141 locs141 hW hF141 hp141 => ?_)
                have hs142 := tf_keepF hF141 ha0 rfl rfl (by decide) hs128
                have hs143 := tf_keepF hF141 ha0 rfl rfl (by decide) hs129
                have hs144 := tf_keepF hF141 ha0 rfl rfl (by decide) hs130
                have hs145 := tf_keepF hF141 ha0 rfl rfl (by decide) hs131
                have hs146 := tf_keepF hF141 ha0 rfl rfl (by decide) hs132
                have hs147 := tf_keepF hF141 ha0 rfl rfl (by decide) hs137
                have hs148 := tf_keepF hF141 ha0 rfl rfl (by decide) hs138
                have hs149 := tf_keepC hF141 hqpi rfl (by decide) hs139
                have hs150 := tf_keepC hF141 hqpa rfl (by decide) hs140
                have hs151 := tf_keepF hF141 ha0 rfl rfl (by decide) ho127_0
                have hs152 := tf_keepC hF141 hqop rfl (by decide) ho127_1
                have hs153 := tf_keepC hF141 hqar rfl (by decide) ho127_2
                obtain ⟨gf1_141, gt1_141, gs1_141, gw1_141, hX141_0, hX141_1, hX141_2, hX141_3, hB141_0, hB141_1, hB141_2, hB141_3, hR141_0, hR141_1⟩ := hp141
                refine tf_iconst hx hb dX10_behindTest_74 ?_
                exact tf_reti (z := 0) hx hb hr hlocks hQ hW ⟨by omega, by omega, ⟨(gb), (gf1_141), (gt1_141), (gs1_141), (gw1_141), ((gc1_S + 1)), ((gp1_S + 1)), (tf_up (rop1_S) (gc1_S) (29)), (tf_up (rar1_S) (gc1_S) (0)), (tf_up (rpi) (gp1_S) (29)), (tf_up (rpa) (gp1_S) (gc1_S)), hs147, hX141_0, hX141_1, hX141_2, hX141_3, hs151, hs148, hs152, hs153, hs149, hs150, ⟨by omega, by omega⟩, ⟨by omega, by omega⟩, ⟨by omega, by omega⟩, ⟨by omega, by omega⟩, ⟨by omega, by omega⟩, ⟨by omega, by omega⟩, ⟨by omega, by omega⟩, (by first | omega | assumption), (by first | omega | assumption), (tf_PI_PB (tf_PI_and (hRS_5 o0 u0 fs hq3) (by omega) (by omega)) (by omega)), (Or.inr (tf_ST0 (tf_PI_and (hRS_5 o0 u0 fs hq3) (by omega) (by omega)) (tf_NS_push (tf_NS_mono hq4 (by omega)) (by omega)))), (by first | omega | assumption)⟩⟩ dX10_behindTest_75
              · exfalso; omega
            · exfalso; omega
          · exfalso; omega
      · refine tf_if_eq (tgt := 76) hx hb ⟨by decide, by decide⟩ dX10_behindTest_19 (by decide) (fun h154 => ?_) (fun h154 => ?_)
        · refine lv_aload_n hx hb dX10_behindTest_76 rfl (lv_at hl 1 rfl) ?_
          refine tf_calli (va_runV (As := []) (rest := []) ⟨hx, hb, hml, hown, hts⟩ (c_X10_inner l g T a0 ha0 qpi hqpi (gp) ⟨by omega, by omega⟩ rpi) (cwV 0 hts gv_X10_294 rfl rfl rfl hd_X10_inner ⟨Nat.le_trans (by decide) hR1, Nat.le_trans (by decide) hR2⟩) (tf_preV hk hW ha0 (ci := 10) rfl rfl ⟨hs81, hs90, hs93⟩) rfl rfl hl.1 rfl (lv_room (Nat.le_of_ble_eq_true rfl)) dX10_behindTest_77 ⟨Nat.zero_le _, Nat.zero_le _⟩) hW (by decide) (fun zI HI locsI hW hFI hpI => ?_)
          have hs155 := tf_keepF hFI ha0 rfl rfl (by decide) hs79
          have hs156 := tf_keepF hFI ha0 rfl rfl (by decide) hs80
          have hs157 := tf_keepF hFI ha0 rfl rfl (by decide) hs81
          have hs158 := tf_keepF hFI ha0 rfl rfl (by decide) hs82
          have hs159 := tf_keepF hFI ha0 rfl rfl (by decide) hs83
          have hs160 := tf_keepF hFI ha0 rfl rfl (by decide) hs84
          have hs161 := tf_keepF hFI ha0 rfl rfl (by decide) hs85
          have hs162 := tf_keepF hFI ha0 rfl rfl (by decide) hs86
          have hs163 := tf_keepF hFI ha0 rfl rfl (by decide) hs87
          have hs164 := tf_keepF hFI ha0 rfl rfl (by decide) hs88
          have hs165 := tf_keepF hFI ha0 rfl rfl (by decide) hs89
          have hs166 := tf_keepF hFI ha0 rfl rfl (by decide) hs90
          have hs167 := tf_keepC hFI hqop rfl (by decide) hs91
          have hs168 := tf_keepC hFI hqar rfl (by decide) hs92
          have hs169 := tf_keepC hFI hqpi rfl (by decide) hs93
          have hs170 := tf_keepC hFI hqpa rfl (by decide) hs94
          obtain ⟨hpI_0, hpI_1, hpI_2⟩ := hpI
          refine tf_iconst hx hb dX10_behindTest_80 ?_
          refine tf_icmp_ne (tgt := 86) hx hb ⟨by omega, by omega⟩ ⟨by decide, by decide⟩ dX10_behindTest_81 (by decide) (fun h171 => ?_) (fun h171 => ?_)
          · refine lv_aload_n hx hb dX10_behindTest_86 rfl (lv_at hl 1 rfl) ?_
            refine lv_aload_n hx hb dX10_behindTest_87 rfl (lv_at hl 1 rfl) ?_
            refine tf_bipush hx hb dX10_behindTest_88 (by decide) ?_
            refine tf_calli (va_runV (As := [.int (Int32.ofInt 41)]) (rest := [.ref a0]) ⟨hx, hb, hml, hown, hts⟩ (c_X10_isSign l g T a0 ha0 (41) ⟨by omega, by omega⟩ (gs) ⟨by omega, by omega⟩ (gw) ⟨by omega, by omega⟩) (cwV 1 hts gv_X10_271 rfl rfl rfl hd_X10_isSign ⟨Nat.le_trans (by decide) hR1, Nat.le_trans (by decide) hR2⟩) (tf_preV hk hW ha0 (ci := 10) rfl rfl ⟨hs162, hs163⟩) rfl rfl hl.1 rfl (lv_room (Nat.le_of_ble_eq_true rfl)) dX10_behindTest_90 ⟨Nat.zero_le _, Nat.zero_le _⟩) hW (by decide) (fun z172 H172 locs172 hW hF172 hp172 => ?_)
            have hs173 := tf_keepF hF172 ha0 rfl rfl (by decide) hs155
            have hs174 := tf_keepF hF172 ha0 rfl rfl (by decide) hs156
            have hs175 := tf_keepF hF172 ha0 rfl rfl (by decide) hs157
            have hs176 := tf_keepF hF172 ha0 rfl rfl (by decide) hs158
            have hs177 := tf_keepF hF172 ha0 rfl rfl (by decide) hs159
            have hs178 := tf_keepF hF172 ha0 rfl rfl (by decide) hs160
            have hs179 := tf_keepF hF172 ha0 rfl rfl (by decide) hs161
            have hs180 := tf_keepF hF172 ha0 rfl rfl (by decide) hs162
            have hs181 := tf_keepF hF172 ha0 rfl rfl (by decide) hs163
            have hs182 := tf_keepF hF172 ha0 rfl rfl (by decide) hs164
            have hs183 := tf_keepF hF172 ha0 rfl rfl (by decide) hs165
            have hs184 := tf_keepF hF172 ha0 rfl rfl (by decide) hs166
            have hs185 := tf_keepC hF172 hqop rfl (by decide) hs167
            have hs186 := tf_keepC hF172 hqar rfl (by decide) hs168
            have hs187 := tf_keepC hF172 hqpi rfl (by decide) hs169
            have hs188 := tf_keepC hF172 hqpa rfl (by decide) hs170
            rcases hp172 with ⟨rfl, h189⟩ | ⟨rfl⟩
            · refine tf_callv (va_runV (As := [.int (Int32.ofInt 1)]) (rest := []) ⟨hx, hb, hml, hown, hts⟩ (c_X10_must l g T a0 ha0 (1) ⟨by omega, by omega⟩ (gn) ⟨by omega, by omega⟩ (gf) ⟨by omega, by omega⟩ (gt) ⟨by omega, by omega⟩ (gs) ⟨by omega, by omega⟩ (gw) ⟨by omega, by omega⟩ (gb) ⟨by omega, by omega⟩ (by first | omega | assumption)) (cwV 1 hts gv_X10_235 rfl rfl rfl hd_X10_must ⟨Nat.le_trans (by decide) hR1, Nat.le_trans (by decide) hR2⟩) (tf_preV hk hW ha0 (ci := 10) rfl rfl ⟨hs177, hs178, hs179, hs180, hs181, hs182⟩) rfl rfl hl.1 rfl (lv_room (Nat.le_of_ble_eq_true rfl)) dX10_behindTest_93 ⟨Nat.zero_le _, Nat.zero_le _⟩) hW (by decide) (fun HU locsU hW hFU hpU => ?_)
              have hs190 := tf_keepF hFU ha0 rfl rfl (by decide) hs173
              have hs191 := tf_keepF hFU ha0 rfl rfl (by decide) hs174
              have hs192 := tf_keepF hFU ha0 rfl rfl (by decide) hs175
              have hs193 := tf_keepF hFU ha0 rfl rfl (by decide) hs176
              have hs194 := tf_keepF hFU ha0 rfl rfl (by decide) hs177
              have hs195 := tf_keepF hFU ha0 rfl rfl (by decide) hs183
              have hs196 := tf_keepF hFU ha0 rfl rfl (by decide) hs184
              have hs197 := tf_keepC hFU hqop rfl (by decide) hs185
              have hs198 := tf_keepC hFU hqar rfl (by decide) hs186
              have hs199 := tf_keepC hFU hqpi rfl (by decide) hs187
              have hs200 := tf_keepC hFU hqpa rfl (by decide) hs188
              obtain ⟨gb1_U, gf1_U, gt1_U, gs1_U, gw1_U, hXU_0, hXU_1, hXU_2, hXU_3, hXU_4, hBU_0, hBU_1, hBU_2, hBU_3, hBU_4, hRU_0⟩ := hpU
              refine lv_aload_n hx hb dX10_behindTest_96 rfl (lv_at hl 1 rfl) ?_
              refine tf_get hx hb hts inlX10 hown hK (ci := 10) rfl hW ha0 rfl 14 rfl (by decide) (hts _ fl_X10_200) dX10_behindTest_97 (fun v201 hv201 hsv201 => ?_)
              obtain rfl : v201 = .int (Int32.ofInt gb1_U) := Option.some.inj (hsv201.symm.trans hXU_0)
              refine tf_if_ne (tgt := 128) hx hb ⟨by omega, by omega⟩ dX10_behindTest_100 (by decide) (fun h202 => ?_) (fun h202 => ?_)
              · refine tf_iconst hx hb dX10_behindTest_128 ?_
                exact tf_reti (z := 2) hx hb hr hlocks hQ hW ⟨by omega, by omega, ⟨(gb1_U), (gf1_U), (gt1_U), (gs1_U), (gw1_U), (gc), (gp), rop, rar, rpi, rpa, hXU_0, hXU_1, hXU_2, hXU_3, hXU_4, hs195, hs196, hs197, hs198, hs199, hs200, ⟨by omega, by omega⟩, ⟨by omega, by omega⟩, ⟨by omega, by omega⟩, ⟨by omega, by omega⟩, ⟨by omega, by omega⟩, ⟨by omega, by omega⟩, ⟨by omega, by omega⟩, (by first | omega | assumption), (by first | omega | assumption), (by first | exact tf_PI_PB (tf_PI_close (hRS_5 o0 u0 fs hq3) rfl h31.1 h31.2) (by omega) | exact tf_PI_PB hq3 (by omega)), (by first | exact Or.inr (tf_ST2 (tf_PI_close (hRS_5 o0 u0 fs hq3) rfl h31.1 h31.2) (tf_NS_mono hq4 (by omega))) | exact Or.inl (by omega)), (by first | omega | assumption)⟩⟩ dX10_behindTest_129
              · refine lv_aload_n hx hb dX10_behindTest_103 rfl (lv_at hl 1 rfl) ?_
                refine tf_iconst hx hb dX10_behindTest_104 ?_
                refine tf_callv (va_runV (As := [.int (Int32.ofInt 1)]) (rest := []) ⟨hx, hb, hml, hown, hts⟩ (c_X10_settle l g T a0 ha0 (1) ⟨by omega, by omega⟩ qop hqop qar hqar qpi hqpi qpa hqpa (gc) ⟨by omega, by omega⟩ (gp) ⟨by omega, by omega⟩ rop rar rpi rpa (by first | omega | assumption) (tf_PI_PB hq3 (by omega))) (cwV 1 hts gv_X10_291 rfl rfl rfl hd_X10_settle ⟨Nat.le_trans (by decide) hR1, Nat.le_trans (by decide) hR2⟩) (tf_preV hk hW ha0 (ci := 10) rfl rfl ⟨hs190, hs191, hs192, hs193, hs195, hs196, hs197, hs198, hs199, hs200⟩) rfl rfl hl.1 rfl (lv_room (Nat.le_of_ble_eq_true rfl)) dX10_behindTest_105 ⟨Nat.zero_le _, Nat.zero_le _⟩) hW (by decide) (fun HS locsS hW hFS hpS => ?_)
                have hs203 := tf_keepF hFS ha0 rfl rfl (by decide) hs190
                have hs204 := tf_keepF hFS ha0 rfl rfl (by decide) hs191
                have hs205 := tf_keepF hFS ha0 rfl rfl (by decide) hs192
                have hs206 := tf_keepF hFS ha0 rfl rfl (by decide) hs193
                have hs207 := tf_keepF hFS ha0 rfl rfl (by decide) hs194
                have hs208 := tf_keepC hFS hqpi rfl (by decide) hs199
                have hs209 := tf_keepC hFS hqpa rfl (by decide) hs200
                have hs210 := tf_keepF hFS ha0 rfl rfl (by decide) hXU_0
                have hs211 := tf_keepF hFS ha0 rfl rfl (by decide) hXU_1
                have hs212 := tf_keepF hFS ha0 rfl rfl (by decide) hXU_2
                have hs213 := tf_keepF hFS ha0 rfl rfl (by decide) hXU_3
                have hs214 := tf_keepF hFS ha0 rfl rfl (by decide) hXU_4
                obtain ⟨gc1_S, gp1_S, rop1_S, rar1_S, hXS_0, hXS_1, hXS_2, hXS_3, hBS_0, hBS_1, hRS_0, hRS_1, hRS_2, hRS_3, hRS_4, hRS_5⟩ := hpS
                refine lv_aload_n hx hb dX10_behindTest_108 rfl (lv_at hl 1 rfl) ?_
                refine lv_dup hx hb dX10_behindTest_109 rfl ?_
                refine tf_get hx hb hts inlX10 hown hK (ci := 10) rfl hW ha0 rfl 23 rfl (by decide) (hts _ fl_X10_242) dX10_behindTest_110 (fun v215 hv215 hsv215 => ?_)
                obtain rfl : v215 = .int (Int32.ofInt gp1_S) := Option.some.inj (hsv215.symm.trans hXS_1)
                refine tf_iconst hx hb dX10_behindTest_113 ?_
                refine tf_isub hx hb dX10_behindTest_114 ?_
                have h31 := tf_inn_30 hpI_2 (by omega) (by omega) (by omega) hRS_4 (by omega)
                refine tf_put hx hb hts inlX10 tyX10 tyX10_ok nmX10 hown hK (ci := 10) rfl hW ha0 rfl rfl 23 rfl (by decide) (by decide) (hts _ fl_X10_242) rfl (tf_u0 (by omega) (by omega)) rfl rfl dX10_behindTest_115 (fun H216 locs216 hW hs216 ht216 hq216 => ?_)
                have hs217 := (ht216 18 (by decide) (by decide)).trans hs203
                have hs218 := (ht216 19 (by decide) (by decide)).trans hs204
                have hs219 := (ht216 21 (by decide) (by decide)).trans hs205
                have hs220 := (ht216 22 (by decide) (by decide)).trans hs206
                have hs221 := (ht216 8 (by decide) (by decide)).trans hs207
                have hs222 := tf_keepCQ hs208 (hq216 _ (tf_ne hqpi ha0 (by decide)))
                have hs223 := tf_keepCQ hs209 (hq216 _ (tf_ne hqpa ha0 (by decide)))
                have hs224 := (ht216 14 (by decide) (by decide)).trans hs210
                have hs225 := (ht216 9 (by decide) (by decide)).trans hs211
                have hs226 := (ht216 10 (by decide) (by decide)).trans hs212
                have hs227 := (ht216 11 (by decide) (by decide)).trans hs213
                have hs228 := (ht216 12 (by decide) (by decide)).trans hs214
                have hs229 := (ht216 17 (by decide) (by decide)).trans hXS_0
                have hs230 := tf_keepCQ hXS_2 (hq216 _ (tf_ne hqop ha0 (by decide)))
                have hs231 := tf_keepCQ hXS_3 (hq216 _ (tf_ne hqar ha0 (by decide)))
                refine lv_aload_n hx hb dX10_behindTest_118 rfl (lv_at hl 1 rfl) ?_
                refine lv_dup hx hb dX10_behindTest_119 rfl ?_
                refine tf_get hx hb hts inlX10 hown hK (ci := 10) rfl hW ha0 rfl 24 rfl (by decide) (hts _ fl_X10_262) dX10_behindTest_120 (fun v232 hv232 hsv232 => ?_)
                obtain ⟨z233, rfl, hz233⟩ := tf_v0 hv232
                refine tf_iconst hx hb dX10_behindTest_123 ?_
                refine tf_isub_any hx hb dX10_behindTest_124 (fun z234 hz234 => ?_)
                refine tf_put hx hb hts inlX10 tyX10 tyX10_ok nmX10 hown hK (ci := 10) rfl hW ha0 rfl rfl 24 rfl (by decide) (by decide) (hts _ fl_X10_262) rfl (tf_u0 (by omega) (by omega)) rfl rfl dX10_behindTest_125 (fun H235 locs235 hW hs235 ht235 hq235 => ?_)
                have hs236 := (ht235 18 (by decide) (by decide)).trans hs217
                have hs237 := (ht235 19 (by decide) (by decide)).trans hs218
                have hs238 := (ht235 21 (by decide) (by decide)).trans hs219
                have hs239 := (ht235 22 (by decide) (by decide)).trans hs220
                have hs240 := (ht235 8 (by decide) (by decide)).trans hs221
                have hs241 := tf_keepCQ hs222 (hq235 _ (tf_ne hqpi ha0 (by decide)))
                have hs242 := tf_keepCQ hs223 (hq235 _ (tf_ne hqpa ha0 (by decide)))
                have hs243 := (ht235 14 (by decide) (by decide)).trans hs224
                have hs244 := (ht235 9 (by decide) (by decide)).trans hs225
                have hs245 := (ht235 10 (by decide) (by decide)).trans hs226
                have hs246 := (ht235 11 (by decide) (by decide)).trans hs227
                have hs247 := (ht235 12 (by decide) (by decide)).trans hs228
                have hs248 := (ht235 17 (by decide) (by decide)).trans hs229
                have hs249 := tf_keepCQ hs230 (hq235 _ (tf_ne hqop ha0 (by decide)))
                have hs250 := tf_keepCQ hs231 (hq235 _ (tf_ne hqar ha0 (by decide)))
                have hs251 := (ht235 23 (by decide) (by decide)).trans hs216
                refine tf_iconst hx hb dX10_behindTest_128 ?_
                exact tf_reti (z := 2) hx hb hr hlocks hQ hW ⟨by omega, by omega, ⟨(gb1_U), (gf1_U), (gt1_U), (gs1_U), (gw1_U), (gc1_S), ((gp1_S - 1)), rop1_S, rar1_S, rpi, rpa, hs243, hs244, hs245, hs246, hs247, hs248, hs251, hs249, hs250, hs241, hs242, ⟨by omega, by omega⟩, ⟨by omega, by omega⟩, ⟨by omega, by omega⟩, ⟨by omega, by omega⟩, ⟨by omega, by omega⟩, ⟨by omega, by omega⟩, ⟨by omega, by omega⟩, (by first | omega | assumption), (by first | omega | assumption), (by first | exact tf_PI_PB (tf_PI_close (hRS_5 o0 u0 fs hq3) rfl h31.1 h31.2) (by omega) | exact tf_PI_PB hq3 (by omega)), (by first | exact Or.inr (tf_ST2 (tf_PI_close (hRS_5 o0 u0 fs hq3) rfl h31.1 h31.2) (tf_NS_mono hq4 (by omega))) | exact Or.inl (by omega)), (by first | omega | assumption)⟩⟩ dX10_behindTest_129
            · refine tf_callv (va_runV (As := [.int (Int32.ofInt 0)]) (rest := []) ⟨hx, hb, hml, hown, hts⟩ (c_X10_must l g T a0 ha0 (0) ⟨by omega, by omega⟩ (gn) ⟨by omega, by omega⟩ (gf) ⟨by omega, by omega⟩ (gt) ⟨by omega, by omega⟩ (gs) ⟨by omega, by omega⟩ (gw) ⟨by omega, by omega⟩ (gb) ⟨by omega, by omega⟩ (by first | omega | assumption)) (cwV 1 hts gv_X10_235 rfl rfl rfl hd_X10_must ⟨Nat.le_trans (by decide) hR1, Nat.le_trans (by decide) hR2⟩) (tf_preV hk hW ha0 (ci := 10) rfl rfl ⟨hs177, hs178, hs179, hs180, hs181, hs182⟩) rfl rfl hl.1 rfl (lv_room (Nat.le_of_ble_eq_true rfl)) dX10_behindTest_93 ⟨Nat.zero_le _, Nat.zero_le _⟩) hW (by decide) (fun HU locsU hW hFU hpU => ?_)
              have hs252 := tf_keepF hFU ha0 rfl rfl (by decide) hs173
              have hs253 := tf_keepF hFU ha0 rfl rfl (by decide) hs174
              have hs254 := tf_keepF hFU ha0 rfl rfl (by decide) hs175
              have hs255 := tf_keepF hFU ha0 rfl rfl (by decide) hs176
              have hs256 := tf_keepF hFU ha0 rfl rfl (by decide) hs177
              have hs257 := tf_keepF hFU ha0 rfl rfl (by decide) hs183
              have hs258 := tf_keepF hFU ha0 rfl rfl (by decide) hs184
              have hs259 := tf_keepC hFU hqop rfl (by decide) hs185
              have hs260 := tf_keepC hFU hqar rfl (by decide) hs186
              have hs261 := tf_keepC hFU hqpi rfl (by decide) hs187
              have hs262 := tf_keepC hFU hqpa rfl (by decide) hs188
              obtain ⟨gb1_U, gf1_U, gt1_U, gs1_U, gw1_U, hXU_0, hXU_1, hXU_2, hXU_3, hXU_4, hBU_0, hBU_1, hBU_2, hBU_3, hBU_4, hRU_0⟩ := hpU
              refine lv_aload_n hx hb dX10_behindTest_96 rfl (lv_at hl 1 rfl) ?_
              refine tf_get hx hb hts inlX10 hown hK (ci := 10) rfl hW ha0 rfl 14 rfl (by decide) (hts _ fl_X10_200) dX10_behindTest_97 (fun v263 hv263 hsv263 => ?_)
              obtain rfl : v263 = .int (Int32.ofInt gb1_U) := Option.some.inj (hsv263.symm.trans hXU_0)
              refine tf_if_ne (tgt := 128) hx hb ⟨by omega, by omega⟩ dX10_behindTest_100 (by decide) (fun h264 => ?_) (fun h264 => ?_)
              · refine tf_iconst hx hb dX10_behindTest_128 ?_
                exact tf_reti (z := 2) hx hb hr hlocks hQ hW ⟨by omega, by omega, ⟨(gb1_U), (gf1_U), (gt1_U), (gs1_U), (gw1_U), (gc), (gp), rop, rar, rpi, rpa, hXU_0, hXU_1, hXU_2, hXU_3, hXU_4, hs257, hs258, hs259, hs260, hs261, hs262, ⟨by omega, by omega⟩, ⟨by omega, by omega⟩, ⟨by omega, by omega⟩, ⟨by omega, by omega⟩, ⟨by omega, by omega⟩, ⟨by omega, by omega⟩, ⟨by omega, by omega⟩, (by first | omega | assumption), (by first | omega | assumption), (by first | exact tf_PI_PB (tf_PI_close (hRS_5 o0 u0 fs hq3) rfl h31.1 h31.2) (by omega) | exact tf_PI_PB hq3 (by omega)), (by first | exact Or.inr (tf_ST2 (tf_PI_close (hRS_5 o0 u0 fs hq3) rfl h31.1 h31.2) (tf_NS_mono hq4 (by omega))) | exact Or.inl (by omega)), (by first | omega | assumption)⟩⟩ dX10_behindTest_129
              · refine lv_aload_n hx hb dX10_behindTest_103 rfl (lv_at hl 1 rfl) ?_
                refine tf_iconst hx hb dX10_behindTest_104 ?_
                refine tf_callv (va_runV (As := [.int (Int32.ofInt 1)]) (rest := []) ⟨hx, hb, hml, hown, hts⟩ (c_X10_settle l g T a0 ha0 (1) ⟨by omega, by omega⟩ qop hqop qar hqar qpi hqpi qpa hqpa (gc) ⟨by omega, by omega⟩ (gp) ⟨by omega, by omega⟩ rop rar rpi rpa (by first | omega | assumption) (tf_PI_PB hq3 (by omega))) (cwV 1 hts gv_X10_291 rfl rfl rfl hd_X10_settle ⟨Nat.le_trans (by decide) hR1, Nat.le_trans (by decide) hR2⟩) (tf_preV hk hW ha0 (ci := 10) rfl rfl ⟨hs252, hs253, hs254, hs255, hs257, hs258, hs259, hs260, hs261, hs262⟩) rfl rfl hl.1 rfl (lv_room (Nat.le_of_ble_eq_true rfl)) dX10_behindTest_105 ⟨Nat.zero_le _, Nat.zero_le _⟩) hW (by decide) (fun HS locsS hW hFS hpS => ?_)
                have hs265 := tf_keepF hFS ha0 rfl rfl (by decide) hs252
                have hs266 := tf_keepF hFS ha0 rfl rfl (by decide) hs253
                have hs267 := tf_keepF hFS ha0 rfl rfl (by decide) hs254
                have hs268 := tf_keepF hFS ha0 rfl rfl (by decide) hs255
                have hs269 := tf_keepF hFS ha0 rfl rfl (by decide) hs256
                have hs270 := tf_keepC hFS hqpi rfl (by decide) hs261
                have hs271 := tf_keepC hFS hqpa rfl (by decide) hs262
                have hs272 := tf_keepF hFS ha0 rfl rfl (by decide) hXU_0
                have hs273 := tf_keepF hFS ha0 rfl rfl (by decide) hXU_1
                have hs274 := tf_keepF hFS ha0 rfl rfl (by decide) hXU_2
                have hs275 := tf_keepF hFS ha0 rfl rfl (by decide) hXU_3
                have hs276 := tf_keepF hFS ha0 rfl rfl (by decide) hXU_4
                obtain ⟨gc1_S, gp1_S, rop1_S, rar1_S, hXS_0, hXS_1, hXS_2, hXS_3, hBS_0, hBS_1, hRS_0, hRS_1, hRS_2, hRS_3, hRS_4, hRS_5⟩ := hpS
                refine lv_aload_n hx hb dX10_behindTest_108 rfl (lv_at hl 1 rfl) ?_
                refine lv_dup hx hb dX10_behindTest_109 rfl ?_
                refine tf_get hx hb hts inlX10 hown hK (ci := 10) rfl hW ha0 rfl 23 rfl (by decide) (hts _ fl_X10_242) dX10_behindTest_110 (fun v277 hv277 hsv277 => ?_)
                obtain rfl : v277 = .int (Int32.ofInt gp1_S) := Option.some.inj (hsv277.symm.trans hXS_1)
                refine tf_iconst hx hb dX10_behindTest_113 ?_
                refine tf_isub hx hb dX10_behindTest_114 ?_
                have h31 := tf_inn_30 hpI_2 (by omega) (by omega) (by omega) hRS_4 (by omega)
                refine tf_put hx hb hts inlX10 tyX10 tyX10_ok nmX10 hown hK (ci := 10) rfl hW ha0 rfl rfl 23 rfl (by decide) (by decide) (hts _ fl_X10_242) rfl (tf_u0 (by omega) (by omega)) rfl rfl dX10_behindTest_115 (fun H278 locs278 hW hs278 ht278 hq278 => ?_)
                have hs279 := (ht278 18 (by decide) (by decide)).trans hs265
                have hs280 := (ht278 19 (by decide) (by decide)).trans hs266
                have hs281 := (ht278 21 (by decide) (by decide)).trans hs267
                have hs282 := (ht278 22 (by decide) (by decide)).trans hs268
                have hs283 := (ht278 8 (by decide) (by decide)).trans hs269
                have hs284 := tf_keepCQ hs270 (hq278 _ (tf_ne hqpi ha0 (by decide)))
                have hs285 := tf_keepCQ hs271 (hq278 _ (tf_ne hqpa ha0 (by decide)))
                have hs286 := (ht278 14 (by decide) (by decide)).trans hs272
                have hs287 := (ht278 9 (by decide) (by decide)).trans hs273
                have hs288 := (ht278 10 (by decide) (by decide)).trans hs274
                have hs289 := (ht278 11 (by decide) (by decide)).trans hs275
                have hs290 := (ht278 12 (by decide) (by decide)).trans hs276
                have hs291 := (ht278 17 (by decide) (by decide)).trans hXS_0
                have hs292 := tf_keepCQ hXS_2 (hq278 _ (tf_ne hqop ha0 (by decide)))
                have hs293 := tf_keepCQ hXS_3 (hq278 _ (tf_ne hqar ha0 (by decide)))
                refine lv_aload_n hx hb dX10_behindTest_118 rfl (lv_at hl 1 rfl) ?_
                refine lv_dup hx hb dX10_behindTest_119 rfl ?_
                refine tf_get hx hb hts inlX10 hown hK (ci := 10) rfl hW ha0 rfl 24 rfl (by decide) (hts _ fl_X10_262) dX10_behindTest_120 (fun v294 hv294 hsv294 => ?_)
                obtain ⟨z295, rfl, hz295⟩ := tf_v0 hv294
                refine tf_iconst hx hb dX10_behindTest_123 ?_
                refine tf_isub_any hx hb dX10_behindTest_124 (fun z296 hz296 => ?_)
                refine tf_put hx hb hts inlX10 tyX10 tyX10_ok nmX10 hown hK (ci := 10) rfl hW ha0 rfl rfl 24 rfl (by decide) (by decide) (hts _ fl_X10_262) rfl (tf_u0 (by omega) (by omega)) rfl rfl dX10_behindTest_125 (fun H297 locs297 hW hs297 ht297 hq297 => ?_)
                have hs298 := (ht297 18 (by decide) (by decide)).trans hs279
                have hs299 := (ht297 19 (by decide) (by decide)).trans hs280
                have hs300 := (ht297 21 (by decide) (by decide)).trans hs281
                have hs301 := (ht297 22 (by decide) (by decide)).trans hs282
                have hs302 := (ht297 8 (by decide) (by decide)).trans hs283
                have hs303 := tf_keepCQ hs284 (hq297 _ (tf_ne hqpi ha0 (by decide)))
                have hs304 := tf_keepCQ hs285 (hq297 _ (tf_ne hqpa ha0 (by decide)))
                have hs305 := (ht297 14 (by decide) (by decide)).trans hs286
                have hs306 := (ht297 9 (by decide) (by decide)).trans hs287
                have hs307 := (ht297 10 (by decide) (by decide)).trans hs288
                have hs308 := (ht297 11 (by decide) (by decide)).trans hs289
                have hs309 := (ht297 12 (by decide) (by decide)).trans hs290
                have hs310 := (ht297 17 (by decide) (by decide)).trans hs291
                have hs311 := tf_keepCQ hs292 (hq297 _ (tf_ne hqop ha0 (by decide)))
                have hs312 := tf_keepCQ hs293 (hq297 _ (tf_ne hqar ha0 (by decide)))
                have hs313 := (ht297 23 (by decide) (by decide)).trans hs278
                refine tf_iconst hx hb dX10_behindTest_128 ?_
                exact tf_reti (z := 2) hx hb hr hlocks hQ hW ⟨by omega, by omega, ⟨(gb1_U), (gf1_U), (gt1_U), (gs1_U), (gw1_U), (gc1_S), ((gp1_S - 1)), rop1_S, rar1_S, rpi, rpa, hs305, hs306, hs307, hs308, hs309, hs310, hs313, hs311, hs312, hs303, hs304, ⟨by omega, by omega⟩, ⟨by omega, by omega⟩, ⟨by omega, by omega⟩, ⟨by omega, by omega⟩, ⟨by omega, by omega⟩, ⟨by omega, by omega⟩, ⟨by omega, by omega⟩, (by first | omega | assumption), (by first | omega | assumption), (by first | exact tf_PI_PB (tf_PI_close (hRS_5 o0 u0 fs hq3) rfl h31.1 h31.2) (by omega) | exact tf_PI_PB hq3 (by omega)), (by first | exact Or.inr (tf_ST2 (tf_PI_close (hRS_5 o0 u0 fs hq3) rfl h31.1 h31.2) (tf_NS_mono hq4 (by omega))) | exact Or.inl (by omega)), (by first | omega | assumption)⟩⟩ dX10_behindTest_129
          · refine tf_iconst hx hb dX10_behindTest_84 ?_
            exact tf_reti (z := 4) hx hb hr hlocks hQ hW ⟨by omega, by omega, ⟨(gb), (gf), (gt), (gs), (gw), (gc), (gp), rop, rar, rpi, rpa, hs164, hs160, hs161, hs162, hs163, hs165, hs166, hs167, hs168, hs169, hs170, ⟨by omega, by omega⟩, ⟨by omega, by omega⟩, ⟨by omega, by omega⟩, ⟨by omega, by omega⟩, ⟨by omega, by omega⟩, ⟨by omega, by omega⟩, ⟨by omega, by omega⟩, (by first | omega | assumption), (by first | omega | assumption), (tf_PI_PB hq3 (by omega)), (Or.inr (tf_ST4 hq3 (tf_NS_Q hq4) (tf_inn_NB hpI_2 (by omega)))), (by first | omega | assumption)⟩⟩ dX10_behindTest_85
        · exfalso; omega

abbrev M_X10_readExpression : List (Nat × Nat) := [(33, 0), (34, 0), (35, 0), (36, 0), (50, 9), (50, 10), (50, 11), (50, 12), (50, 13), (50, 14), (50, 17), (50, 20), (50, 23), (50, 24)]
set_option maxHeartbeats 4000000 in
set_option maxRecDepth 100000 in
theorem c_X10_readExpression (l : Launch) (g : tf_G) (T : tf_T) (a0 : Nat) (ha0 : T a0 = some (50, 0)) (x1 : Int) (hp1 : 0 ≤ x1 ∧ x1 ≤ 1) (qop : Nat) (hqop : T qop = some (33, 400)) (qar : Nat) (hqar : T qar = some (34, 400)) (qpi : Nat) (hqpi : T qpi = some (35, 400)) (qpa : Nat) (hqpa : T qpa = some (36, 400)) (gn : Int) (hgn : 0 ≤ gn ∧ gn ≤ 400) (gf : Int) (hgf : 0 ≤ gf ∧ gf ≤ 400) (gt : Int) (hgt : 0 ≤ gt ∧ gt ≤ 400) (gs : Int) (hgs : 0 ≤ gs ∧ gs ≤ 3) (gw : Int) (hgw : (-9223372036854775808) ≤ gw ∧ gw ≤ 9223372036854775807) (gb : Int) (hgb : 0 ≤ gb ∧ gb ≤ 1) (gc : Int) (hgc : 0 ≤ gc ∧ gc ≤ 400) (rop : Int → Int) (rar : Int → Int) (rpi : Int → Int) (rpa : Int → Int) (hq0 : (gb = 0)) (hq1 : (gc ≤ gf)) (hq2 : (gf ≤ gt ∧ gt ≤ gn ∧ (gs = 0 → gf = gn) ∧ (gs ≠ 0 → gf < gt) ∧ (gs = 1 → 26 < gw → gf + 2 ≤ gt))) : Met l yX10_readExpression (cd_X10_readExpression :: wsL_law) ({ frames := 7, cells := 0, slots := 0, locals := 150 }) (tf_P g T [.ref a0, .int (Int32.ofInt x1)] (fun H => tf_s H a0 (g.1.2 10 18) = some (.ref qop) ∧ tf_s H a0 (g.1.2 10 19) = some (.ref qar) ∧ tf_s H a0 (g.1.2 10 21) = some (.ref qpi) ∧ tf_s H a0 (g.1.2 10 22) = some (.ref qpa) ∧ tf_s H a0 (g.1.2 10 8) = some (.int (Int32.ofInt gn)) ∧ tf_s H a0 (g.1.2 10 9) = some (.int (Int32.ofInt gf)) ∧ tf_s H a0 (g.1.2 10 10) = some (.int (Int32.ofInt gt)) ∧ tf_s H a0 (g.1.2 10 11) = some (.int (Int32.ofInt gs)) ∧ tf_s H a0 (g.1.2 10 12) = some (.long (Int64.ofInt gw)) ∧ tf_s H a0 (g.1.2 10 14) = some (.int (Int32.ofInt gb)) ∧ tf_s H a0 (g.1.2 10 17) = some (.int (Int32.ofInt gc)) ∧ tf_rw H qop = rop ∧ tf_rw H qar = rar ∧ tf_rw H qpi = rpi ∧ tf_rw H qpa = rpa)) (tf_Qv g M_X10_readExpression T (fun _ H => (∃ (gb1 gf1 gt1 gs1 gw1 gc1 : Int) (rop1 rar1 : Int → Int), tf_s H a0 (g.1.2 10 14) = some (.int (Int32.ofInt gb1)) ∧ tf_s H a0 (g.1.2 10 9) = some (.int (Int32.ofInt gf1)) ∧ tf_s H a0 (g.1.2 10 10) = some (.int (Int32.ofInt gt1)) ∧ tf_s H a0 (g.1.2 10 11) = some (.int (Int32.ofInt gs1)) ∧ tf_s H a0 (g.1.2 10 12) = some (.long (Int64.ofInt gw1)) ∧ tf_s H a0 (g.1.2 10 17) = some (.int (Int32.ofInt gc1)) ∧ tf_rw H qop = rop1 ∧ tf_rw H qar = rar1 ∧ (0 ≤ gb1 ∧ gb1 ≤ 1) ∧ (0 ≤ gf1 ∧ gf1 ≤ 400) ∧ (0 ≤ gt1 ∧ gt1 ≤ 400) ∧ (0 ≤ gs1 ∧ gs1 ≤ 3) ∧ ((-9223372036854775808) ≤ gw1 ∧ gw1 ≤ 9223372036854775807) ∧ (0 ≤ gc1 ∧ gc1 ≤ 400) ∧ (gf1 ≤ gt1 ∧ gt1 ≤ gn ∧ (gs1 = 0 → gf1 = gn) ∧ (gs1 ≠ 0 → gf1 < gt1) ∧ (gs1 = 1 → 26 < gw1 → gf1 + 2 ≤ gt1)) ∧ (gc1 ≤ gf1) ∧ (gf ≤ gf1) ∧ (gb1 = 1 ∨ (tf_sg rop1 rar1 gc gc1 ∧ ∀ k, k < gc → rop1 k = rop k ∧ rar1 k = rar k))))) 0 0 (fun q => tf_B g ≤ q) := by
  refine Met.ofW (cc := cX10_readExpression) (maxL := 3) (ret := none) (by decide) rfl ?_
  intro p e s m args below meth c s₁ B hml hv
  obtain ⟨hargs, hk, hW0, hB, hpre⟩ := hv
  obtain ⟨he0, he1, he2, he3, he4, he5, he6, he7, he8, he9, he10, he11, he12, he13, he14⟩ := hpre
  have hx := B.exec
  have hb := B.bytes
  have hr := B.returns
  have hts : ∀ w ∈ wsL_law, w.before args s = true := fun w h => atoms_spec (ws := cd_X10_readExpression :: wsL_law) B.pre w (List.mem_cons_of_mem _ h)
  have hown : s.vm.findClass RX10 = some m.cls := findClass_of_methodNamed B.named
  have hlocks := B.notSynchronized
  have hK := hk.1
  have hW := tf_n.start (M := M_X10_readExpression) hW0 hB
  obtain ⟨Q, hQ⟩ : ∃ q, q = MQ below (tf_Qv g M_X10_readExpression T (fun _ H => (∃ (gb1 gf1 gt1 gs1 gw1 gc1 : Int) (rop1 rar1 : Int → Int), tf_s H a0 (g.1.2 10 14) = some (.int (Int32.ofInt gb1)) ∧ tf_s H a0 (g.1.2 10 9) = some (.int (Int32.ofInt gf1)) ∧ tf_s H a0 (g.1.2 10 10) = some (.int (Int32.ofInt gt1)) ∧ tf_s H a0 (g.1.2 10 11) = some (.int (Int32.ofInt gs1)) ∧ tf_s H a0 (g.1.2 10 12) = some (.long (Int64.ofInt gw1)) ∧ tf_s H a0 (g.1.2 10 17) = some (.int (Int32.ofInt gc1)) ∧ tf_rw H qop = rop1 ∧ tf_rw H qar = rar1 ∧ (0 ≤ gb1 ∧ gb1 ≤ 1) ∧ (0 ≤ gf1 ∧ gf1 ≤ 400) ∧ (0 ≤ gt1 ∧ gt1 ≤ 400) ∧ (0 ≤ gs1 ∧ gs1 ≤ 3) ∧ ((-9223372036854775808) ≤ gw1 ∧ gw1 ≤ 9223372036854775807) ∧ (0 ≤ gc1 ∧ gc1 ≤ 400) ∧ (gf1 ≤ gt1 ∧ gt1 ≤ gn ∧ (gs1 = 0 → gf1 = gn) ∧ (gs1 ≠ 0 → gf1 < gt1) ∧ (gs1 = 1 → 26 < gw1 → gf1 + 2 ≤ gt1)) ∧ (gc1 ≤ gf1) ∧ (gf ≤ gf1) ∧ (gb1 = 1 ∨ (tf_sg rop1 rar1 gc gc1 ∧ ∀ k, k < gc → rop1 k = rop k ∧ rar1 k = rar k))))) args s 0 0 (fun q => tf_B g ≤ q) := ⟨_, rfl⟩
  rw [← hQ]
  obtain ⟨R, hR⟩ : ∃ q, q = (headSpec (cd_X10_readExpression :: wsL_law) ({ frames := 7, cells := 0, slots := 0, locals := 150 })).room := ⟨_, rfl⟩
  rw [← hR]
  have hR1 : 7 ≤ R.frames := by rw [hR]; exact Nat.le_refl _
  have hR2 : 150 ≤ R.locals := by rw [hR]; exact Nat.le_refl _
  have hR3 : 0 ≤ R.cells := by rw [hR]; exact Nat.le_refl _
  have hR4 : 0 ≤ R.slots := by rw [hR]; exact Nat.le_refl _
  have hin := (name_of_methodNamed B.named B.method).1
  clear hR B
  have j_20 : ∀ (n_20 : Nat), 0 ≤ x1 ∧ x1 ≤ 1 → ∀ (x2_20 : Int), 0 ≤ x2_20 ∧ x2_20 ≤ 4 → ∀ (f9_20 : Int), 0 ≤ f9_20 ∧ f9_20 ≤ 400 → ∀ (f10_20 : Int), 0 ≤ f10_20 ∧ f10_20 ≤ 400 → ∀ (f11_20 : Int), 0 ≤ f11_20 ∧ f11_20 ≤ 3 → ∀ (f12_20 : Int), (-9223372036854775808) ≤ f12_20 ∧ f12_20 ≤ 9223372036854775807 → ∀ (f14_20 : Int), 0 ≤ f14_20 ∧ f14_20 ≤ 1 → ∀ (f17_20 : Int), 0 ≤ f17_20 ∧ f17_20 ≤ 400 → ∀ (rNOP_20 : Int → Int), (True) → ∀ (rNAR_20 : Int → Int), (True) → ∀ (rPIL_20 : Int → Int), (True) → ∀ (rPAT_20 : Int → Int), (True) → ∀ (f23_20 : Int), 0 ≤ f23_20 ∧ f23_20 ≤ 400 → (f9_20 ≤ f10_20 ∧ f10_20 ≤ gn ∧ (f11_20 = 0 → f9_20 = gn) ∧ (f11_20 ≠ 0 → f9_20 < f10_20) ∧ (f11_20 = 1 → 26 < f12_20 → f9_20 + 2 ≤ f10_20)) → (f17_20 + f23_20 ≤ f9_20) → (tf_PB rPIL_20 rPAT_20 f23_20) → (f14_20 = 1 ∨ tf_ST x2_20 rop rar rNOP_20 rNAR_20 rPIL_20 rPAT_20 gc f17_20 f23_20) → (0 ≤ x2_20 ∧ x2_20 ≤ 4) → (gf ≤ f9_20) → ((tf_mu f9_20 f14_20 x2_20 : Int) + 1 ≤ (n_20 : Int)) → ∀ (H : Heap) (locs : List Loc), tf_n tf_kt g M_X10_readExpression T s.heap T H locs → tf_s H a0 (g.1.2 10 18) = some (.ref qop) → tf_s H a0 (g.1.2 10 19) = some (.ref qar) → tf_s H a0 (g.1.2 10 21) = some (.ref qpi) → tf_s H a0 (g.1.2 10 22) = some (.ref qpa) → tf_s H a0 (g.1.2 10 8) = some (.int (Int32.ofInt gn)) → tf_s H a0 (g.1.2 10 9) = some (.int (Int32.ofInt f9_20)) → tf_s H a0 (g.1.2 10 10) = some (.int (Int32.ofInt f10_20)) → tf_s H a0 (g.1.2 10 11) = some (.int (Int32.ofInt f11_20)) → tf_s H a0 (g.1.2 10 12) = some (.long (Int64.ofInt f12_20)) → tf_s H a0 (g.1.2 10 14) = some (.int (Int32.ofInt f14_20)) → tf_s H a0 (g.1.2 10 17) = some (.int (Int32.ofInt f17_20)) → tf_rw H qop = rNOP_20 → tf_rw H qar = rNAR_20 → tf_rw H qpi = rPIL_20 → tf_rw H qpa = rPAT_20 → tf_s H a0 (g.1.2 10 23) = some (.int (Int32.ofInt f23_20)) → ∀ (ls : Array Slot), lv_has ls 3 [(0, .ref a0), (1, .int (Int32.ofInt x1)), (2, .int (Int32.ofInt x2_20))] → W p l e R s m args below meth c H locs 0 0 Q (F0 m 20 ls []) := by
    intro n_20
    induction n_20 with
    | zero =>
      intro hx1_20 x2_20 hx2_20 f9_20 hf9_20 f10_20 hf10_20 f11_20 hf11_20 f12_20 hf12_20 f14_20 hf14_20 f17_20 hf17_20 rNOP_20 hRNOP_20 rNAR_20 hRNAR_20 rPIL_20 hRPIL_20 rPAT_20 hRPAT_20 f23_20 hf23_20 hi0_20 hi1_20 hi2_20 hi3_20 hi4_20 hi5_20 hm_20
      exfalso; omega
    | succ n_20 ih_20 =>
      intro hx1_20 x2_20 hx2_20 f9_20 hf9_20 f10_20 hf10_20 f11_20 hf11_20 f12_20 hf12_20 f14_20 hf14_20 f17_20 hf17_20 rNOP_20 hRNOP_20 rNAR_20 hRNAR_20 rPIL_20 hRPIL_20 rPAT_20 hRPAT_20 f23_20 hf23_20 hi0_20 hi1_20 hi2_20 hi3_20 hi4_20 hi5_20 hm_20 H locs hW hs18_20 hs19_20 hs21_20 hs22_20 hs8_20 hs9_20 hs10_20 hs11_20 hs12_20 hs14_20 hs17_20 hcNOP_20 hcNAR_20 hcPIL_20 hcPAT_20 hs23_20 ls hl
      refine lv_aload_n hx hb dX10_readExpression_20 rfl (lv_at hl 0 rfl) ?_
      refine tf_get hx hb hts inlX10 hown hK (ci := 10) rfl hW ha0 rfl 14 rfl (by decide) (hts _ fl_X10_200) dX10_readExpression_21 (fun v1 hv1 hsv1 => ?_)
      obtain rfl : v1 = .int (Int32.ofInt f14_20) := Option.some.inj (hsv1.symm.trans hs14_20)
      refine tf_if_ne (tgt := 76) hx hb ⟨by omega, by omega⟩ dX10_readExpression_24 (by decide) (fun h2 => ?_) (fun h2 => ?_)
      · refine lv_aload_n hx hb dX10_readExpression_76 rfl (lv_at hl 0 rfl) ?_
        refine tf_iconst hx hb dX10_readExpression_77 ?_
        refine tf_callv (va_runV (As := [.int (Int32.ofInt 1)]) (rest := []) ⟨hx, hb, hml, hown, hts⟩ (c_X10_settle l g T a0 ha0 (1) ⟨by omega, by omega⟩ qop hqop qar hqar qpi hqpi qpa hqpa (f17_20) ⟨by omega, by omega⟩ (f23_20) ⟨by omega, by omega⟩ rNOP_20 rNAR_20 rPIL_20 rPAT_20 (by first | omega | assumption) (by first | omega | assumption)) (cwV 1 hts gv_X10_291 rfl rfl rfl hd_X10_settle ⟨Nat.le_trans (by decide) hR1, Nat.le_trans (by decide) hR2⟩) (tf_preV hk hW ha0 (ci := 10) rfl rfl ⟨hs18_20, hs19_20, hs21_20, hs22_20, hs17_20, hs23_20, hcNOP_20, hcNAR_20, hcPIL_20, hcPAT_20⟩) rfl rfl hl.1 rfl (lv_room (Nat.le_of_ble_eq_true rfl)) dX10_readExpression_78 ⟨Nat.zero_le _, Nat.zero_le _⟩) hW (by decide) (fun HS locsS hW hFS hpS => ?_)
        have hs3 := tf_keepF hFS ha0 rfl rfl (by decide) hs18_20
        have hs4 := tf_keepF hFS ha0 rfl rfl (by decide) hs19_20
        have hs5 := tf_keepF hFS ha0 rfl rfl (by decide) hs21_20
        have hs6 := tf_keepF hFS ha0 rfl rfl (by decide) hs22_20
        have hs7 := tf_keepF hFS ha0 rfl rfl (by decide) hs8_20
        have hs8 := tf_keepF hFS ha0 rfl rfl (by decide) hs9_20
        have hs9 := tf_keepF hFS ha0 rfl rfl (by decide) hs10_20
        have hs10 := tf_keepF hFS ha0 rfl rfl (by decide) hs11_20
        have hs11 := tf_keepF hFS ha0 rfl rfl (by decide) hs12_20
        have hs12 := tf_keepF hFS ha0 rfl rfl (by decide) hs14_20
        have hs13 := tf_keepC hFS hqpi rfl (by decide) hcPIL_20
        have hs14 := tf_keepC hFS hqpa rfl (by decide) hcPAT_20
        obtain ⟨gc1_S, gp1_S, rop1_S, rar1_S, hXS_0, hXS_1, hXS_2, hXS_3, hBS_0, hBS_1, hRS_0, hRS_1, hRS_2, hRS_3, hRS_4, hRS_5⟩ := hpS
        exact tf_retv hx hb hr hlocks hQ hW ⟨(f14_20), (f9_20), (f10_20), (f11_20), (f12_20), (gc1_S), rop1_S, rar1_S, hs12, hs8, hs9, hs10, hs11, hXS_0, hXS_2, hXS_3, ⟨by omega, by omega⟩, ⟨by omega, by omega⟩, ⟨by omega, by omega⟩, ⟨by omega, by omega⟩, ⟨by omega, by omega⟩, ⟨by omega, by omega⟩, (by first | omega | assumption), (by first | omega | assumption), (by first | omega | assumption), (by first | exact Or.inl (by omega) | exact Or.inr (tf_fin hi3_20 (by omega) (by omega) (by omega) (by omega) (by omega) hRS_5 (by omega)))⟩ dX10_readExpression_81
      · refine lv_iload_n hx hb dX10_readExpression_27 rfl (lv_at hl 2 rfl) ?_
        refine tf_iconst hx hb dX10_readExpression_28 ?_
        refine tf_icmp_eq (tgt := 76) hx hb ⟨by omega, by omega⟩ ⟨by decide, by decide⟩ dX10_readExpression_29 (by decide) (fun h15 => ?_) (fun h15 => ?_)
        · refine lv_aload_n hx hb dX10_readExpression_76 rfl (lv_at hl 0 rfl) ?_
          refine tf_iconst hx hb dX10_readExpression_77 ?_
          refine tf_callv (va_runV (As := [.int (Int32.ofInt 1)]) (rest := []) ⟨hx, hb, hml, hown, hts⟩ (c_X10_settle l g T a0 ha0 (1) ⟨by omega, by omega⟩ qop hqop qar hqar qpi hqpi qpa hqpa (f17_20) ⟨by omega, by omega⟩ (f23_20) ⟨by omega, by omega⟩ rNOP_20 rNAR_20 rPIL_20 rPAT_20 (by first | omega | assumption) (by first | omega | assumption)) (cwV 1 hts gv_X10_291 rfl rfl rfl hd_X10_settle ⟨Nat.le_trans (by decide) hR1, Nat.le_trans (by decide) hR2⟩) (tf_preV hk hW ha0 (ci := 10) rfl rfl ⟨hs18_20, hs19_20, hs21_20, hs22_20, hs17_20, hs23_20, hcNOP_20, hcNAR_20, hcPIL_20, hcPAT_20⟩) rfl rfl hl.1 rfl (lv_room (Nat.le_of_ble_eq_true rfl)) dX10_readExpression_78 ⟨Nat.zero_le _, Nat.zero_le _⟩) hW (by decide) (fun HS locsS hW hFS hpS => ?_)
          have hs16 := tf_keepF hFS ha0 rfl rfl (by decide) hs18_20
          have hs17 := tf_keepF hFS ha0 rfl rfl (by decide) hs19_20
          have hs18 := tf_keepF hFS ha0 rfl rfl (by decide) hs21_20
          have hs19 := tf_keepF hFS ha0 rfl rfl (by decide) hs22_20
          have hs20 := tf_keepF hFS ha0 rfl rfl (by decide) hs8_20
          have hs21 := tf_keepF hFS ha0 rfl rfl (by decide) hs9_20
          have hs22 := tf_keepF hFS ha0 rfl rfl (by decide) hs10_20
          have hs23 := tf_keepF hFS ha0 rfl rfl (by decide) hs11_20
          have hs24 := tf_keepF hFS ha0 rfl rfl (by decide) hs12_20
          have hs25 := tf_keepF hFS ha0 rfl rfl (by decide) hs14_20
          have hs26 := tf_keepC hFS hqpi rfl (by decide) hcPIL_20
          have hs27 := tf_keepC hFS hqpa rfl (by decide) hcPAT_20
          obtain ⟨gc1_S, gp1_S, rop1_S, rar1_S, hXS_0, hXS_1, hXS_2, hXS_3, hBS_0, hBS_1, hRS_0, hRS_1, hRS_2, hRS_3, hRS_4, hRS_5⟩ := hpS
          exact tf_retv hx hb hr hlocks hQ hW ⟨(f14_20), (f9_20), (f10_20), (f11_20), (f12_20), (gc1_S), rop1_S, rar1_S, hs25, hs21, hs22, hs23, hs24, hXS_0, hXS_2, hXS_3, ⟨by omega, by omega⟩, ⟨by omega, by omega⟩, ⟨by omega, by omega⟩, ⟨by omega, by omega⟩, ⟨by omega, by omega⟩, ⟨by omega, by omega⟩, (by first | omega | assumption), (by first | omega | assumption), (by first | omega | assumption), (by first | exact Or.inl (by omega) | exact Or.inr (tf_fin hi3_20 (by omega) (by omega) (by omega) (by omega) (by omega) hRS_5 (by omega)))⟩ dX10_readExpression_81
        · have hST := hi3_20.resolve_left (by omega)
          refine lv_iload_n hx hb dX10_readExpression_32 rfl (lv_at hl 2 rfl) ?_
          refine tf_if_ne (tgt := 43) hx hb ⟨by omega, by omega⟩ dX10_readExpression_33 (by decide) (fun h28 => ?_) (fun h28 => ?_)
          · refine lv_iload_n hx hb dX10_readExpression_43 rfl (lv_at hl 2 rfl) ?_
            refine tf_iconst hx hb dX10_readExpression_44 ?_
            refine tf_icmp_ne (tgt := 55) hx hb ⟨by omega, by omega⟩ ⟨by decide, by decide⟩ dX10_readExpression_45 (by decide) (fun h29 => ?_) (fun h29 => ?_)
            · refine lv_iload_n hx hb dX10_readExpression_55 rfl (lv_at hl 2 rfl) ?_
              refine tf_iconst hx hb dX10_readExpression_56 ?_
              refine tf_icmp_ne (tgt := 68) hx hb ⟨by omega, by omega⟩ ⟨by decide, by decide⟩ dX10_readExpression_57 (by decide) (fun h30 => ?_) (fun h30 => ?_)
              · refine lv_aload_n hx hb dX10_readExpression_68 rfl (lv_at hl 0 rfl) ?_
                refine tf_calli (va_runV (As := []) (rest := []) ⟨hx, hb, hml, hown, hts⟩ (c_X10_behindTest l g T a0 ha0 (gc) (rop) (rar) qop hqop qar hqar qpi hqpi qpa hqpa (gn) ⟨by omega, by omega⟩ (f9_20) ⟨by omega, by omega⟩ (f10_20) ⟨by omega, by omega⟩ (f11_20) ⟨by omega, by omega⟩ (f12_20) ⟨by omega, by omega⟩ (f14_20) ⟨by omega, by omega⟩ (f17_20) ⟨by omega, by omega⟩ (f23_20) ⟨by omega, by omega⟩ rNOP_20 rNAR_20 rPIL_20 rPAT_20 (by first | omega | assumption) (by first | omega | assumption) (by first | omega | assumption) (hST.hi (by omega)) (hST.2.2.1 (by omega))) (cwV 0 hts gv_X10_312 rfl rfl rfl hd_X10_behindTest ⟨Nat.le_trans (by decide) hR1, Nat.le_trans (by decide) hR2⟩) (tf_preV hk hW ha0 (ci := 10) rfl rfl ⟨hs18_20, hs19_20, hs21_20, hs22_20, hs8_20, hs9_20, hs10_20, hs11_20, hs12_20, hs14_20, hs17_20, hs23_20, hcNOP_20, hcNAR_20, hcPIL_20, hcPAT_20⟩) rfl rfl hl.1 rfl (lv_room (Nat.le_of_ble_eq_true rfl)) dX10_readExpression_69 ⟨Nat.zero_le _, Nat.zero_le _⟩) hW (by decide) (fun z31 H31 locs31 hW hF31 hp31 => ?_)
                have hs32 := tf_keepF hF31 ha0 rfl rfl (by decide) hs18_20
                have hs33 := tf_keepF hF31 ha0 rfl rfl (by decide) hs19_20
                have hs34 := tf_keepF hF31 ha0 rfl rfl (by decide) hs21_20
                have hs35 := tf_keepF hF31 ha0 rfl rfl (by decide) hs22_20
                have hs36 := tf_keepF hF31 ha0 rfl rfl (by decide) hs8_20
                obtain ⟨hp31_0, hp31_1, hp31_2⟩ := hp31
                obtain ⟨gb1_31, gf1_31, gt1_31, gs1_31, gw1_31, gc1_31, gp1_31, rop1_31, rar1_31, rpi1_31, rpa1_31, hX31_0, hX31_1, hX31_2, hX31_3, hX31_4, hX31_5, hX31_6, hX31_7, hX31_8, hX31_9, hX31_10, hB31_0, hB31_1, hB31_2, hB31_3, hB31_4, hB31_5, hB31_6, hR31_0, hR31_1, hR31_2, hR31_3, hR31_4⟩ := hp31_2
                refine lv_istore_n (lv' := [(2, .int (Int32.ofInt z31)), (0, .ref a0), (1, .int (Int32.ofInt x1))]) hx hb dX10_readExpression_72 rfl hl (by decide) rfl (fun ls hl => ?_)
                have hmu := tf_mu_dec (f := f9_20) (b := f14_20) (z := x2_20) (f1 := gf1_31) (b1 := gb1_31) (z1 := z31) (by omega) (by omega) (by omega) (by omega) (by omega)
                refine lv_goto (tgt := 20) hx hb dX10_readExpression_73 (by decide) ?_
                exact ih_20 ⟨by omega, by omega⟩ (z31) ⟨by omega, by omega⟩ (gf1_31) ⟨by omega, by omega⟩ (gt1_31) ⟨by omega, by omega⟩ (gs1_31) ⟨by omega, by omega⟩ (gw1_31) ⟨by omega, by omega⟩ (gb1_31) ⟨by omega, by omega⟩ (gc1_31) ⟨by omega, by omega⟩ rop1_31 (trivial) rar1_31 (trivial) rpi1_31 (trivial) rpa1_31 (trivial) (gp1_31) ⟨by omega, by omega⟩ (by first | omega | assumption) (by first | omega | assumption) (by first | assumption | exact fun j h1 h2 => by omega) (by first | assumption | exact Or.inr (tf_ST0 (tf_PI_0 (by omega)) (fun j h1 h2 => by omega)) | exact Or.inr (tf_ST1 (tf_PI_0 (by omega)) (fun i j h1 h2 h3 => by omega))) (by first | omega | assumption) (by first | omega | assumption) (by omega) _ _ hW hs32 hs33 hs34 hs35 hs36 hX31_1 hX31_2 hX31_3 hX31_4 hX31_0 hX31_5 hX31_7 hX31_8 hX31_9 hX31_10 hX31_6 _ (lv_sub hl [1, 2, 0] rfl)
              · refine lv_aload_n hx hb dX10_readExpression_60 rfl (lv_at hl 0 rfl) ?_
                refine lv_iload_n hx hb dX10_readExpression_61 rfl (lv_at hl 1 rfl) ?_
                refine tf_calli (va_runV (As := [.int (Int32.ofInt x1)]) (rest := []) ⟨hx, hb, hml, hown, hts⟩ (c_X10_behindSum l g T a0 ha0 (x1) ⟨by omega, by omega⟩ (gc) (rop) (rar) qop hqop qar hqar qpi hqpi qpa hqpa (gn) ⟨by omega, by omega⟩ (f9_20) ⟨by omega, by omega⟩ (f10_20) ⟨by omega, by omega⟩ (f11_20) ⟨by omega, by omega⟩ (f12_20) ⟨by omega, by omega⟩ (f14_20) ⟨by omega, by omega⟩ (f17_20) ⟨by omega, by omega⟩ (f23_20) ⟨by omega, by omega⟩ rNOP_20 rNAR_20 rPIL_20 rPAT_20 (by first | omega | assumption) (by first | omega | assumption) (by first | omega | assumption) (hST.hi (by omega)) hST.2.1) (cwV 1 hts gv_X10_308 rfl rfl rfl hd_X10_behindSum ⟨Nat.le_trans (by decide) hR1, Nat.le_trans (by decide) hR2⟩) (tf_preV hk hW ha0 (ci := 10) rfl rfl ⟨hs18_20, hs19_20, hs21_20, hs22_20, hs8_20, hs9_20, hs10_20, hs11_20, hs12_20, hs14_20, hs17_20, hs23_20, hcNOP_20, hcNAR_20, hcPIL_20, hcPAT_20⟩) rfl rfl hl.1 rfl (lv_room (Nat.le_of_ble_eq_true rfl)) dX10_readExpression_62 ⟨Nat.zero_le _, Nat.zero_le _⟩) hW (by decide) (fun z37 H37 locs37 hW hF37 hp37 => ?_)
                have hs38 := tf_keepF hF37 ha0 rfl rfl (by decide) hs18_20
                have hs39 := tf_keepF hF37 ha0 rfl rfl (by decide) hs19_20
                have hs40 := tf_keepF hF37 ha0 rfl rfl (by decide) hs21_20
                have hs41 := tf_keepF hF37 ha0 rfl rfl (by decide) hs22_20
                have hs42 := tf_keepF hF37 ha0 rfl rfl (by decide) hs8_20
                obtain ⟨hp37_0, hp37_1, hp37_2⟩ := hp37
                obtain ⟨gb1_37, gf1_37, gt1_37, gs1_37, gw1_37, gc1_37, gp1_37, rop1_37, rar1_37, rpi1_37, rpa1_37, hX37_0, hX37_1, hX37_2, hX37_3, hX37_4, hX37_5, hX37_6, hX37_7, hX37_8, hX37_9, hX37_10, hB37_0, hB37_1, hB37_2, hB37_3, hB37_4, hB37_5, hB37_6, hR37_0, hR37_1, hR37_2, hR37_3, hR37_4⟩ := hp37_2
                refine lv_goto (tgt := 72) hx hb dX10_readExpression_65 (by decide) ?_
                refine lv_istore_n (lv' := [(2, .int (Int32.ofInt z37)), (0, .ref a0), (1, .int (Int32.ofInt x1))]) hx hb dX10_readExpression_72 rfl hl (by decide) rfl (fun ls hl => ?_)
                have hmu := tf_mu_dec (f := f9_20) (b := f14_20) (z := x2_20) (f1 := gf1_37) (b1 := gb1_37) (z1 := z37) (by omega) (by omega) (by omega) (by omega) (by omega)
                refine lv_goto (tgt := 20) hx hb dX10_readExpression_73 (by decide) ?_
                exact ih_20 ⟨by omega, by omega⟩ (z37) ⟨by omega, by omega⟩ (gf1_37) ⟨by omega, by omega⟩ (gt1_37) ⟨by omega, by omega⟩ (gs1_37) ⟨by omega, by omega⟩ (gw1_37) ⟨by omega, by omega⟩ (gb1_37) ⟨by omega, by omega⟩ (gc1_37) ⟨by omega, by omega⟩ rop1_37 (trivial) rar1_37 (trivial) rpi1_37 (trivial) rpa1_37 (trivial) (gp1_37) ⟨by omega, by omega⟩ (by first | omega | assumption) (by first | omega | assumption) (by first | assumption | exact fun j h1 h2 => by omega) (by first | assumption | exact Or.inr (tf_ST0 (tf_PI_0 (by omega)) (fun j h1 h2 => by omega)) | exact Or.inr (tf_ST1 (tf_PI_0 (by omega)) (fun i j h1 h2 h3 => by omega))) (by first | omega | assumption) (by first | omega | assumption) (by omega) _ _ hW hs38 hs39 hs40 hs41 hs42 hX37_1 hX37_2 hX37_3 hX37_4 hX37_0 hX37_5 hX37_7 hX37_8 hX37_9 hX37_10 hX37_6 _ (lv_sub hl [1, 2, 0] rfl)
            · refine lv_aload_n hx hb dX10_readExpression_48 rfl (lv_at hl 0 rfl) ?_
              refine tf_calli (va_runV (As := []) (rest := []) ⟨hx, hb, hml, hown, hts⟩ (c_X10_readPart l g T a0 ha0 (gc) (rop) (rar) qop hqop qar hqar qpi hqpi qpa hqpa (gn) ⟨by omega, by omega⟩ (f9_20) ⟨by omega, by omega⟩ (f10_20) ⟨by omega, by omega⟩ (f11_20) ⟨by omega, by omega⟩ (f12_20) ⟨by omega, by omega⟩ (f14_20) ⟨by omega, by omega⟩ (f17_20) ⟨by omega, by omega⟩ (f23_20) ⟨by omega, by omega⟩ rNOP_20 rNAR_20 rPIL_20 rPAT_20 (by first | omega | assumption) (by first | omega | assumption) (by first | omega | assumption) (hST.lo (by omega)) hST.2.1) (cwV 0 hts gv_X10_288 rfl rfl rfl hd_X10_readPart ⟨Nat.le_trans (by decide) hR1, Nat.le_trans (by decide) hR2⟩) (tf_preV hk hW ha0 (ci := 10) rfl rfl ⟨hs18_20, hs19_20, hs21_20, hs22_20, hs8_20, hs9_20, hs10_20, hs11_20, hs12_20, hs14_20, hs17_20, hs23_20, hcNOP_20, hcNAR_20, hcPIL_20, hcPAT_20⟩) rfl rfl hl.1 rfl (lv_room (Nat.le_of_ble_eq_true rfl)) dX10_readExpression_49 ⟨Nat.zero_le _, Nat.zero_le _⟩) hW (by decide) (fun z43 H43 locs43 hW hF43 hp43 => ?_)
              have hs44 := tf_keepF hF43 ha0 rfl rfl (by decide) hs18_20
              have hs45 := tf_keepF hF43 ha0 rfl rfl (by decide) hs19_20
              have hs46 := tf_keepF hF43 ha0 rfl rfl (by decide) hs21_20
              have hs47 := tf_keepF hF43 ha0 rfl rfl (by decide) hs22_20
              have hs48 := tf_keepF hF43 ha0 rfl rfl (by decide) hs8_20
              obtain ⟨hp43_0, hp43_1, hp43_2⟩ := hp43
              obtain ⟨gb1_43, gf1_43, gt1_43, gs1_43, gw1_43, gc1_43, gp1_43, rop1_43, rar1_43, rpi1_43, rpa1_43, hX43_0, hX43_1, hX43_2, hX43_3, hX43_4, hX43_5, hX43_6, hX43_7, hX43_8, hX43_9, hX43_10, hB43_0, hB43_1, hB43_2, hB43_3, hB43_4, hB43_5, hB43_6, hR43_0, hR43_1, hR43_2, hR43_3, hR43_4⟩ := hp43_2
              refine lv_goto (tgt := 72) hx hb dX10_readExpression_52 (by decide) ?_
              refine lv_istore_n (lv' := [(2, .int (Int32.ofInt z43)), (0, .ref a0), (1, .int (Int32.ofInt x1))]) hx hb dX10_readExpression_72 rfl hl (by decide) rfl (fun ls hl => ?_)
              have hmu := tf_mu_dec (f := f9_20) (b := f14_20) (z := x2_20) (f1 := gf1_43) (b1 := gb1_43) (z1 := z43) (by omega) (by omega) (by omega) (by omega) (by omega)
              refine lv_goto (tgt := 20) hx hb dX10_readExpression_73 (by decide) ?_
              exact ih_20 ⟨by omega, by omega⟩ (z43) ⟨by omega, by omega⟩ (gf1_43) ⟨by omega, by omega⟩ (gt1_43) ⟨by omega, by omega⟩ (gs1_43) ⟨by omega, by omega⟩ (gw1_43) ⟨by omega, by omega⟩ (gb1_43) ⟨by omega, by omega⟩ (gc1_43) ⟨by omega, by omega⟩ rop1_43 (trivial) rar1_43 (trivial) rpi1_43 (trivial) rpa1_43 (trivial) (gp1_43) ⟨by omega, by omega⟩ (by first | omega | assumption) (by first | omega | assumption) (by first | assumption | exact fun j h1 h2 => by omega) (by first | assumption | exact Or.inr (tf_ST0 (tf_PI_0 (by omega)) (fun j h1 h2 => by omega)) | exact Or.inr (tf_ST1 (tf_PI_0 (by omega)) (fun i j h1 h2 h3 => by omega))) (by first | omega | assumption) (by first | omega | assumption) (by omega) _ _ hW hs44 hs45 hs46 hs47 hs48 hX43_1 hX43_2 hX43_3 hX43_4 hX43_0 hX43_5 hX43_7 hX43_8 hX43_9 hX43_10 hX43_6 _ (lv_sub hl [1, 2, 0] rfl)
          · refine lv_aload_n hx hb dX10_readExpression_36 rfl (lv_at hl 0 rfl) ?_
            refine tf_calli (va_runV (As := []) (rest := []) ⟨hx, hb, hml, hown, hts⟩ (c_X10_readPlain l g T a0 ha0 (gc) (rop) (rar) qop hqop qar hqar qpi hqpi qpa hqpa (gn) ⟨by omega, by omega⟩ (f9_20) ⟨by omega, by omega⟩ (f10_20) ⟨by omega, by omega⟩ (f11_20) ⟨by omega, by omega⟩ (f12_20) ⟨by omega, by omega⟩ (f14_20) ⟨by omega, by omega⟩ (f17_20) ⟨by omega, by omega⟩ (f23_20) ⟨by omega, by omega⟩ rNOP_20 rNAR_20 rPIL_20 rPAT_20 (by first | omega | assumption) (by first | omega | assumption) (by first | omega | assumption) (hST.lo (by omega)) (hST.2.2.1 (by omega))) (cwV 0 hts gv_X10_305 rfl rfl rfl hd_X10_readPlain ⟨Nat.le_trans (by decide) hR1, Nat.le_trans (by decide) hR2⟩) (tf_preV hk hW ha0 (ci := 10) rfl rfl ⟨hs18_20, hs19_20, hs21_20, hs22_20, hs8_20, hs9_20, hs10_20, hs11_20, hs12_20, hs14_20, hs17_20, hs23_20, hcNOP_20, hcNAR_20, hcPIL_20, hcPAT_20⟩) rfl rfl hl.1 rfl (lv_room (Nat.le_of_ble_eq_true rfl)) dX10_readExpression_37 ⟨Nat.zero_le _, Nat.zero_le _⟩) hW (by decide) (fun z49 H49 locs49 hW hF49 hp49 => ?_)
            have hs50 := tf_keepF hF49 ha0 rfl rfl (by decide) hs18_20
            have hs51 := tf_keepF hF49 ha0 rfl rfl (by decide) hs19_20
            have hs52 := tf_keepF hF49 ha0 rfl rfl (by decide) hs21_20
            have hs53 := tf_keepF hF49 ha0 rfl rfl (by decide) hs22_20
            have hs54 := tf_keepF hF49 ha0 rfl rfl (by decide) hs8_20
            obtain ⟨hp49_0, hp49_1, hp49_2⟩ := hp49
            obtain ⟨gb1_49, gf1_49, gt1_49, gs1_49, gw1_49, gc1_49, gp1_49, rop1_49, rar1_49, rpi1_49, rpa1_49, hX49_0, hX49_1, hX49_2, hX49_3, hX49_4, hX49_5, hX49_6, hX49_7, hX49_8, hX49_9, hX49_10, hB49_0, hB49_1, hB49_2, hB49_3, hB49_4, hB49_5, hB49_6, hR49_0, hR49_1, hR49_2, hR49_3, hR49_4⟩ := hp49_2
            refine lv_goto (tgt := 72) hx hb dX10_readExpression_40 (by decide) ?_
            refine lv_istore_n (lv' := [(2, .int (Int32.ofInt z49)), (0, .ref a0), (1, .int (Int32.ofInt x1))]) hx hb dX10_readExpression_72 rfl hl (by decide) rfl (fun ls hl => ?_)
            have hmu := tf_mu_dec (f := f9_20) (b := f14_20) (z := x2_20) (f1 := gf1_49) (b1 := gb1_49) (z1 := z49) (by omega) (by omega) (by omega) (by omega) (by omega)
            refine lv_goto (tgt := 20) hx hb dX10_readExpression_73 (by decide) ?_
            exact ih_20 ⟨by omega, by omega⟩ (z49) ⟨by omega, by omega⟩ (gf1_49) ⟨by omega, by omega⟩ (gt1_49) ⟨by omega, by omega⟩ (gs1_49) ⟨by omega, by omega⟩ (gw1_49) ⟨by omega, by omega⟩ (gb1_49) ⟨by omega, by omega⟩ (gc1_49) ⟨by omega, by omega⟩ rop1_49 (trivial) rar1_49 (trivial) rpi1_49 (trivial) rpa1_49 (trivial) (gp1_49) ⟨by omega, by omega⟩ (by first | omega | assumption) (by first | omega | assumption) (by first | assumption | exact fun j h1 h2 => by omega) (by first | assumption | exact Or.inr (tf_ST0 (tf_PI_0 (by omega)) (fun j h1 h2 => by omega)) | exact Or.inr (tf_ST1 (tf_PI_0 (by omega)) (fun i j h1 h2 h3 => by omega))) (by first | omega | assumption) (by first | omega | assumption) (by omega) _ _ hW hs50 hs51 hs52 hs53 hs54 hX49_1 hX49_2 hX49_3 hX49_4 hX49_0 hX49_5 hX49_7 hX49_8 hX49_9 hX49_10 hX49_6 _ (lv_sub hl [1, 2, 0] rfl)
  refine tf_enter (As := [.ref a0, .int (Int32.ofInt x1)]) hargs (Nat.le_of_ble_eq_true rfl) (fun ls hl => ?_)
  have hl : lv_has ls 3 [(0, .ref a0), (1, .int (Int32.ofInt x1))] := hl
  refine lv_aload_n hx hb dX10_readExpression_0 rfl (lv_at hl 0 rfl) ?_
  refine tf_iconst hx hb dX10_readExpression_1 ?_
  refine tf_put hx hb hts inlX10 tyX10 tyX10_ok nmX10 hown hK (ci := 10) rfl hW ha0 rfl rfl 23 rfl (by decide) (by decide) (hts _ fl_X10_242) rfl (tf_u0 (by omega) (by omega)) rfl rfl dX10_readExpression_2 (fun H55 locs55 hW hs55 ht55 hq55 => ?_)
  have hs56 := (ht55 18 (by decide) (by decide)).trans he0
  have hs57 := (ht55 19 (by decide) (by decide)).trans he1
  have hs58 := (ht55 21 (by decide) (by decide)).trans he2
  have hs59 := (ht55 22 (by decide) (by decide)).trans he3
  have hs60 := (ht55 8 (by decide) (by decide)).trans he4
  have hs61 := (ht55 9 (by decide) (by decide)).trans he5
  have hs62 := (ht55 10 (by decide) (by decide)).trans he6
  have hs63 := (ht55 11 (by decide) (by decide)).trans he7
  have hs64 := (ht55 12 (by decide) (by decide)).trans he8
  have hs65 := (ht55 14 (by decide) (by decide)).trans he9
  have hs66 := (ht55 17 (by decide) (by decide)).trans he10
  have hs67 := tf_keepCQ he11 (hq55 _ (tf_ne hqop ha0 (by decide)))
  have hs68 := tf_keepCQ he12 (hq55 _ (tf_ne hqar ha0 (by decide)))
  have hs69 := tf_keepCQ he13 (hq55 _ (tf_ne hqpi ha0 (by decide)))
  have hs70 := tf_keepCQ he14 (hq55 _ (tf_ne hqpa ha0 (by decide)))
  refine lv_aload_n hx hb dX10_readExpression_5 rfl (lv_at hl 0 rfl) ?_
  refine tf_iconst hx hb dX10_readExpression_6 ?_
  refine tf_put hx hb hts inlX10 tyX10 tyX10_ok nmX10 hown hK (ci := 10) rfl hW ha0 rfl rfl 24 rfl (by decide) (by decide) (hts _ fl_X10_262) rfl (tf_u0 (by omega) (by omega)) rfl rfl dX10_readExpression_7 (fun H71 locs71 hW hs71 ht71 hq71 => ?_)
  have hs72 := (ht71 18 (by decide) (by decide)).trans hs56
  have hs73 := (ht71 19 (by decide) (by decide)).trans hs57
  have hs74 := (ht71 21 (by decide) (by decide)).trans hs58
  have hs75 := (ht71 22 (by decide) (by decide)).trans hs59
  have hs76 := (ht71 8 (by decide) (by decide)).trans hs60
  have hs77 := (ht71 9 (by decide) (by decide)).trans hs61
  have hs78 := (ht71 10 (by decide) (by decide)).trans hs62
  have hs79 := (ht71 11 (by decide) (by decide)).trans hs63
  have hs80 := (ht71 12 (by decide) (by decide)).trans hs64
  have hs81 := (ht71 14 (by decide) (by decide)).trans hs65
  have hs82 := (ht71 17 (by decide) (by decide)).trans hs66
  have hs83 := tf_keepCQ hs67 (hq71 _ (tf_ne hqop ha0 (by decide)))
  have hs84 := tf_keepCQ hs68 (hq71 _ (tf_ne hqar ha0 (by decide)))
  have hs85 := tf_keepCQ hs69 (hq71 _ (tf_ne hqpi ha0 (by decide)))
  have hs86 := tf_keepCQ hs70 (hq71 _ (tf_ne hqpa ha0 (by decide)))
  have hs87 := (ht71 23 (by decide) (by decide)).trans hs55
  refine lv_iload_n hx hb dX10_readExpression_10 rfl (lv_at hl 1 rfl) ?_
  refine tf_if_eq (tgt := 18) hx hb ⟨by omega, by omega⟩ dX10_readExpression_11 (by decide) (fun h88 => ?_) (fun h88 => ?_)
  · refine tf_iconst hx hb dX10_readExpression_18 ?_
    refine lv_istore_n (lv' := [(2, .int (Int32.ofInt 1)), (0, .ref a0), (1, .int (Int32.ofInt x1))]) hx hb dX10_readExpression_19 rfl hl (by decide) rfl (fun ls hl => ?_)
    exact j_20 (((tf_mu gf gb 1 : Int) + 1 : Int)).toNat ⟨by omega, by omega⟩ (1) ⟨by omega, by omega⟩ (gf) ⟨by omega, by omega⟩ (gt) ⟨by omega, by omega⟩ (gs) ⟨by omega, by omega⟩ (gw) ⟨by omega, by omega⟩ (gb) ⟨by omega, by omega⟩ (gc) ⟨by omega, by omega⟩ rop (trivial) rar (trivial) rpi (trivial) rpa (trivial) (0) ⟨by omega, by omega⟩ (by first | omega | assumption) (by first | omega | assumption) (by first | assumption | exact fun j h1 h2 => by omega) (by first | assumption | exact Or.inr (tf_ST0 (tf_PI_0 (by omega)) (fun j h1 h2 => by omega)) | exact Or.inr (tf_ST1 (tf_PI_0 (by omega)) (fun i j h1 h2 h3 => by omega))) (by first | omega | assumption) (by first | omega | assumption) (by omega) _ _ hW hs72 hs73 hs74 hs75 hs76 hs77 hs78 hs79 hs80 hs81 hs82 hs83 hs84 hs85 hs86 hs87 _ (lv_sub hl [1, 2, 0] rfl)
  · refine tf_iconst hx hb dX10_readExpression_14 ?_
    refine lv_goto (tgt := 19) hx hb dX10_readExpression_15 (by decide) ?_
    refine lv_istore_n (lv' := [(2, .int (Int32.ofInt 0)), (0, .ref a0), (1, .int (Int32.ofInt x1))]) hx hb dX10_readExpression_19 rfl hl (by decide) rfl (fun ls hl => ?_)
    exact j_20 (((tf_mu gf gb 0 : Int) + 1 : Int)).toNat ⟨by omega, by omega⟩ (0) ⟨by omega, by omega⟩ (gf) ⟨by omega, by omega⟩ (gt) ⟨by omega, by omega⟩ (gs) ⟨by omega, by omega⟩ (gw) ⟨by omega, by omega⟩ (gb) ⟨by omega, by omega⟩ (gc) ⟨by omega, by omega⟩ rop (trivial) rar (trivial) rpi (trivial) rpa (trivial) (0) ⟨by omega, by omega⟩ (by first | omega | assumption) (by first | omega | assumption) (by first | assumption | exact fun j h1 h2 => by omega) (by first | assumption | exact Or.inr (tf_ST0 (tf_PI_0 (by omega)) (fun j h1 h2 => by omega)) | exact Or.inr (tf_ST1 (tf_PI_0 (by omega)) (fun i j h1 h2 h3 => by omega))) (by first | omega | assumption) (by first | omega | assumption) (by omega) _ _ hW hs72 hs73 hs74 hs75 hs76 hs77 hs78 hs79 hs80 hs81 hs82 hs83 hs84 hs85 hs86 hs87 _ (lv_sub hl [1, 2, 0] rfl)

abbrev M_X10_readClause : List (Nat × Nat) := [(32, 0), (33, 0), (34, 0), (35, 0), (36, 0), (50, 9), (50, 10), (50, 11), (50, 12), (50, 13), (50, 14), (50, 15), (50, 17), (50, 20), (50, 23), (50, 24)]
set_option maxHeartbeats 4000000 in
set_option maxRecDepth 100000 in
theorem c_X10_readClause (l : Launch) (g : tf_G) (T : tf_T) (a0 : Nat) (ha0 : T a0 = some (50, 0)) (qop : Nat) (hqop : T qop = some (33, 400)) (qar : Nat) (hqar : T qar = some (34, 400)) (qcl : Nat) (hqcl : T qcl = some (32, 96)) (gn : Int) (hgn : 0 ≤ gn ∧ gn ≤ 400) (gf : Int) (hgf : 0 ≤ gf ∧ gf ≤ 400) (gt : Int) (hgt : 0 ≤ gt ∧ gt ≤ 400) (gs : Int) (hgs : 0 ≤ gs ∧ gs ≤ 3) (gw : Int) (hgw : (-9223372036854775808) ≤ gw ∧ gw ≤ 9223372036854775807) (gb : Int) (hgb : 0 ≤ gb ∧ gb ≤ 1) (gc : Int) (hgc : 0 ≤ gc ∧ gc ≤ 400) (gk : Int) (hgk : 0 ≤ gk ∧ gk ≤ 12) (rop : Int → Int) (rar : Int → Int) (rcl : Int → Int) (hq0 : (gb = 0)) (hq1 : (gc ≤ gf)) (hq2 : (gf ≤ gt ∧ gt ≤ gn ∧ (gs = 0 → gf = gn) ∧ (gs ≠ 0 → gf < gt) ∧ (gs = 1 → 26 < gw → gf + 2 ≤ gt))) (hq3 : (tf_CL rcl rop rar gk gc)) : Met l yX10_readClause (cd_X10_readClause :: wsL_law) ({ frames := 8, cells := 0, slots := 0, locals := 172 }) (tf_P g T [.ref a0] (fun H => tf_s H a0 (g.1.2 10 18) = some (.ref qop) ∧ tf_s H a0 (g.1.2 10 19) = some (.ref qar) ∧ tf_s H a0 (g.1.2 10 16) = some (.ref qcl) ∧ tf_s H a0 (g.1.2 10 8) = some (.int (Int32.ofInt gn)) ∧ tf_s H a0 (g.1.2 10 9) = some (.int (Int32.ofInt gf)) ∧ tf_s H a0 (g.1.2 10 10) = some (.int (Int32.ofInt gt)) ∧ tf_s H a0 (g.1.2 10 11) = some (.int (Int32.ofInt gs)) ∧ tf_s H a0 (g.1.2 10 12) = some (.long (Int64.ofInt gw)) ∧ tf_s H a0 (g.1.2 10 14) = some (.int (Int32.ofInt gb)) ∧ tf_s H a0 (g.1.2 10 17) = some (.int (Int32.ofInt gc)) ∧ tf_s H a0 (g.1.2 10 15) = some (.int (Int32.ofInt gk)) ∧ tf_rw H qop = rop ∧ tf_rw H qar = rar ∧ tf_rw H qcl = rcl)) (tf_Qv g M_X10_readClause T (fun _ H => (∃ (gb1 gf1 gt1 gs1 gw1 gc1 gk1 : Int) (rop1 rar1 rcl1 : Int → Int), tf_s H a0 (g.1.2 10 14) = some (.int (Int32.ofInt gb1)) ∧ tf_s H a0 (g.1.2 10 9) = some (.int (Int32.ofInt gf1)) ∧ tf_s H a0 (g.1.2 10 10) = some (.int (Int32.ofInt gt1)) ∧ tf_s H a0 (g.1.2 10 11) = some (.int (Int32.ofInt gs1)) ∧ tf_s H a0 (g.1.2 10 12) = some (.long (Int64.ofInt gw1)) ∧ tf_s H a0 (g.1.2 10 17) = some (.int (Int32.ofInt gc1)) ∧ tf_s H a0 (g.1.2 10 15) = some (.int (Int32.ofInt gk1)) ∧ tf_rw H qop = rop1 ∧ tf_rw H qar = rar1 ∧ tf_rw H qcl = rcl1 ∧ (0 ≤ gb1 ∧ gb1 ≤ 1) ∧ (0 ≤ gf1 ∧ gf1 ≤ 400) ∧ (0 ≤ gt1 ∧ gt1 ≤ 400) ∧ (0 ≤ gs1 ∧ gs1 ≤ 3) ∧ ((-9223372036854775808) ≤ gw1 ∧ gw1 ≤ 9223372036854775807) ∧ (0 ≤ gc1 ∧ gc1 ≤ 400) ∧ (0 ≤ gk1 ∧ gk1 ≤ 12) ∧ (gf1 ≤ gt1 ∧ gt1 ≤ gn ∧ (gs1 = 0 → gf1 = gn) ∧ (gs1 ≠ 0 → gf1 < gt1) ∧ (gs1 = 1 → 26 < gw1 → gf1 + 2 ≤ gt1)) ∧ (gc1 ≤ gf1) ∧ (gf ≤ gf1) ∧ (gb1 = 1 ∨ tf_CL rcl1 rop1 rar1 gk1 gc1)))) 0 0 (fun q => tf_B g ≤ q) := by
  refine Met.ofW (cc := cX10_readClause) (maxL := 3) (ret := none) (by decide) rfl ?_
  intro p e s m args below meth c s₁ B hml hv
  obtain ⟨hargs, hk, hW0, hB, hpre⟩ := hv
  obtain ⟨he0, he1, he2, he3, he4, he5, he6, he7, he8, he9, he10, he11, he12, he13⟩ := hpre
  have hx := B.exec
  have hb := B.bytes
  have hr := B.returns
  have hts : ∀ w ∈ wsL_law, w.before args s = true := fun w h => atoms_spec (ws := cd_X10_readClause :: wsL_law) B.pre w (List.mem_cons_of_mem _ h)
  have hown : s.vm.findClass RX10 = some m.cls := findClass_of_methodNamed B.named
  have hlocks := B.notSynchronized
  have hK := hk.1
  have hW := tf_n.start (M := M_X10_readClause) hW0 hB
  obtain ⟨Q, hQ⟩ : ∃ q, q = MQ below (tf_Qv g M_X10_readClause T (fun _ H => (∃ (gb1 gf1 gt1 gs1 gw1 gc1 gk1 : Int) (rop1 rar1 rcl1 : Int → Int), tf_s H a0 (g.1.2 10 14) = some (.int (Int32.ofInt gb1)) ∧ tf_s H a0 (g.1.2 10 9) = some (.int (Int32.ofInt gf1)) ∧ tf_s H a0 (g.1.2 10 10) = some (.int (Int32.ofInt gt1)) ∧ tf_s H a0 (g.1.2 10 11) = some (.int (Int32.ofInt gs1)) ∧ tf_s H a0 (g.1.2 10 12) = some (.long (Int64.ofInt gw1)) ∧ tf_s H a0 (g.1.2 10 17) = some (.int (Int32.ofInt gc1)) ∧ tf_s H a0 (g.1.2 10 15) = some (.int (Int32.ofInt gk1)) ∧ tf_rw H qop = rop1 ∧ tf_rw H qar = rar1 ∧ tf_rw H qcl = rcl1 ∧ (0 ≤ gb1 ∧ gb1 ≤ 1) ∧ (0 ≤ gf1 ∧ gf1 ≤ 400) ∧ (0 ≤ gt1 ∧ gt1 ≤ 400) ∧ (0 ≤ gs1 ∧ gs1 ≤ 3) ∧ ((-9223372036854775808) ≤ gw1 ∧ gw1 ≤ 9223372036854775807) ∧ (0 ≤ gc1 ∧ gc1 ≤ 400) ∧ (0 ≤ gk1 ∧ gk1 ≤ 12) ∧ (gf1 ≤ gt1 ∧ gt1 ≤ gn ∧ (gs1 = 0 → gf1 = gn) ∧ (gs1 ≠ 0 → gf1 < gt1) ∧ (gs1 = 1 → 26 < gw1 → gf1 + 2 ≤ gt1)) ∧ (gc1 ≤ gf1) ∧ (gf ≤ gf1) ∧ (gb1 = 1 ∨ tf_CL rcl1 rop1 rar1 gk1 gc1)))) args s 0 0 (fun q => tf_B g ≤ q) := ⟨_, rfl⟩
  rw [← hQ]
  obtain ⟨R, hR⟩ : ∃ q, q = (headSpec (cd_X10_readClause :: wsL_law) ({ frames := 8, cells := 0, slots := 0, locals := 172 })).room := ⟨_, rfl⟩
  rw [← hR]
  have hR1 : 8 ≤ R.frames := by rw [hR]; exact Nat.le_refl _
  have hR2 : 172 ≤ R.locals := by rw [hR]; exact Nat.le_refl _
  have hR3 : 0 ≤ R.cells := by rw [hR]; exact Nat.le_refl _
  have hR4 : 0 ≤ R.slots := by rw [hR]; exact Nat.le_refl _
  have hin := (name_of_methodNamed B.named B.method).1
  clear hR B
  have hCL0 := hq3
  have j_46 : ∀ (n_46 : Nat), ∀ (x1_46 : Int), 0 ≤ x1_46 ∧ x1_46 ≤ 88 → ∀ (x2_46 : Int), 0 ≤ x2_46 ∧ x2_46 ≤ 8 → ∀ (rNCL_46 : Int → Int), (∀ j, j < 8 * gk → rNCL_46 j = rcl j) → ∀ (f14_46 : Int), 0 ≤ f14_46 ∧ f14_46 ≤ 0 → ∀ (f9_46 : Int), 0 ≤ f9_46 ∧ f9_46 ≤ 400 → ∀ (f10_46 : Int), 0 ≤ f10_46 ∧ f10_46 ≤ 400 → ∀ (f11_46 : Int), 0 ≤ f11_46 ∧ f11_46 ≤ 3 → ∀ (f12_46 : Int), (-9223372036854775808) ≤ f12_46 ∧ f12_46 ≤ 9223372036854775807 → (f9_46 ≤ f10_46 ∧ f10_46 ≤ gn ∧ (f11_46 = 0 → f9_46 = gn) ∧ (f11_46 ≠ 0 → f9_46 < f10_46) ∧ (f11_46 = 1 → 26 < f12_46 → f9_46 + 2 ≤ f10_46)) → (gc ≤ f9_46) → (f14_46 = 0) → (gf ≤ f9_46) → (x1_46 = 8 * gk) → (gk < 12) → (8 - x2_46 + 1 ≤ (n_46 : Int)) → ∀ (H : Heap) (locs : List Loc), tf_n tf_kt g M_X10_readClause T s.heap T H locs → tf_s H a0 (g.1.2 10 18) = some (.ref qop) → tf_s H a0 (g.1.2 10 19) = some (.ref qar) → tf_s H a0 (g.1.2 10 16) = some (.ref qcl) → tf_s H a0 (g.1.2 10 8) = some (.int (Int32.ofInt gn)) → tf_s H a0 (g.1.2 10 17) = some (.int (Int32.ofInt gc)) → tf_s H a0 (g.1.2 10 15) = some (.int (Int32.ofInt gk)) → tf_rw H qop = rop → tf_rw H qar = rar → tf_rw H qcl = rNCL_46 → tf_s H a0 (g.1.2 10 14) = some (.int (Int32.ofInt f14_46)) → tf_s H a0 (g.1.2 10 9) = some (.int (Int32.ofInt f9_46)) → tf_s H a0 (g.1.2 10 10) = some (.int (Int32.ofInt f10_46)) → tf_s H a0 (g.1.2 10 11) = some (.int (Int32.ofInt f11_46)) → tf_s H a0 (g.1.2 10 12) = some (.long (Int64.ofInt f12_46)) → ∀ (ls : Array Slot), lv_has ls 3 [(0, .ref a0), (1, .int (Int32.ofInt x1_46)), (2, .int (Int32.ofInt x2_46))] → W p l e R s m args below meth c H locs 0 0 Q (F0 m 46 ls []) := by
    intro n_46
    induction n_46 with
    | zero =>
      intro x1_46 hx1_46 x2_46 hx2_46 rNCL_46 hRNCL_46 f14_46 hf14_46 f9_46 hf9_46 f10_46 hf10_46 f11_46 hf11_46 f12_46 hf12_46 hi0_46 hi1_46 hi2_46 hi3_46 hi4_46 hi5_46 hm_46
      exfalso; omega
    | succ n_46 ih_46 =>
      intro x1_46 hx1_46 x2_46 hx2_46 rNCL_46 hRNCL_46 f14_46 hf14_46 f9_46 hf9_46 f10_46 hf10_46 f11_46 hf11_46 f12_46 hf12_46 hi0_46 hi1_46 hi2_46 hi3_46 hi4_46 hi5_46 hm_46 H locs hW hs18_46 hs19_46 hs16_46 hs8_46 hs17_46 hs15_46 hcNOP_46 hcNAR_46 hcNCL_46 hs14_46 hs9_46 hs10_46 hs11_46 hs12_46 ls hl
      refine lv_iload_n hx hb dX10_readClause_46 rfl (lv_at hl 2 rfl) ?_
      refine tf_bipush hx hb dX10_readClause_47 (by decide) ?_
      refine tf_icmp_ge (tgt := 67) hx hb ⟨by omega, by omega⟩ ⟨by decide, by decide⟩ dX10_readClause_49 (by decide) (fun h1 => ?_) (fun h1 => ?_)
      · refine lv_aload_n hx hb dX10_readClause_67 rfl (lv_at hl 0 rfl) ?_
        refine lv_dup hx hb dX10_readClause_68 rfl ?_
        refine tf_get hx hb hts inlX10 hown hK (ci := 10) rfl hW ha0 rfl 15 rfl (by decide) (hts _ fl_X10_317) dX10_readClause_69 (fun v2 hv2 hsv2 => ?_)
        obtain rfl : v2 = .int (Int32.ofInt gk) := Option.some.inj (hsv2.symm.trans hs15_46)
        refine tf_iconst hx hb dX10_readClause_72 ?_
        refine tf_iadd hx hb dX10_readClause_73 ?_
        refine tf_put hx hb hts inlX10 tyX10 tyX10_ok nmX10 hown hK (ci := 10) rfl hW ha0 rfl rfl 15 rfl (by decide) (by decide) (hts _ fl_X10_317) rfl (tf_u0 (by omega) (by omega)) rfl rfl dX10_readClause_74 (fun H3 locs3 hW hs3 ht3 hq3 => ?_)
        have hs4 := (ht3 18 (by decide) (by decide)).trans hs18_46
        have hs5 := (ht3 19 (by decide) (by decide)).trans hs19_46
        have hs6 := (ht3 16 (by decide) (by decide)).trans hs16_46
        have hs7 := (ht3 8 (by decide) (by decide)).trans hs8_46
        have hs8 := (ht3 17 (by decide) (by decide)).trans hs17_46
        have hs9 := tf_keepCQ hcNOP_46 (hq3 _ (tf_ne hqop ha0 (by decide)))
        have hs10 := tf_keepCQ hcNAR_46 (hq3 _ (tf_ne hqar ha0 (by decide)))
        have hs11 := tf_keepCQ hcNCL_46 (hq3 _ (tf_ne hqcl ha0 (by decide)))
        have hs12 := (ht3 14 (by decide) (by decide)).trans hs14_46
        have hs13 := (ht3 9 (by decide) (by decide)).trans hs9_46
        have hs14 := (ht3 10 (by decide) (by decide)).trans hs10_46
        have hs15 := (ht3 11 (by decide) (by decide)).trans hs11_46
        have hs16 := (ht3 12 (by decide) (by decide)).trans hs12_46
        have hL1 : x1_46 = 8 * gk := by omega
        refine lv_aload_n hx hb dX10_readClause_77 rfl (lv_at hl 0 rfl) ?_
        refine tf_get hx hb hts inlX10 hown hK (ci := 10) rfl hW ha0 rfl 16 rfl (by decide) (hts _ fl_X10_30) dX10_readClause_78 (fun v17 hv17 hsv17 => ?_)
        obtain rfl : v17 = .ref qcl := Option.some.inj (hsv17.symm.trans hs6)
        refine lv_iload_n hx hb dX10_readClause_81 rfl (lv_at hl 1 rfl) ?_
        refine tf_iconst hx hb dX10_readClause_82 ?_
        refine tf_iadd hx hb dX10_readClause_83 ?_
        refine lv_aload_n hx hb dX10_readClause_84 rfl (lv_at hl 0 rfl) ?_
        refine tf_get hx hb hts inlX10 hown hK (ci := 10) rfl hW ha0 rfl 17 rfl (by decide) (hts _ fl_X10_239) dX10_readClause_85 (fun v18 hv18 hsv18 => ?_)
        obtain rfl : v18 = .int (Int32.ofInt gc) := Option.some.inj (hsv18.symm.trans hs8)
        refine tf_rwst (t0 := 0) hx hb hK hW hqcl rfl rfl (by omega) (by omega) (by decide) (tf_u0 (by omega) (by omega)) ⟨by omega, by omega⟩ trivial dX10_readClause_88 (fun H19 locs19 hW hu19 hq19 => ?_)
        have hs20 := tf_keepQ hs4 (hq19 _ (tf_ne ha0 hqcl (by decide)))
        have hs21 := tf_keepQ hs5 (hq19 _ (tf_ne ha0 hqcl (by decide)))
        have hs22 := tf_keepQ hs6 (hq19 _ (tf_ne ha0 hqcl (by decide)))
        have hs23 := tf_keepQ hs7 (hq19 _ (tf_ne ha0 hqcl (by decide)))
        have hs24 := tf_keepQ hs8 (hq19 _ (tf_ne ha0 hqcl (by decide)))
        have hs25 := tf_keepCQ hs9 (hq19 _ (tf_ne hqop hqcl (by decide)))
        have hs26 := tf_keepCQ hs10 (hq19 _ (tf_ne hqar hqcl (by decide)))
        have hs27 := tf_keepQ hs12 (hq19 _ (tf_ne ha0 hqcl (by decide)))
        have hs28 := tf_keepQ hs13 (hq19 _ (tf_ne ha0 hqcl (by decide)))
        have hs29 := tf_keepQ hs14 (hq19 _ (tf_ne ha0 hqcl (by decide)))
        have hs30 := tf_keepQ hs15 (hq19 _ (tf_ne ha0 hqcl (by decide)))
        have hs31 := tf_keepQ hs16 (hq19 _ (tf_ne ha0 hqcl (by decide)))
        have hs32 := tf_keepQ hs3 (hq19 _ (tf_ne ha0 hqcl (by decide)))
        have hu19 := hu19.trans (congrArg (fun w => tf_up w ((x1_46 + 3)) (gc)) hs11)
        refine lv_aload_n hx hb dX10_readClause_89 rfl (lv_at hl 0 rfl) ?_
        refine tf_iconst hx hb dX10_readClause_90 ?_
        obtain ⟨pv33, hpv33, hok33⟩ := tf_peek hW ha0 (ci := 10) rfl 21 rfl
        obtain ⟨ad34, rfl, had34⟩ := tf_v1 hok33
        obtain ⟨pv35, hpv35, hok35⟩ := tf_peek hW ha0 (ci := 10) rfl 22 rfl
        obtain ⟨ad36, rfl, had36⟩ := tf_v1 hok35
        obtain ⟨r37, hr37⟩ := tf_rname hW ad34
        obtain ⟨r38, hr38⟩ := tf_rname hW ad36
        refine tf_callv (va_runV (As := [.int (Int32.ofInt 0)]) (rest := []) ⟨hx, hb, hml, hown, hts⟩ (c_X10_readExpression l g T a0 ha0 (0) ⟨by omega, by omega⟩ qop hqop qar hqar ad34 had34 ad36 had36 (gn) ⟨by omega, by omega⟩ (f9_46) ⟨by omega, by omega⟩ (f10_46) ⟨by omega, by omega⟩ (f11_46) ⟨by omega, by omega⟩ (f12_46) ⟨by omega, by omega⟩ (f14_46) ⟨by omega, by omega⟩ (gc) ⟨by omega, by omega⟩ rop rar r37 r38 (by first | omega | assumption) (by first | omega | assumption) (by first | omega | assumption)) (cwV 1 hts gv_X10_320 rfl rfl rfl hd_X10_readExpression ⟨Nat.le_trans (by decide) hR1, Nat.le_trans (by decide) hR2⟩) (tf_preV hk hW ha0 (ci := 10) rfl rfl ⟨hs20, hs21, hpv33, hpv35, hs23, hs28, hs29, hs30, hs31, hs27, hs24, hs25, hs26, hr37, hr38⟩) rfl rfl hl.1 rfl (lv_room (Nat.le_of_ble_eq_true rfl)) dX10_readClause_91 ⟨Nat.zero_le _, Nat.zero_le _⟩) hW (by decide) (fun HX locsX hW hFX hpX => ?_)
        have hs39 := tf_keepF hFX ha0 rfl rfl (by decide) hs20
        have hs40 := tf_keepF hFX ha0 rfl rfl (by decide) hs21
        have hs41 := tf_keepF hFX ha0 rfl rfl (by decide) hs22
        have hs42 := tf_keepF hFX ha0 rfl rfl (by decide) hs23
        have hs43 := tf_keepF hFX ha0 rfl rfl (by decide) hs32
        have hs44 := tf_keepC hFX hqcl rfl (by decide) hu19
        have hs45 := tf_keepF hFX ha0 rfl rfl (by decide) hpv33
        have hs46 := tf_keepF hFX ha0 rfl rfl (by decide) hpv35
        obtain ⟨gb1_X, gf1_X, gt1_X, gs1_X, gw1_X, gc1_X, rop1_X, rar1_X, hXX_0, hXX_1, hXX_2, hXX_3, hXX_4, hXX_5, hXX_6, hXX_7, hBX_0, hBX_1, hBX_2, hBX_3, hBX_4, hBX_5, hRX_0, hRX_1, hRX_2, hRX_3⟩ := hpX
        refine lv_aload_n hx hb dX10_readClause_94 rfl (lv_at hl 0 rfl) ?_
        refine tf_get hx hb hts inlX10 hown hK (ci := 10) rfl hW ha0 rfl 16 rfl (by decide) (hts _ fl_X10_30) dX10_readClause_95 (fun v47 hv47 hsv47 => ?_)
        obtain rfl : v47 = .ref qcl := Option.some.inj (hsv47.symm.trans hs41)
        refine lv_iload_n hx hb dX10_readClause_98 rfl (lv_at hl 1 rfl) ?_
        refine tf_iconst hx hb dX10_readClause_99 ?_
        refine tf_iadd hx hb dX10_readClause_100 ?_
        refine lv_aload_n hx hb dX10_readClause_101 rfl (lv_at hl 0 rfl) ?_
        refine tf_get hx hb hts inlX10 hown hK (ci := 10) rfl hW ha0 rfl 17 rfl (by decide) (hts _ fl_X10_239) dX10_readClause_102 (fun v48 hv48 hsv48 => ?_)
        obtain rfl : v48 = .int (Int32.ofInt gc1_X) := Option.some.inj (hsv48.symm.trans hXX_5)
        refine tf_rwst (t0 := 0) hx hb hK hW hqcl rfl rfl (by omega) (by omega) (by decide) (tf_u0 (by omega) (by omega)) ⟨by omega, by omega⟩ trivial dX10_readClause_105 (fun H49 locs49 hW hu49 hq49 => ?_)
        have hs50 := tf_keepQ hs39 (hq49 _ (tf_ne ha0 hqcl (by decide)))
        have hs51 := tf_keepQ hs40 (hq49 _ (tf_ne ha0 hqcl (by decide)))
        have hs52 := tf_keepQ hs41 (hq49 _ (tf_ne ha0 hqcl (by decide)))
        have hs53 := tf_keepQ hs42 (hq49 _ (tf_ne ha0 hqcl (by decide)))
        have hs54 := tf_keepQ hs43 (hq49 _ (tf_ne ha0 hqcl (by decide)))
        have hs55 := tf_keepQ hs45 (hq49 _ (tf_ne ha0 hqcl (by decide)))
        have hs56 := tf_keepQ hs46 (hq49 _ (tf_ne ha0 hqcl (by decide)))
        have hs57 := tf_keepQ hXX_0 (hq49 _ (tf_ne ha0 hqcl (by decide)))
        have hs58 := tf_keepQ hXX_1 (hq49 _ (tf_ne ha0 hqcl (by decide)))
        have hs59 := tf_keepQ hXX_2 (hq49 _ (tf_ne ha0 hqcl (by decide)))
        have hs60 := tf_keepQ hXX_3 (hq49 _ (tf_ne ha0 hqcl (by decide)))
        have hs61 := tf_keepQ hXX_4 (hq49 _ (tf_ne ha0 hqcl (by decide)))
        have hs62 := tf_keepQ hXX_5 (hq49 _ (tf_ne ha0 hqcl (by decide)))
        have hs63 := tf_keepCQ hXX_6 (hq49 _ (tf_ne hqop hqcl (by decide)))
        have hs64 := tf_keepCQ hXX_7 (hq49 _ (tf_ne hqar hqcl (by decide)))
        have hu49 := hu49.trans (congrArg (fun w => tf_up w ((x1_46 + 4)) (gc1_X)) hs44)
        refine lv_aload_n hx hb dX10_readClause_106 rfl (lv_at hl 0 rfl) ?_
        refine tf_get hx hb hts inlX10 hown hK (ci := 10) rfl hW ha0 rfl 16 rfl (by decide) (hts _ fl_X10_30) dX10_readClause_107 (fun v65 hv65 hsv65 => ?_)
        obtain rfl : v65 = .ref qcl := Option.some.inj (hsv65.symm.trans hs52)
        refine lv_iload_n hx hb dX10_readClause_110 rfl (lv_at hl 1 rfl) ?_
        refine tf_iconst hx hb dX10_readClause_111 ?_
        refine tf_iadd hx hb dX10_readClause_112 ?_
        refine lv_aload_n hx hb dX10_readClause_113 rfl (lv_at hl 0 rfl) ?_
        refine tf_get hx hb hts inlX10 hown hK (ci := 10) rfl hW ha0 rfl 17 rfl (by decide) (hts _ fl_X10_239) dX10_readClause_114 (fun v66 hv66 hsv66 => ?_)
        obtain rfl : v66 = .int (Int32.ofInt gc1_X) := Option.some.inj (hsv66.symm.trans hs62)
        refine tf_rwst (t0 := 0) hx hb hK hW hqcl rfl rfl (by omega) (by omega) (by decide) (tf_u0 (by omega) (by omega)) ⟨by omega, by omega⟩ trivial dX10_readClause_117 (fun H67 locs67 hW hu67 hq67 => ?_)
        have hs68 := tf_keepQ hs50 (hq67 _ (tf_ne ha0 hqcl (by decide)))
        have hs69 := tf_keepQ hs51 (hq67 _ (tf_ne ha0 hqcl (by decide)))
        have hs70 := tf_keepQ hs52 (hq67 _ (tf_ne ha0 hqcl (by decide)))
        have hs71 := tf_keepQ hs53 (hq67 _ (tf_ne ha0 hqcl (by decide)))
        have hs72 := tf_keepQ hs54 (hq67 _ (tf_ne ha0 hqcl (by decide)))
        have hs73 := tf_keepQ hs55 (hq67 _ (tf_ne ha0 hqcl (by decide)))
        have hs74 := tf_keepQ hs56 (hq67 _ (tf_ne ha0 hqcl (by decide)))
        have hs75 := tf_keepQ hs57 (hq67 _ (tf_ne ha0 hqcl (by decide)))
        have hs76 := tf_keepQ hs58 (hq67 _ (tf_ne ha0 hqcl (by decide)))
        have hs77 := tf_keepQ hs59 (hq67 _ (tf_ne ha0 hqcl (by decide)))
        have hs78 := tf_keepQ hs60 (hq67 _ (tf_ne ha0 hqcl (by decide)))
        have hs79 := tf_keepQ hs61 (hq67 _ (tf_ne ha0 hqcl (by decide)))
        have hs80 := tf_keepQ hs62 (hq67 _ (tf_ne ha0 hqcl (by decide)))
        have hs81 := tf_keepCQ hs63 (hq67 _ (tf_ne hqop hqcl (by decide)))
        have hs82 := tf_keepCQ hs64 (hq67 _ (tf_ne hqar hqcl (by decide)))
        have hu67 := hu67.trans (congrArg (fun w => tf_up w ((x1_46 + 5)) (gc1_X)) hu49)
        refine lv_aload_n hx hb dX10_readClause_118 rfl (lv_at hl 0 rfl) ?_
        refine tf_get hx hb hts inlX10 hown hK (ci := 10) rfl hW ha0 rfl 14 rfl (by decide) (hts _ fl_X10_200) dX10_readClause_119 (fun v83 hv83 hsv83 => ?_)
        obtain rfl : v83 = .int (Int32.ofInt gb1_X) := Option.some.inj (hsv83.symm.trans hs75)
        refine tf_if_ne (tgt := 144) hx hb ⟨by omega, by omega⟩ dX10_readClause_122 (by decide) (fun h84 => ?_) (fun h84 => ?_)
        · refine lv_aload_n hx hb dX10_readClause_144 rfl (lv_at hl 0 rfl) ?_
          refine tf_get hx hb hts inlX10 hown hK (ci := 10) rfl hW ha0 rfl 16 rfl (by decide) (hts _ fl_X10_30) dX10_readClause_145 (fun v85 hv85 hsv85 => ?_)
          obtain rfl : v85 = .ref qcl := Option.some.inj (hsv85.symm.trans hs70)
          refine lv_iload_n hx hb dX10_readClause_148 rfl (lv_at hl 1 rfl) ?_
          refine tf_bipush hx hb dX10_readClause_149 (by decide) ?_
          refine tf_iadd hx hb dX10_readClause_151 ?_
          refine lv_aload_n hx hb dX10_readClause_152 rfl (lv_at hl 0 rfl) ?_
          refine tf_get hx hb hts inlX10 hown hK (ci := 10) rfl hW ha0 rfl 17 rfl (by decide) (hts _ fl_X10_239) dX10_readClause_153 (fun v86 hv86 hsv86 => ?_)
          obtain rfl : v86 = .int (Int32.ofInt gc1_X) := Option.some.inj (hsv86.symm.trans hs80)
          refine tf_rwst (t0 := 0) hx hb hK hW hqcl rfl rfl (by omega) (by omega) (by decide) (tf_u0 (by omega) (by omega)) ⟨by omega, by omega⟩ trivial dX10_readClause_156 (fun H87 locs87 hW hu87 hq87 => ?_)
          have hs88 := tf_keepQ hs68 (hq87 _ (tf_ne ha0 hqcl (by decide)))
          have hs89 := tf_keepQ hs69 (hq87 _ (tf_ne ha0 hqcl (by decide)))
          have hs90 := tf_keepQ hs70 (hq87 _ (tf_ne ha0 hqcl (by decide)))
          have hs91 := tf_keepQ hs71 (hq87 _ (tf_ne ha0 hqcl (by decide)))
          have hs92 := tf_keepQ hs72 (hq87 _ (tf_ne ha0 hqcl (by decide)))
          have hs93 := tf_keepQ hs73 (hq87 _ (tf_ne ha0 hqcl (by decide)))
          have hs94 := tf_keepQ hs74 (hq87 _ (tf_ne ha0 hqcl (by decide)))
          have hs95 := tf_keepQ hs75 (hq87 _ (tf_ne ha0 hqcl (by decide)))
          have hs96 := tf_keepQ hs76 (hq87 _ (tf_ne ha0 hqcl (by decide)))
          have hs97 := tf_keepQ hs77 (hq87 _ (tf_ne ha0 hqcl (by decide)))
          have hs98 := tf_keepQ hs78 (hq87 _ (tf_ne ha0 hqcl (by decide)))
          have hs99 := tf_keepQ hs79 (hq87 _ (tf_ne ha0 hqcl (by decide)))
          have hs100 := tf_keepQ hs80 (hq87 _ (tf_ne ha0 hqcl (by decide)))
          have hs101 := tf_keepCQ hs81 (hq87 _ (tf_ne hqop hqcl (by decide)))
          have hs102 := tf_keepCQ hs82 (hq87 _ (tf_ne hqar hqcl (by decide)))
          have hu87 := hu87.trans (congrArg (fun w => tf_up w ((x1_46 + 6)) (gc1_X)) hu67)
          exact tf_retv hx hb hr hlocks hQ hW ⟨(gb1_X), (gf1_X), (gt1_X), (gs1_X), (gw1_X), (gc1_X), ((gk + 1)), rop1_X, rar1_X, (tf_up (tf_up (tf_up (tf_up rNCL_46 ((x1_46 + 3)) (gc)) ((x1_46 + 4)) (gc1_X)) ((x1_46 + 5)) (gc1_X)) ((x1_46 + 6)) (gc1_X)), hs95, hs96, hs97, hs98, hs99, hs100, hs92, hs101, hs102, hu87, ⟨by omega, by omega⟩, ⟨by omega, by omega⟩, ⟨by omega, by omega⟩, ⟨by omega, by omega⟩, ⟨by omega, by omega⟩, ⟨by omega, by omega⟩, ⟨by omega, by omega⟩, (by first | omega | assumption), (by first | omega | assumption), (by first | omega | assumption), (by first | exact Or.inl (by omega) | exact hRY_3.elim Or.inl (fun hy => Or.inr (tf_clA hCL0 (by omega) (hRX_3.resolve_left (by omega)) hy hRNCL_46 hL1 (by omega))) | exact Or.inr (tf_clB hCL0 (by omega) (hRX_3.resolve_left (by omega)) hRNCL_46 hL1 (by omega) (by omega) (by omega)))⟩ dX10_readClause_157
        · refine lv_aload_n hx hb dX10_readClause_125 rfl (lv_at hl 0 rfl) ?_
          refine tf_ldc2 (z := 294) hx hb hown (hts _ kl_X10_323) (by decide) dX10_readClause_126 ?_
          refine tf_calli (va_runV (As := [.long (Int64.ofInt 294)]) (rest := []) ⟨hx, hb, hml, hown, hts⟩ (c_X10_isWord l g T a0 ha0 (294) ⟨by omega, by omega⟩ (gs1_X) ⟨by omega, by omega⟩ (gw1_X) ⟨by omega, by omega⟩) (cwV 1 hts gv_X10_258 rfl rfl rfl hd_X10_isWord ⟨Nat.le_trans (by decide) hR1, Nat.le_trans (by decide) hR2⟩) (tf_preV hk hW ha0 (ci := 10) rfl rfl ⟨hs78, hs79⟩) rfl rfl hl.1 rfl (lv_room (Nat.le_of_ble_eq_true rfl)) dX10_readClause_129 ⟨Nat.zero_le _, Nat.zero_le _⟩) hW (by decide) (fun z103 H103 locs103 hW hF103 hp103 => ?_)
          have hs104 := tf_keepF hF103 ha0 rfl rfl (by decide) hs68
          have hs105 := tf_keepF hF103 ha0 rfl rfl (by decide) hs69
          have hs106 := tf_keepF hF103 ha0 rfl rfl (by decide) hs70
          have hs107 := tf_keepF hF103 ha0 rfl rfl (by decide) hs71
          have hs108 := tf_keepF hF103 ha0 rfl rfl (by decide) hs72
          have hs109 := tf_keepF hF103 ha0 rfl rfl (by decide) hs73
          have hs110 := tf_keepF hF103 ha0 rfl rfl (by decide) hs74
          have hs111 := tf_keepF hF103 ha0 rfl rfl (by decide) hs75
          have hs112 := tf_keepF hF103 ha0 rfl rfl (by decide) hs76
          have hs113 := tf_keepF hF103 ha0 rfl rfl (by decide) hs77
          have hs114 := tf_keepF hF103 ha0 rfl rfl (by decide) hs78
          have hs115 := tf_keepF hF103 ha0 rfl rfl (by decide) hs79
          have hs116 := tf_keepF hF103 ha0 rfl rfl (by decide) hs80
          have hs117 := tf_keepC hF103 hqop rfl (by decide) hs81
          have hs118 := tf_keepC hF103 hqar rfl (by decide) hs82
          have hs119 := tf_keepC hF103 hqcl rfl (by decide) hu67
          rcases hp103 with ⟨rfl, h120⟩ | ⟨rfl⟩
          · refine tf_if_eq (tgt := 144) hx hb ⟨by decide, by decide⟩ dX10_readClause_132 (by decide) (fun h121 => ?_) (fun h121 => ?_)
            · exfalso; omega
            · refine lv_aload_n hx hb dX10_readClause_135 rfl (lv_at hl 0 rfl) ?_
              refine tf_callv (va_runV (As := []) (rest := []) ⟨hx, hb, hml, hown, hts⟩ (c_X10_next l g T a0 ha0 (gn) ⟨by omega, by omega⟩ (gt1_X) ⟨by omega, by omega⟩ (by first | omega | assumption)) (cwV 0 hts gv_X10_204 rfl rfl rfl hd_X10_next ⟨Nat.le_trans (by decide) hR1, Nat.le_trans (by decide) hR2⟩) (tf_preV hk hW ha0 (ci := 10) rfl rfl ⟨hs107, hs113⟩) rfl rfl hl.1 rfl (lv_room (Nat.le_of_ble_eq_true rfl)) dX10_readClause_136 ⟨Nat.zero_le _, Nat.zero_le _⟩) hW (by decide) (fun H122 locs122 hW hF122 hp122 => ?_)
              have hs123 := tf_keepF hF122 ha0 rfl rfl (by decide) hs104
              have hs124 := tf_keepF hF122 ha0 rfl rfl (by decide) hs105
              have hs125 := tf_keepF hF122 ha0 rfl rfl (by decide) hs106
              have hs126 := tf_keepF hF122 ha0 rfl rfl (by decide) hs107
              have hs127 := tf_keepF hF122 ha0 rfl rfl (by decide) hs108
              have hs128 := tf_keepF hF122 ha0 rfl rfl (by decide) hs109
              have hs129 := tf_keepF hF122 ha0 rfl rfl (by decide) hs110
              have hs130 := tf_keepF hF122 ha0 rfl rfl (by decide) hs111
              have hs131 := tf_keepF hF122 ha0 rfl rfl (by decide) hs116
              have hs132 := tf_keepC hF122 hqop rfl (by decide) hs117
              have hs133 := tf_keepC hF122 hqar rfl (by decide) hs118
              have hs134 := tf_keepC hF122 hqcl rfl (by decide) hs119
              obtain ⟨gf1_122, gt1_122, gs1_122, gw1_122, hX122_0, hX122_1, hX122_2, hX122_3, hB122_0, hB122_1, hB122_2, hB122_3, hR122_0, hR122_1⟩ := hp122
              refine lv_aload_n hx hb dX10_readClause_139 rfl (lv_at hl 0 rfl) ?_
              refine tf_iconst hx hb dX10_readClause_140 ?_
              obtain ⟨r135, hr135⟩ := tf_rname hW ad34
              obtain ⟨r136, hr136⟩ := tf_rname hW ad36
              refine tf_callv (va_runV (As := [.int (Int32.ofInt 1)]) (rest := []) ⟨hx, hb, hml, hown, hts⟩ (c_X10_readExpression l g T a0 ha0 (1) ⟨by omega, by omega⟩ qop hqop qar hqar ad34 had34 ad36 had36 (gn) ⟨by omega, by omega⟩ (gf1_122) ⟨by omega, by omega⟩ (gt1_122) ⟨by omega, by omega⟩ (gs1_122) ⟨by omega, by omega⟩ (gw1_122) ⟨by omega, by omega⟩ (gb1_X) ⟨by omega, by omega⟩ (gc1_X) ⟨by omega, by omega⟩ rop1_X rar1_X r135 r136 (by first | omega | assumption) (by first | omega | assumption) (by first | omega | assumption)) (cwV 1 hts gv_X10_320 rfl rfl rfl hd_X10_readExpression ⟨Nat.le_trans (by decide) hR1, Nat.le_trans (by decide) hR2⟩) (tf_preV hk hW ha0 (ci := 10) rfl rfl ⟨hs123, hs124, hs128, hs129, hs126, hX122_0, hX122_1, hX122_2, hX122_3, hs130, hs131, hs132, hs133, hr135, hr136⟩) rfl rfl hl.1 rfl (lv_room (Nat.le_of_ble_eq_true rfl)) dX10_readClause_141 ⟨Nat.zero_le _, Nat.zero_le _⟩) hW (by decide) (fun HY locsY hW hFY hpY => ?_)
              have hs137 := tf_keepF hFY ha0 rfl rfl (by decide) hs123
              have hs138 := tf_keepF hFY ha0 rfl rfl (by decide) hs124
              have hs139 := tf_keepF hFY ha0 rfl rfl (by decide) hs125
              have hs140 := tf_keepF hFY ha0 rfl rfl (by decide) hs126
              have hs141 := tf_keepF hFY ha0 rfl rfl (by decide) hs127
              have hs142 := tf_keepF hFY ha0 rfl rfl (by decide) hs128
              have hs143 := tf_keepF hFY ha0 rfl rfl (by decide) hs129
              have hs144 := tf_keepC hFY hqcl rfl (by decide) hs134
              obtain ⟨gb1_Y, gf1_Y, gt1_Y, gs1_Y, gw1_Y, gc1_Y, rop1_Y, rar1_Y, hXY_0, hXY_1, hXY_2, hXY_3, hXY_4, hXY_5, hXY_6, hXY_7, hBY_0, hBY_1, hBY_2, hBY_3, hBY_4, hBY_5, hRY_0, hRY_1, hRY_2, hRY_3⟩ := hpY
              refine lv_aload_n hx hb dX10_readClause_144 rfl (lv_at hl 0 rfl) ?_
              refine tf_get hx hb hts inlX10 hown hK (ci := 10) rfl hW ha0 rfl 16 rfl (by decide) (hts _ fl_X10_30) dX10_readClause_145 (fun v145 hv145 hsv145 => ?_)
              obtain rfl : v145 = .ref qcl := Option.some.inj (hsv145.symm.trans hs139)
              refine lv_iload_n hx hb dX10_readClause_148 rfl (lv_at hl 1 rfl) ?_
              refine tf_bipush hx hb dX10_readClause_149 (by decide) ?_
              refine tf_iadd hx hb dX10_readClause_151 ?_
              refine lv_aload_n hx hb dX10_readClause_152 rfl (lv_at hl 0 rfl) ?_
              refine tf_get hx hb hts inlX10 hown hK (ci := 10) rfl hW ha0 rfl 17 rfl (by decide) (hts _ fl_X10_239) dX10_readClause_153 (fun v146 hv146 hsv146 => ?_)
              obtain rfl : v146 = .int (Int32.ofInt gc1_Y) := Option.some.inj (hsv146.symm.trans hXY_5)
              refine tf_rwst (t0 := 0) hx hb hK hW hqcl rfl rfl (by omega) (by omega) (by decide) (tf_u0 (by omega) (by omega)) ⟨by omega, by omega⟩ trivial dX10_readClause_156 (fun H147 locs147 hW hu147 hq147 => ?_)
              have hs148 := tf_keepQ hs137 (hq147 _ (tf_ne ha0 hqcl (by decide)))
              have hs149 := tf_keepQ hs138 (hq147 _ (tf_ne ha0 hqcl (by decide)))
              have hs150 := tf_keepQ hs139 (hq147 _ (tf_ne ha0 hqcl (by decide)))
              have hs151 := tf_keepQ hs140 (hq147 _ (tf_ne ha0 hqcl (by decide)))
              have hs152 := tf_keepQ hs141 (hq147 _ (tf_ne ha0 hqcl (by decide)))
              have hs153 := tf_keepQ hs142 (hq147 _ (tf_ne ha0 hqcl (by decide)))
              have hs154 := tf_keepQ hs143 (hq147 _ (tf_ne ha0 hqcl (by decide)))
              have hs155 := tf_keepQ hXY_0 (hq147 _ (tf_ne ha0 hqcl (by decide)))
              have hs156 := tf_keepQ hXY_1 (hq147 _ (tf_ne ha0 hqcl (by decide)))
              have hs157 := tf_keepQ hXY_2 (hq147 _ (tf_ne ha0 hqcl (by decide)))
              have hs158 := tf_keepQ hXY_3 (hq147 _ (tf_ne ha0 hqcl (by decide)))
              have hs159 := tf_keepQ hXY_4 (hq147 _ (tf_ne ha0 hqcl (by decide)))
              have hs160 := tf_keepQ hXY_5 (hq147 _ (tf_ne ha0 hqcl (by decide)))
              have hs161 := tf_keepCQ hXY_6 (hq147 _ (tf_ne hqop hqcl (by decide)))
              have hs162 := tf_keepCQ hXY_7 (hq147 _ (tf_ne hqar hqcl (by decide)))
              have hu147 := hu147.trans (congrArg (fun w => tf_up w ((x1_46 + 6)) (gc1_Y)) hs144)
              exact tf_retv hx hb hr hlocks hQ hW ⟨(gb1_Y), (gf1_Y), (gt1_Y), (gs1_Y), (gw1_Y), (gc1_Y), ((gk + 1)), rop1_Y, rar1_Y, (tf_up (tf_up (tf_up (tf_up rNCL_46 ((x1_46 + 3)) (gc)) ((x1_46 + 4)) (gc1_X)) ((x1_46 + 5)) (gc1_X)) ((x1_46 + 6)) (gc1_Y)), hs155, hs156, hs157, hs158, hs159, hs160, hs152, hs161, hs162, hu147, ⟨by omega, by omega⟩, ⟨by omega, by omega⟩, ⟨by omega, by omega⟩, ⟨by omega, by omega⟩, ⟨by omega, by omega⟩, ⟨by omega, by omega⟩, ⟨by omega, by omega⟩, (by first | omega | assumption), (by first | omega | assumption), (by first | omega | assumption), (by first | exact Or.inl (by omega) | exact hRY_3.elim Or.inl (fun hy => Or.inr (tf_clA hCL0 (by omega) (hRX_3.resolve_left (by omega)) hy hRNCL_46 hL1 (by omega))) | exact Or.inr (tf_clB hCL0 (by omega) (hRX_3.resolve_left (by omega)) hRNCL_46 hL1 (by omega) (by omega) (by omega)))⟩ dX10_readClause_157
          · refine tf_if_eq (tgt := 144) hx hb ⟨by decide, by decide⟩ dX10_readClause_132 (by decide) (fun h163 => ?_) (fun h163 => ?_)
            · refine lv_aload_n hx hb dX10_readClause_144 rfl (lv_at hl 0 rfl) ?_
              refine tf_get hx hb hts inlX10 hown hK (ci := 10) rfl hW ha0 rfl 16 rfl (by decide) (hts _ fl_X10_30) dX10_readClause_145 (fun v164 hv164 hsv164 => ?_)
              obtain rfl : v164 = .ref qcl := Option.some.inj (hsv164.symm.trans hs106)
              refine lv_iload_n hx hb dX10_readClause_148 rfl (lv_at hl 1 rfl) ?_
              refine tf_bipush hx hb dX10_readClause_149 (by decide) ?_
              refine tf_iadd hx hb dX10_readClause_151 ?_
              refine lv_aload_n hx hb dX10_readClause_152 rfl (lv_at hl 0 rfl) ?_
              refine tf_get hx hb hts inlX10 hown hK (ci := 10) rfl hW ha0 rfl 17 rfl (by decide) (hts _ fl_X10_239) dX10_readClause_153 (fun v165 hv165 hsv165 => ?_)
              obtain rfl : v165 = .int (Int32.ofInt gc1_X) := Option.some.inj (hsv165.symm.trans hs116)
              refine tf_rwst (t0 := 0) hx hb hK hW hqcl rfl rfl (by omega) (by omega) (by decide) (tf_u0 (by omega) (by omega)) ⟨by omega, by omega⟩ trivial dX10_readClause_156 (fun H166 locs166 hW hu166 hq166 => ?_)
              have hs167 := tf_keepQ hs104 (hq166 _ (tf_ne ha0 hqcl (by decide)))
              have hs168 := tf_keepQ hs105 (hq166 _ (tf_ne ha0 hqcl (by decide)))
              have hs169 := tf_keepQ hs106 (hq166 _ (tf_ne ha0 hqcl (by decide)))
              have hs170 := tf_keepQ hs107 (hq166 _ (tf_ne ha0 hqcl (by decide)))
              have hs171 := tf_keepQ hs108 (hq166 _ (tf_ne ha0 hqcl (by decide)))
              have hs172 := tf_keepQ hs109 (hq166 _ (tf_ne ha0 hqcl (by decide)))
              have hs173 := tf_keepQ hs110 (hq166 _ (tf_ne ha0 hqcl (by decide)))
              have hs174 := tf_keepQ hs111 (hq166 _ (tf_ne ha0 hqcl (by decide)))
              have hs175 := tf_keepQ hs112 (hq166 _ (tf_ne ha0 hqcl (by decide)))
              have hs176 := tf_keepQ hs113 (hq166 _ (tf_ne ha0 hqcl (by decide)))
              have hs177 := tf_keepQ hs114 (hq166 _ (tf_ne ha0 hqcl (by decide)))
              have hs178 := tf_keepQ hs115 (hq166 _ (tf_ne ha0 hqcl (by decide)))
              have hs179 := tf_keepQ hs116 (hq166 _ (tf_ne ha0 hqcl (by decide)))
              have hs180 := tf_keepCQ hs117 (hq166 _ (tf_ne hqop hqcl (by decide)))
              have hs181 := tf_keepCQ hs118 (hq166 _ (tf_ne hqar hqcl (by decide)))
              have hu166 := hu166.trans (congrArg (fun w => tf_up w ((x1_46 + 6)) (gc1_X)) hs119)
              exact tf_retv hx hb hr hlocks hQ hW ⟨(gb1_X), (gf1_X), (gt1_X), (gs1_X), (gw1_X), (gc1_X), ((gk + 1)), rop1_X, rar1_X, (tf_up (tf_up (tf_up (tf_up rNCL_46 ((x1_46 + 3)) (gc)) ((x1_46 + 4)) (gc1_X)) ((x1_46 + 5)) (gc1_X)) ((x1_46 + 6)) (gc1_X)), hs174, hs175, hs176, hs177, hs178, hs179, hs171, hs180, hs181, hu166, ⟨by omega, by omega⟩, ⟨by omega, by omega⟩, ⟨by omega, by omega⟩, ⟨by omega, by omega⟩, ⟨by omega, by omega⟩, ⟨by omega, by omega⟩, ⟨by omega, by omega⟩, (by first | omega | assumption), (by first | omega | assumption), (by first | omega | assumption), (by first | exact Or.inl (by omega) | exact hRY_3.elim Or.inl (fun hy => Or.inr (tf_clA hCL0 (by omega) (hRX_3.resolve_left (by omega)) hy hRNCL_46 hL1 (by omega))) | exact Or.inr (tf_clB hCL0 (by omega) (hRX_3.resolve_left (by omega)) hRNCL_46 hL1 (by omega) (by omega) (by omega)))⟩ dX10_readClause_157
            · exfalso; omega
      · refine lv_aload_n hx hb dX10_readClause_52 rfl (lv_at hl 0 rfl) ?_
        refine tf_get hx hb hts inlX10 hown hK (ci := 10) rfl hW ha0 rfl 16 rfl (by decide) (hts _ fl_X10_30) dX10_readClause_53 (fun v182 hv182 hsv182 => ?_)
        obtain rfl : v182 = .ref qcl := Option.some.inj (hsv182.symm.trans hs16_46)
        refine lv_iload_n hx hb dX10_readClause_56 rfl (lv_at hl 1 rfl) ?_
        refine lv_iload_n hx hb dX10_readClause_57 rfl (lv_at hl 2 rfl) ?_
        refine tf_iadd hx hb dX10_readClause_58 ?_
        refine tf_iconst hx hb dX10_readClause_59 ?_
        refine tf_rwst (t0 := 0) hx hb hK hW hqcl rfl rfl (by omega) (by omega) (by decide) (tf_u0 (by omega) (by omega)) ⟨by omega, by omega⟩ trivial dX10_readClause_60 (fun H183 locs183 hW hu183 hq183 => ?_)
        have hs184 := tf_keepQ hs18_46 (hq183 _ (tf_ne ha0 hqcl (by decide)))
        have hs185 := tf_keepQ hs19_46 (hq183 _ (tf_ne ha0 hqcl (by decide)))
        have hs186 := tf_keepQ hs16_46 (hq183 _ (tf_ne ha0 hqcl (by decide)))
        have hs187 := tf_keepQ hs8_46 (hq183 _ (tf_ne ha0 hqcl (by decide)))
        have hs188 := tf_keepQ hs17_46 (hq183 _ (tf_ne ha0 hqcl (by decide)))
        have hs189 := tf_keepQ hs15_46 (hq183 _ (tf_ne ha0 hqcl (by decide)))
        have hs190 := tf_keepCQ hcNOP_46 (hq183 _ (tf_ne hqop hqcl (by decide)))
        have hs191 := tf_keepCQ hcNAR_46 (hq183 _ (tf_ne hqar hqcl (by decide)))
        have hs192 := tf_keepQ hs14_46 (hq183 _ (tf_ne ha0 hqcl (by decide)))
        have hs193 := tf_keepQ hs9_46 (hq183 _ (tf_ne ha0 hqcl (by decide)))
        have hs194 := tf_keepQ hs10_46 (hq183 _ (tf_ne ha0 hqcl (by decide)))
        have hs195 := tf_keepQ hs11_46 (hq183 _ (tf_ne ha0 hqcl (by decide)))
        have hs196 := tf_keepQ hs12_46 (hq183 _ (tf_ne ha0 hqcl (by decide)))
        have hu183 := hu183.trans (congrArg (fun w => tf_up w ((x1_46 + x2_46)) (0)) hcNCL_46)
        refine lv_iinc (v := Int32.ofInt ((x2_46 + 1))) (lv' := [(2, .int (Int32.ofInt ((x2_46 + 1)))), (0, .ref a0), (1, .int (Int32.ofInt x1_46))]) hx hb dX10_readClause_61 hl (k := 2) rfl (Int32.ofInt_add _ _).symm (by decide) rfl (fun ls hl => ?_)
        refine lv_goto (tgt := 46) hx hb dX10_readClause_64 (by decide) ?_
        exact ih_46 (x1_46) ⟨by omega, by omega⟩ ((x2_46 + 1)) ⟨by omega, by omega⟩ (tf_up rNCL_46 ((x1_46 + x2_46)) (0)) (by first | exact fun j _ => rfl | exact fun j hj => by rw [tf_up_ne (by omega)]; exact hRNCL_46 j hj) (f14_46) ⟨by omega, by omega⟩ (f9_46) ⟨by omega, by omega⟩ (f10_46) ⟨by omega, by omega⟩ (f11_46) ⟨by omega, by omega⟩ (f12_46) ⟨by omega, by omega⟩ (by first | omega | assumption) (by first | omega | assumption) (by first | omega | assumption) (by first | omega | assumption) (by first | omega | assumption) (by first | omega | assumption) (by omega) _ _ hW hs184 hs185 hs186 hs187 hs188 hs189 hs190 hs191 hu183 hs192 hs193 hs194 hs195 hs196 _ (lv_sub hl [1, 2, 0] rfl)
  refine tf_enter (As := [.ref a0]) hargs (Nat.le_of_ble_eq_true rfl) (fun ls hl => ?_)
  have hl : lv_has ls 3 [(0, .ref a0)] := hl
  refine lv_aload_n hx hb dX10_readClause_0 rfl (lv_at hl 0 rfl) ?_
  refine lv_aload_n hx hb dX10_readClause_1 rfl (lv_at hl 0 rfl) ?_
  refine tf_ldc2 (z := 18523243) hx hb hown (hts _ kl_X10_315) (by decide) dX10_readClause_2 ?_
  refine tf_calli (va_runV (As := [.long (Int64.ofInt 18523243)]) (rest := [.ref a0]) ⟨hx, hb, hml, hown, hts⟩ (c_X10_isWord l g T a0 ha0 (18523243) ⟨by omega, by omega⟩ (gs) ⟨by omega, by omega⟩ (gw) ⟨by omega, by omega⟩) (cwV 1 hts gv_X10_258 rfl rfl rfl hd_X10_isWord ⟨Nat.le_trans (by decide) hR1, Nat.le_trans (by decide) hR2⟩) (tf_preV hk hW ha0 (ci := 10) rfl rfl ⟨he6, he7⟩) rfl rfl hl.1 rfl (lv_room (Nat.le_of_ble_eq_true rfl)) dX10_readClause_5 ⟨Nat.zero_le _, Nat.zero_le _⟩) hW (by decide) (fun z197 H197 locs197 hW hF197 hp197 => ?_)
  have hs198 := tf_keepF hF197 ha0 rfl rfl (by decide) he0
  have hs199 := tf_keepF hF197 ha0 rfl rfl (by decide) he1
  have hs200 := tf_keepF hF197 ha0 rfl rfl (by decide) he2
  have hs201 := tf_keepF hF197 ha0 rfl rfl (by decide) he3
  have hs202 := tf_keepF hF197 ha0 rfl rfl (by decide) he4
  have hs203 := tf_keepF hF197 ha0 rfl rfl (by decide) he5
  have hs204 := tf_keepF hF197 ha0 rfl rfl (by decide) he6
  have hs205 := tf_keepF hF197 ha0 rfl rfl (by decide) he7
  have hs206 := tf_keepF hF197 ha0 rfl rfl (by decide) he8
  have hs207 := tf_keepF hF197 ha0 rfl rfl (by decide) he9
  have hs208 := tf_keepF hF197 ha0 rfl rfl (by decide) he10
  have hs209 := tf_keepC hF197 hqop rfl (by decide) he11
  have hs210 := tf_keepC hF197 hqar rfl (by decide) he12
  have hs211 := tf_keepC hF197 hqcl rfl (by decide) he13
  rcases hp197 with ⟨rfl, h212⟩ | ⟨rfl⟩
  · refine tf_if_eq (tgt := 24) hx hb ⟨by decide, by decide⟩ dX10_readClause_8 (by decide) (fun h213 => ?_) (fun h213 => ?_)
    · exfalso; omega
    · refine lv_aload_n hx hb dX10_readClause_11 rfl (lv_at hl 0 rfl) ?_
      refine tf_get hx hb hts inlX10 hown hK (ci := 10) rfl hW ha0 rfl 15 rfl (by decide) (hts _ fl_X10_317) dX10_readClause_12 (fun v214 hv214 hsv214 => ?_)
      obtain rfl : v214 = .int (Int32.ofInt gk) := Option.some.inj (hsv214.symm.trans hs208)
      refine tf_bipush hx hb dX10_readClause_15 (by decide) ?_
      refine tf_icmp_ge (tgt := 24) hx hb ⟨by omega, by omega⟩ ⟨by decide, by decide⟩ dX10_readClause_17 (by decide) (fun h215 => ?_) (fun h215 => ?_)
      · refine tf_iconst hx hb dX10_readClause_24 ?_
        refine tf_callv (va_runV (As := [.int (Int32.ofInt 0)]) (rest := []) ⟨hx, hb, hml, hown, hts⟩ (c_X10_must l g T a0 ha0 (0) ⟨by omega, by omega⟩ (gn) ⟨by omega, by omega⟩ (gf) ⟨by omega, by omega⟩ (gt) ⟨by omega, by omega⟩ (gs) ⟨by omega, by omega⟩ (gw) ⟨by omega, by omega⟩ (gb) ⟨by omega, by omega⟩ (by first | omega | assumption)) (cwV 1 hts gv_X10_235 rfl rfl rfl hd_X10_must ⟨Nat.le_trans (by decide) hR1, Nat.le_trans (by decide) hR2⟩) (tf_preV hk hW ha0 (ci := 10) rfl rfl ⟨hs201, hs202, hs203, hs204, hs205, hs206⟩) rfl rfl hl.1 rfl (lv_room (Nat.le_of_ble_eq_true rfl)) dX10_readClause_25 ⟨Nat.zero_le _, Nat.zero_le _⟩) hW (by decide) (fun HU locsU hW hFU hpU => ?_)
        have hs216 := tf_keepF hFU ha0 rfl rfl (by decide) hs198
        have hs217 := tf_keepF hFU ha0 rfl rfl (by decide) hs199
        have hs218 := tf_keepF hFU ha0 rfl rfl (by decide) hs200
        have hs219 := tf_keepF hFU ha0 rfl rfl (by decide) hs201
        have hs220 := tf_keepF hFU ha0 rfl rfl (by decide) hs207
        have hs221 := tf_keepF hFU ha0 rfl rfl (by decide) hs208
        have hs222 := tf_keepC hFU hqop rfl (by decide) hs209
        have hs223 := tf_keepC hFU hqar rfl (by decide) hs210
        have hs224 := tf_keepC hFU hqcl rfl (by decide) hs211
        obtain ⟨gb1_U, gf1_U, gt1_U, gs1_U, gw1_U, hXU_0, hXU_1, hXU_2, hXU_3, hXU_4, hBU_0, hBU_1, hBU_2, hBU_3, hBU_4, hRU_0⟩ := hpU
        refine lv_aload_n hx hb dX10_readClause_28 rfl (lv_at hl 0 rfl) ?_
        refine tf_get hx hb hts inlX10 hown hK (ci := 10) rfl hW ha0 rfl 14 rfl (by decide) (hts _ fl_X10_200) dX10_readClause_29 (fun v225 hv225 hsv225 => ?_)
        obtain rfl : v225 = .int (Int32.ofInt gb1_U) := Option.some.inj (hsv225.symm.trans hXU_0)
        refine tf_if_eq (tgt := 36) hx hb ⟨by omega, by omega⟩ dX10_readClause_32 (by decide) (fun h226 => ?_) (fun h226 => ?_)
        · refine tf_bipush hx hb dX10_readClause_36 (by decide) ?_
          refine lv_aload_n hx hb dX10_readClause_38 rfl (lv_at hl 0 rfl) ?_
          refine tf_get hx hb hts inlX10 hown hK (ci := 10) rfl hW ha0 rfl 15 rfl (by decide) (hts _ fl_X10_317) dX10_readClause_39 (fun v227 hv227 hsv227 => ?_)
          obtain rfl : v227 = .int (Int32.ofInt gk) := Option.some.inj (hsv227.symm.trans hs221)
          refine tf_imul hx hb dX10_readClause_42 ?_
          refine lv_istore_n (lv' := [(1, .int (Int32.ofInt ((8 * gk)))), (0, .ref a0)]) hx hb dX10_readClause_43 rfl hl (by decide) rfl (fun ls hl => ?_)
          refine tf_iconst hx hb dX10_readClause_44 ?_
          refine lv_istore_n (lv' := [(2, .int (Int32.ofInt 0)), (1, .int (Int32.ofInt ((8 * gk)))), (0, .ref a0)]) hx hb dX10_readClause_45 rfl hl (by decide) rfl (fun ls hl => ?_)
          exact j_46 ((8 - 0 + 1 : Int)).toNat ((8 * gk)) ⟨by omega, by omega⟩ (0) ⟨by omega, by omega⟩ rcl (by first | exact fun j _ => rfl | exact fun j hj => by rw [tf_up_ne (by omega)]; exact hRNCL_46 j hj) (gb1_U) ⟨by omega, by omega⟩ (gf1_U) ⟨by omega, by omega⟩ (gt1_U) ⟨by omega, by omega⟩ (gs1_U) ⟨by omega, by omega⟩ (gw1_U) ⟨by omega, by omega⟩ (by first | omega | assumption) (by first | omega | assumption) (by first | omega | assumption) (by first | omega | assumption) (by first | omega | assumption) (by first | omega | assumption) (by omega) _ _ hW hs216 hs217 hs218 hs219 hs220 hs221 hs222 hs223 hs224 hXU_0 hXU_1 hXU_2 hXU_3 hXU_4 _ (lv_sub hl [2, 1, 0] rfl)
        · exact tf_retv hx hb hr hlocks hQ hW ⟨(gb1_U), (gf1_U), (gt1_U), (gs1_U), (gw1_U), (gc), (gk), rop, rar, rcl, hXU_0, hXU_1, hXU_2, hXU_3, hXU_4, hs220, hs221, hs222, hs223, hs224, ⟨by omega, by omega⟩, ⟨by omega, by omega⟩, ⟨by omega, by omega⟩, ⟨by omega, by omega⟩, ⟨by omega, by omega⟩, ⟨by omega, by omega⟩, ⟨by omega, by omega⟩, (by first | omega | assumption), (by first | omega | assumption), (by first | omega | assumption), (Or.inl (by omega))⟩ dX10_readClause_35
      · refine tf_iconst hx hb dX10_readClause_20 ?_
        refine lv_goto (tgt := 25) hx hb dX10_readClause_21 (by decide) ?_
        refine tf_callv (va_runV (As := [.int (Int32.ofInt 1)]) (rest := []) ⟨hx, hb, hml, hown, hts⟩ (c_X10_must l g T a0 ha0 (1) ⟨by omega, by omega⟩ (gn) ⟨by omega, by omega⟩ (gf) ⟨by omega, by omega⟩ (gt) ⟨by omega, by omega⟩ (gs) ⟨by omega, by omega⟩ (gw) ⟨by omega, by omega⟩ (gb) ⟨by omega, by omega⟩ (by first | omega | assumption)) (cwV 1 hts gv_X10_235 rfl rfl rfl hd_X10_must ⟨Nat.le_trans (by decide) hR1, Nat.le_trans (by decide) hR2⟩) (tf_preV hk hW ha0 (ci := 10) rfl rfl ⟨hs201, hs202, hs203, hs204, hs205, hs206⟩) rfl rfl hl.1 rfl (lv_room (Nat.le_of_ble_eq_true rfl)) dX10_readClause_25 ⟨Nat.zero_le _, Nat.zero_le _⟩) hW (by decide) (fun HU locsU hW hFU hpU => ?_)
        have hs228 := tf_keepF hFU ha0 rfl rfl (by decide) hs198
        have hs229 := tf_keepF hFU ha0 rfl rfl (by decide) hs199
        have hs230 := tf_keepF hFU ha0 rfl rfl (by decide) hs200
        have hs231 := tf_keepF hFU ha0 rfl rfl (by decide) hs201
        have hs232 := tf_keepF hFU ha0 rfl rfl (by decide) hs207
        have hs233 := tf_keepF hFU ha0 rfl rfl (by decide) hs208
        have hs234 := tf_keepC hFU hqop rfl (by decide) hs209
        have hs235 := tf_keepC hFU hqar rfl (by decide) hs210
        have hs236 := tf_keepC hFU hqcl rfl (by decide) hs211
        obtain ⟨gb1_U, gf1_U, gt1_U, gs1_U, gw1_U, hXU_0, hXU_1, hXU_2, hXU_3, hXU_4, hBU_0, hBU_1, hBU_2, hBU_3, hBU_4, hRU_0⟩ := hpU
        refine lv_aload_n hx hb dX10_readClause_28 rfl (lv_at hl 0 rfl) ?_
        refine tf_get hx hb hts inlX10 hown hK (ci := 10) rfl hW ha0 rfl 14 rfl (by decide) (hts _ fl_X10_200) dX10_readClause_29 (fun v237 hv237 hsv237 => ?_)
        obtain rfl : v237 = .int (Int32.ofInt gb1_U) := Option.some.inj (hsv237.symm.trans hXU_0)
        refine tf_if_eq (tgt := 36) hx hb ⟨by omega, by omega⟩ dX10_readClause_32 (by decide) (fun h238 => ?_) (fun h238 => ?_)
        · refine tf_bipush hx hb dX10_readClause_36 (by decide) ?_
          refine lv_aload_n hx hb dX10_readClause_38 rfl (lv_at hl 0 rfl) ?_
          refine tf_get hx hb hts inlX10 hown hK (ci := 10) rfl hW ha0 rfl 15 rfl (by decide) (hts _ fl_X10_317) dX10_readClause_39 (fun v239 hv239 hsv239 => ?_)
          obtain rfl : v239 = .int (Int32.ofInt gk) := Option.some.inj (hsv239.symm.trans hs233)
          refine tf_imul hx hb dX10_readClause_42 ?_
          refine lv_istore_n (lv' := [(1, .int (Int32.ofInt ((8 * gk)))), (0, .ref a0)]) hx hb dX10_readClause_43 rfl hl (by decide) rfl (fun ls hl => ?_)
          refine tf_iconst hx hb dX10_readClause_44 ?_
          refine lv_istore_n (lv' := [(2, .int (Int32.ofInt 0)), (1, .int (Int32.ofInt ((8 * gk)))), (0, .ref a0)]) hx hb dX10_readClause_45 rfl hl (by decide) rfl (fun ls hl => ?_)
          exact j_46 ((8 - 0 + 1 : Int)).toNat ((8 * gk)) ⟨by omega, by omega⟩ (0) ⟨by omega, by omega⟩ rcl (by first | exact fun j _ => rfl | exact fun j hj => by rw [tf_up_ne (by omega)]; exact hRNCL_46 j hj) (gb1_U) ⟨by omega, by omega⟩ (gf1_U) ⟨by omega, by omega⟩ (gt1_U) ⟨by omega, by omega⟩ (gs1_U) ⟨by omega, by omega⟩ (gw1_U) ⟨by omega, by omega⟩ (by first | omega | assumption) (by first | omega | assumption) (by first | omega | assumption) (by first | omega | assumption) (by first | omega | assumption) (by first | omega | assumption) (by omega) _ _ hW hs228 hs229 hs230 hs231 hs232 hs233 hs234 hs235 hs236 hXU_0 hXU_1 hXU_2 hXU_3 hXU_4 _ (lv_sub hl [2, 1, 0] rfl)
        · exact tf_retv hx hb hr hlocks hQ hW ⟨(gb1_U), (gf1_U), (gt1_U), (gs1_U), (gw1_U), (gc), (gk), rop, rar, rcl, hXU_0, hXU_1, hXU_2, hXU_3, hXU_4, hs232, hs233, hs234, hs235, hs236, ⟨by omega, by omega⟩, ⟨by omega, by omega⟩, ⟨by omega, by omega⟩, ⟨by omega, by omega⟩, ⟨by omega, by omega⟩, ⟨by omega, by omega⟩, ⟨by omega, by omega⟩, (by first | omega | assumption), (by first | omega | assumption), (by first | omega | assumption), (Or.inl (by omega))⟩ dX10_readClause_35
  · refine tf_if_eq (tgt := 24) hx hb ⟨by decide, by decide⟩ dX10_readClause_8 (by decide) (fun h240 => ?_) (fun h240 => ?_)
    · refine tf_iconst hx hb dX10_readClause_24 ?_
      refine tf_callv (va_runV (As := [.int (Int32.ofInt 0)]) (rest := []) ⟨hx, hb, hml, hown, hts⟩ (c_X10_must l g T a0 ha0 (0) ⟨by omega, by omega⟩ (gn) ⟨by omega, by omega⟩ (gf) ⟨by omega, by omega⟩ (gt) ⟨by omega, by omega⟩ (gs) ⟨by omega, by omega⟩ (gw) ⟨by omega, by omega⟩ (gb) ⟨by omega, by omega⟩ (by first | omega | assumption)) (cwV 1 hts gv_X10_235 rfl rfl rfl hd_X10_must ⟨Nat.le_trans (by decide) hR1, Nat.le_trans (by decide) hR2⟩) (tf_preV hk hW ha0 (ci := 10) rfl rfl ⟨hs201, hs202, hs203, hs204, hs205, hs206⟩) rfl rfl hl.1 rfl (lv_room (Nat.le_of_ble_eq_true rfl)) dX10_readClause_25 ⟨Nat.zero_le _, Nat.zero_le _⟩) hW (by decide) (fun HU locsU hW hFU hpU => ?_)
      have hs241 := tf_keepF hFU ha0 rfl rfl (by decide) hs198
      have hs242 := tf_keepF hFU ha0 rfl rfl (by decide) hs199
      have hs243 := tf_keepF hFU ha0 rfl rfl (by decide) hs200
      have hs244 := tf_keepF hFU ha0 rfl rfl (by decide) hs201
      have hs245 := tf_keepF hFU ha0 rfl rfl (by decide) hs207
      have hs246 := tf_keepF hFU ha0 rfl rfl (by decide) hs208
      have hs247 := tf_keepC hFU hqop rfl (by decide) hs209
      have hs248 := tf_keepC hFU hqar rfl (by decide) hs210
      have hs249 := tf_keepC hFU hqcl rfl (by decide) hs211
      obtain ⟨gb1_U, gf1_U, gt1_U, gs1_U, gw1_U, hXU_0, hXU_1, hXU_2, hXU_3, hXU_4, hBU_0, hBU_1, hBU_2, hBU_3, hBU_4, hRU_0⟩ := hpU
      refine lv_aload_n hx hb dX10_readClause_28 rfl (lv_at hl 0 rfl) ?_
      refine tf_get hx hb hts inlX10 hown hK (ci := 10) rfl hW ha0 rfl 14 rfl (by decide) (hts _ fl_X10_200) dX10_readClause_29 (fun v250 hv250 hsv250 => ?_)
      obtain rfl : v250 = .int (Int32.ofInt gb1_U) := Option.some.inj (hsv250.symm.trans hXU_0)
      refine tf_if_eq (tgt := 36) hx hb ⟨by omega, by omega⟩ dX10_readClause_32 (by decide) (fun h251 => ?_) (fun h251 => ?_)
      · refine tf_bipush hx hb dX10_readClause_36 (by decide) ?_
        refine lv_aload_n hx hb dX10_readClause_38 rfl (lv_at hl 0 rfl) ?_
        refine tf_get hx hb hts inlX10 hown hK (ci := 10) rfl hW ha0 rfl 15 rfl (by decide) (hts _ fl_X10_317) dX10_readClause_39 (fun v252 hv252 hsv252 => ?_)
        obtain rfl : v252 = .int (Int32.ofInt gk) := Option.some.inj (hsv252.symm.trans hs246)
        refine tf_imul hx hb dX10_readClause_42 ?_
        refine lv_istore_n (lv' := [(1, .int (Int32.ofInt ((8 * gk)))), (0, .ref a0)]) hx hb dX10_readClause_43 rfl hl (by decide) rfl (fun ls hl => ?_)
        refine tf_iconst hx hb dX10_readClause_44 ?_
        refine lv_istore_n (lv' := [(2, .int (Int32.ofInt 0)), (1, .int (Int32.ofInt ((8 * gk)))), (0, .ref a0)]) hx hb dX10_readClause_45 rfl hl (by decide) rfl (fun ls hl => ?_)
        exact j_46 ((8 - 0 + 1 : Int)).toNat ((8 * gk)) ⟨by omega, by omega⟩ (0) ⟨by omega, by omega⟩ rcl (by first | exact fun j _ => rfl | exact fun j hj => by rw [tf_up_ne (by omega)]; exact hRNCL_46 j hj) (gb1_U) ⟨by omega, by omega⟩ (gf1_U) ⟨by omega, by omega⟩ (gt1_U) ⟨by omega, by omega⟩ (gs1_U) ⟨by omega, by omega⟩ (gw1_U) ⟨by omega, by omega⟩ (by first | omega | assumption) (by first | omega | assumption) (by first | omega | assumption) (by first | omega | assumption) (by first | omega | assumption) (by first | omega | assumption) (by omega) _ _ hW hs241 hs242 hs243 hs244 hs245 hs246 hs247 hs248 hs249 hXU_0 hXU_1 hXU_2 hXU_3 hXU_4 _ (lv_sub hl [2, 1, 0] rfl)
      · exact tf_retv hx hb hr hlocks hQ hW ⟨(gb1_U), (gf1_U), (gt1_U), (gs1_U), (gw1_U), (gc), (gk), rop, rar, rcl, hXU_0, hXU_1, hXU_2, hXU_3, hXU_4, hs245, hs246, hs247, hs248, hs249, ⟨by omega, by omega⟩, ⟨by omega, by omega⟩, ⟨by omega, by omega⟩, ⟨by omega, by omega⟩, ⟨by omega, by omega⟩, ⟨by omega, by omega⟩, ⟨by omega, by omega⟩, (by first | omega | assumption), (by first | omega | assumption), (by first | omega | assumption), (Or.inl (by omega))⟩ dX10_readClause_35
    · exfalso; omega

abbrev M_X10_law : List (Nat × Nat) := [(27, 0), (28, 0), (32, 0), (33, 0), (34, 0), (35, 0), (36, 0), (50, 0), (50, 1), (50, 8), (50, 9), (50, 10), (50, 11), (50, 12), (50, 13), (50, 14), (50, 15), (50, 17), (50, 20), (50, 23), (50, 24)]
set_option maxHeartbeats 4000000 in
set_option maxRecDepth 100000 in
theorem c_X10_law (l : Launch) (g : tf_G) (T : tf_T) (a0 : Nat) (ha0 : T a0 = some (50, 0)) : Met l yX10_law (cd_X10_law :: wsL_law) ({ frames := 9, cells := 0, slots := 0, locals := 194 }) (tf_P g T [.ref a0] (fun H => True)) (tf_Qi g M_X10_law T (fun z _ _ => (-2147483648) ≤ z ∧ z ≤ 2147483647)) 0 0 (fun q => tf_B g ≤ q) := by
  refine Met.ofW (cc := cX10_law) (maxL := 3) (ret := (some .int)) (by decide) rfl ?_
  intro p e s m args below meth c s₁ B hml hv
  obtain ⟨hargs, hk, hW0, hB, hpre⟩ := hv
  have hx := B.exec
  have hb := B.bytes
  have hr := B.returns
  have hts : ∀ w ∈ wsL_law, w.before args s = true := fun w h => atoms_spec (ws := cd_X10_law :: wsL_law) B.pre w (List.mem_cons_of_mem _ h)
  have hown : s.vm.findClass RX10 = some m.cls := findClass_of_methodNamed B.named
  have hlocks := B.notSynchronized
  have hK := hk.1
  have hW := tf_n.start (M := M_X10_law) hW0 hB
  obtain ⟨Q, hQ⟩ : ∃ q, q = MQ below (tf_Qi g M_X10_law T (fun z _ _ => (-2147483648) ≤ z ∧ z ≤ 2147483647)) args s 0 0 (fun q => tf_B g ≤ q) := ⟨_, rfl⟩
  rw [← hQ]
  obtain ⟨R, hR⟩ : ∃ q, q = (headSpec (cd_X10_law :: wsL_law) ({ frames := 9, cells := 0, slots := 0, locals := 194 })).room := ⟨_, rfl⟩
  rw [← hR]
  have hR1 : 9 ≤ R.frames := by rw [hR]; exact Nat.le_refl _
  have hR2 : 194 ≤ R.locals := by rw [hR]; exact Nat.le_refl _
  have hR3 : 0 ≤ R.cells := by rw [hR]; exact Nat.le_refl _
  have hR4 : 0 ≤ R.slots := by rw [hR]; exact Nat.le_refl _
  have hin := (name_of_methodNamed B.named B.method).1
  clear hR B
  obtain ⟨vb0, hfb0, hokb0⟩ := tf_peek hW ha0 (ci := 10) rfl 3 rfl
  obtain ⟨b0, rfl, hb0⟩ := tf_v1 hokb0
  obtain ⟨r0, hr0⟩ := tf_rname hW b0
  have hror0 : tf_RO r0 := hr0 ▸ tf_ROof hW hb0
  obtain ⟨vqop, hfqop, hokqop⟩ := tf_peek hW ha0 (ci := 10) rfl 18 rfl
  obtain ⟨qop, rfl, hqop⟩ := tf_v1 hokqop
  obtain ⟨rop, hrop⟩ := tf_rname hW qop
  obtain ⟨vqar, hfqar, hokqar⟩ := tf_peek hW ha0 (ci := 10) rfl 19 rfl
  obtain ⟨qar, rfl, hqar⟩ := tf_v1 hokqar
  obtain ⟨rar, hrar⟩ := tf_rname hW qar
  obtain ⟨vqcl, hfqcl, hokqcl⟩ := tf_peek hW ha0 (ci := 10) rfl 16 rfl
  obtain ⟨qcl, rfl, hqcl⟩ := tf_v1 hokqcl
  obtain ⟨rcl, hrcl⟩ := tf_rname hW qcl
  have j_180 : ∀ (n_180 : Nat), ∀ (x1_180 : Int), 430 ≤ x1_180 ∧ x1_180 ≤ 4930 → ∀ (x2_180 : Int), 0 ≤ x2_180 ∧ x2_180 ≤ 400 → ∀ (f17_180 : Int), 0 ≤ f17_180 ∧ f17_180 ≤ 400 → ∀ (f15_180 : Int), 0 ≤ f15_180 ∧ f15_180 ≤ 12 → ∀ (rNOP_180 : Int → Int), (True) → ∀ (rNAR_180 : Int → Int), (True) → ∀ (rNCL_180 : Int → Int), (True) → ∀ (rROW_180 : Int → Int), (tf_l2 r0 rNCL_180 rNOP_180 rNAR_180 x1_180 f15_180 x2_180 rROW_180) → (tf_CL rNCL_180 rNOP_180 rNAR_180 f15_180 f17_180) → (x1_180 = 430 + 900 * r0 1) → (r0 1 ≤ 5) → (x2_180 ≤ f17_180) → (f17_180 - x2_180 + 1 ≤ (n_180 : Int)) → ∀ (H : Heap) (locs : List Loc), tf_n tf_ktw g M_X10_law T s.heap T H locs → tf_s H a0 (g.1.2 10 3) = some (.ref b0) → tf_s H a0 (g.1.2 10 18) = some (.ref qop) → tf_s H a0 (g.1.2 10 19) = some (.ref qar) → tf_s H a0 (g.1.2 10 17) = some (.int (Int32.ofInt f17_180)) → tf_s H a0 (g.1.2 10 15) = some (.int (Int32.ofInt f15_180)) → tf_rw H qop = rNOP_180 → tf_rw H qar = rNAR_180 → tf_rw H qcl = rNCL_180 → tf_rw H b0 = rROW_180 → tf_zz g T b0 H → ∀ (ls : Array Slot), lv_has ls 3 [(0, .ref a0), (1, .int (Int32.ofInt x1_180)), (2, .int (Int32.ofInt x2_180))] → W p l e R s m args below meth c H locs 0 0 Q (F0 m 180 ls []) := by
    intro n_180
    induction n_180 with
    | zero =>
      intro x1_180 hx1_180 x2_180 hx2_180 f17_180 hf17_180 f15_180 hf15_180 rNOP_180 hRNOP_180 rNAR_180 hRNAR_180 rNCL_180 hRNCL_180 rROW_180 hRROW_180 hi0_180 hi1_180 hi2_180 hi3_180 hm_180
      exfalso; omega
    | succ n_180 ih_180 =>
      intro x1_180 hx1_180 x2_180 hx2_180 f17_180 hf17_180 f15_180 hf15_180 rNOP_180 hRNOP_180 rNAR_180 hRNAR_180 rNCL_180 hRNCL_180 rROW_180 hRROW_180 hi0_180 hi1_180 hi2_180 hi3_180 hm_180 H locs hW hs3_180 hs18_180 hs19_180 hs17_180 hs15_180 hcNOP_180 hcNAR_180 hcNCL_180 hcROW_180 hZ ls hl
      refine lv_iload_n hx hb dX10_law_180 rfl (lv_at hl 2 rfl) ?_
      refine lv_aload_n hx hb dX10_law_181 rfl (lv_at hl 0 rfl) ?_
      refine tf_get hx hb hts inlX10 hown hK (ci := 10) rfl hW ha0 rfl 17 rfl (by decide) (hts _ fl_X10_239) dX10_law_182 (fun v1 hv1 hsv1 => ?_)
      obtain rfl : v1 = .int (Int32.ofInt f17_180) := Option.some.inj (hsv1.symm.trans hs17_180)
      refine tf_icmp_ge (tgt := 234) hx hb ⟨by omega, by omega⟩ ⟨by omega, by omega⟩ dX10_law_185 (by decide) (fun h2 => ?_) (fun h2 => ?_)
      · have hO1 := hRROW_180.1.1 1 (by omega)
        have hW := tf_strongR hW hZ hb0 (by rw [hcROW_180]; exact tf_law_RO hror0 hRROW_180 (show x2_180 = f17_180 by omega) (by omega) (by have := hror0.2.1; omega) (by omega) (by omega) (by omega) hi0_180)
        refine lv_aload_n hx hb dX10_law_234 rfl (lv_at hl 0 rfl) ?_
        refine tf_get hx hb hts inlX10 hown hK (ci := 10) rfl hW ha0 rfl 3 rfl (by decide) (hts _ fl_X10_13) dX10_law_235 (fun v3 hv3 hsv3 => ?_)
        obtain rfl : v3 = .ref b0 := Option.some.inj (hsv3.symm.trans hs3_180)
        refine tf_iconst hx hb dX10_law_238 ?_
        refine lv_dup2_11 hx hb dX10_law_239 rfl rfl ?_
        refine tf_iald (t0 := 0) hx hb hK hW hb0 rfl rfl (by omega) (by omega) dX10_law_240 (fun v4 hv4 hsv4 => ?_)
        obtain ⟨z5, rfl, hz5⟩ := tf_v0 hv4
        have er6 : rROW_180 1 = z5 := hcROW_180 ▸ tf_rw_of (by omega) hsv4 ⟨by omega, by omega⟩
        have hg7 := tf_rd1 (tf_ROof hW hb0) hsv4 ⟨by omega, by omega⟩ (by omega)
        refine tf_iconst hx hb dX10_law_241 ?_
        refine tf_iadd hx hb dX10_law_242 ?_
        refine tf_rowst hx hb hK hW hb0 rfl (by omega) (by omega) (by decide) ⟨by omega, by omega⟩ (tf_RO_any (tf_ROof hW hb0) (by omega)) dX10_law_243 (fun H8 locs8 hW hu8 hq8 => ?_)
        have hs9 := tf_keepQ hs3_180 (hq8 _ (tf_ne ha0 hb0 (by decide)))
        have hs10 := tf_keepQ hs18_180 (hq8 _ (tf_ne ha0 hb0 (by decide)))
        have hs11 := tf_keepQ hs19_180 (hq8 _ (tf_ne ha0 hb0 (by decide)))
        have hs12 := tf_keepQ hs17_180 (hq8 _ (tf_ne ha0 hb0 (by decide)))
        have hs13 := tf_keepQ hs15_180 (hq8 _ (tf_ne ha0 hb0 (by decide)))
        have hs14 := tf_keepCQ hcNOP_180 (hq8 _ (tf_ne hqop hb0 (by decide)))
        have hs15 := tf_keepCQ hcNAR_180 (hq8 _ (tf_ne hqar hb0 (by decide)))
        have hs16 := tf_keepCQ hcNCL_180 (hq8 _ (tf_ne hqcl hb0 (by decide)))
        have hu8 := hu8.trans (congrArg (fun w => tf_up w (1) ((z5 + 1))) hcROW_180)
        refine lv_aload_n hx hb dX10_law_244 rfl (lv_at hl 0 rfl) ?_
        refine lv_aload_n hx hb dX10_law_245 rfl (lv_at hl 0 rfl) ?_
        refine tf_get hx hb hts inlX10 hown hK (ci := 10) rfl hW ha0 rfl 3 rfl (by decide) (hts _ fl_X10_13) dX10_law_246 (fun v17 hv17 hsv17 => ?_)
        obtain rfl : v17 = .ref b0 := Option.some.inj (hsv17.symm.trans hs9)
        refine tf_iconst hx hb dX10_law_249 ?_
        refine tf_iald (t0 := 0) hx hb hK hW hb0 rfl rfl (by omega) (by omega) dX10_law_250 (fun v18 hv18 hsv18 => ?_)
        obtain ⟨z19, rfl, hz19⟩ := tf_v0 hv18
        have er20 : (tf_up rROW_180 (1) ((z5 + 1))) 1 = z19 := hu8 ▸ tf_rw_of (by omega) hsv18 ⟨by omega, by omega⟩
        have hg21 := tf_rd1 (tf_ROof hW hb0) hsv18 ⟨by omega, by omega⟩ (by omega)
        refine tf_iconst hx hb dX10_law_251 ?_
        refine tf_isub hx hb dX10_law_252 ?_
        refine tf_calli (va_runV (As := [.int (Int32.ofInt ((z19 - 1)))]) (rest := []) ⟨hx, hb, hml, hown, hts⟩ (c_X10_tell l g T a0 ha0 ((z19 - 1)) ⟨by omega, by omega⟩) (cwV 1 hts gv_X10_117 rfl rfl rfl hd_X10_tell ⟨Nat.le_trans (by decide) hR1, Nat.le_trans (by decide) hR2⟩) (tf_preV hk hW ha0 (ci := 10) rfl rfl trivial) rfl rfl hl.1 rfl (lv_room (Nat.le_of_ble_eq_true rfl)) dX10_law_253 ⟨Nat.zero_le _, Nat.zero_le _⟩) hW (by decide) (fun z22 H22 locs22 hW hF22 hp22 => ?_)
        have hs23 := tf_keepF hF22 ha0 rfl rfl (by decide) hs9
        have hs24 := tf_keepF hF22 ha0 rfl rfl (by decide) hs10
        have hs25 := tf_keepF hF22 ha0 rfl rfl (by decide) hs11
        have hs26 := tf_keepF hF22 ha0 rfl rfl (by decide) hs12
        have hs27 := tf_keepF hF22 ha0 rfl rfl (by decide) hs13
        have hs28 := tf_keepC hF22 hqop rfl (by decide) hs14
        have hs29 := tf_keepC hF22 hqar rfl (by decide) hs15
        have hs30 := tf_keepC hF22 hqcl rfl (by decide) hs16
        have hs31 := tf_keepC hF22 hb0 rfl (by decide) hu8
        obtain ⟨hp22_0, hp22_1, hp22_2⟩ := hp22
        exact tf_reti (z := z22) hx hb hr hlocks hQ hW (show (-2147483648) ≤ (z22) ∧ (z22) ≤ 2147483647 by omega) dX10_law_256
      · refine lv_aload_n hx hb dX10_law_188 rfl (lv_at hl 0 rfl) ?_
        refine tf_get hx hb hts inlX10 hown hK (ci := 10) rfl hW ha0 rfl 3 rfl (by decide) (hts _ fl_X10_13) dX10_law_189 (fun v32 hv32 hsv32 => ?_)
        obtain rfl : v32 = .ref b0 := Option.some.inj (hsv32.symm.trans hs3_180)
        refine lv_iload_n hx hb dX10_law_192 rfl (lv_at hl 1 rfl) ?_
        refine tf_bipush hx hb dX10_law_193 (by decide) ?_
        refine tf_iadd hx hb dX10_law_195 ?_
        refine tf_iconst hx hb dX10_law_196 ?_
        refine lv_iload_n hx hb dX10_law_197 rfl (lv_at hl 2 rfl) ?_
        refine tf_imul hx hb dX10_law_198 ?_
        refine tf_iadd hx hb dX10_law_199 ?_
        refine lv_aload_n hx hb dX10_law_200 rfl (lv_at hl 0 rfl) ?_
        refine tf_get hx hb hts inlX10 hown hK (ci := 10) rfl hW ha0 rfl 18 rfl (by decide) (hts _ fl_X10_33) dX10_law_201 (fun v33 hv33 hsv33 => ?_)
        obtain rfl : v33 = .ref qop := Option.some.inj (hsv33.symm.trans hs18_180)
        refine lv_iload_n hx hb dX10_law_204 rfl (lv_at hl 2 rfl) ?_
        refine tf_iald (t0 := 0) hx hb hK hW hqop rfl rfl (by omega) (by omega) dX10_law_205 (fun v34 hv34 hsv34 => ?_)
        obtain ⟨z35, rfl, hz35⟩ := tf_v0 hv34
        have er36 : rNOP_180 x2_180 = z35 := hcNOP_180 ▸ tf_rw_of (by omega) hsv34 ⟨by omega, by omega⟩
        refine tf_rwst (t0 := 0) hx hb hK hW hb0 rfl rfl (by omega) (by omega) (by decide) (tf_u0 (by omega) (by omega)) ⟨by omega, by omega⟩ trivial dX10_law_206 (fun H37 locs37 hW hu37 hq37 => ?_)
        have hZ := tf_zz_st hZ hq37
        have hs38 := tf_keepQ hs3_180 (hq37 _ (tf_ne ha0 hb0 (by decide)))
        have hs39 := tf_keepQ hs18_180 (hq37 _ (tf_ne ha0 hb0 (by decide)))
        have hs40 := tf_keepQ hs19_180 (hq37 _ (tf_ne ha0 hb0 (by decide)))
        have hs41 := tf_keepQ hs17_180 (hq37 _ (tf_ne ha0 hb0 (by decide)))
        have hs42 := tf_keepQ hs15_180 (hq37 _ (tf_ne ha0 hb0 (by decide)))
        have hs43 := tf_keepCQ hcNOP_180 (hq37 _ (tf_ne hqop hb0 (by decide)))
        have hs44 := tf_keepCQ hcNAR_180 (hq37 _ (tf_ne hqar hb0 (by decide)))
        have hs45 := tf_keepCQ hcNCL_180 (hq37 _ (tf_ne hqcl hb0 (by decide)))
        have hu37 := hu37.trans (congrArg (fun w => tf_up w (((x1_180 + 98) + (2 * x2_180))) (z35)) hcROW_180)
        refine lv_aload_n hx hb dX10_law_207 rfl (lv_at hl 0 rfl) ?_
        refine tf_get hx hb hts inlX10 hown hK (ci := 10) rfl hW ha0 rfl 3 rfl (by decide) (hts _ fl_X10_13) dX10_law_208 (fun v46 hv46 hsv46 => ?_)
        obtain rfl : v46 = .ref b0 := Option.some.inj (hsv46.symm.trans hs38)
        refine lv_iload_n hx hb dX10_law_211 rfl (lv_at hl 1 rfl) ?_
        refine tf_bipush hx hb dX10_law_212 (by decide) ?_
        refine tf_iadd hx hb dX10_law_214 ?_
        refine tf_iconst hx hb dX10_law_215 ?_
        refine lv_iload_n hx hb dX10_law_216 rfl (lv_at hl 2 rfl) ?_
        refine tf_imul hx hb dX10_law_217 ?_
        refine tf_iadd hx hb dX10_law_218 ?_
        refine tf_iconst hx hb dX10_law_219 ?_
        refine tf_iadd hx hb dX10_law_220 ?_
        refine lv_aload_n hx hb dX10_law_221 rfl (lv_at hl 0 rfl) ?_
        refine tf_get hx hb hts inlX10 hown hK (ci := 10) rfl hW ha0 rfl 19 rfl (by decide) (hts _ fl_X10_36) dX10_law_222 (fun v47 hv47 hsv47 => ?_)
        obtain rfl : v47 = .ref qar := Option.some.inj (hsv47.symm.trans hs40)
        refine lv_iload_n hx hb dX10_law_225 rfl (lv_at hl 2 rfl) ?_
        refine tf_iald (t0 := 0) hx hb hK hW hqar rfl rfl (by omega) (by omega) dX10_law_226 (fun v48 hv48 hsv48 => ?_)
        obtain ⟨z49, rfl, hz49⟩ := tf_v0 hv48
        have er50 : rNAR_180 x2_180 = z49 := hs44 ▸ tf_rw_of (by omega) hsv48 ⟨by omega, by omega⟩
        refine tf_rwst (t0 := 0) hx hb hK hW hb0 rfl rfl (by omega) (by omega) (by decide) (tf_u0 (by omega) (by omega)) ⟨by omega, by omega⟩ trivial dX10_law_227 (fun H51 locs51 hW hu51 hq51 => ?_)
        have hZ := tf_zz_st hZ hq51
        have hs52 := tf_keepQ hs38 (hq51 _ (tf_ne ha0 hb0 (by decide)))
        have hs53 := tf_keepQ hs39 (hq51 _ (tf_ne ha0 hb0 (by decide)))
        have hs54 := tf_keepQ hs40 (hq51 _ (tf_ne ha0 hb0 (by decide)))
        have hs55 := tf_keepQ hs41 (hq51 _ (tf_ne ha0 hb0 (by decide)))
        have hs56 := tf_keepQ hs42 (hq51 _ (tf_ne ha0 hb0 (by decide)))
        have hs57 := tf_keepCQ hs43 (hq51 _ (tf_ne hqop hb0 (by decide)))
        have hs58 := tf_keepCQ hs44 (hq51 _ (tf_ne hqar hb0 (by decide)))
        have hs59 := tf_keepCQ hs45 (hq51 _ (tf_ne hqcl hb0 (by decide)))
        have hu51 := hu51.trans (congrArg (fun w => tf_up w ((((x1_180 + 98) + (2 * x2_180)) + 1)) (z49)) hu37)
        refine lv_iinc (v := Int32.ofInt ((x2_180 + 1))) (lv' := [(2, .int (Int32.ofInt ((x2_180 + 1)))), (0, .ref a0), (1, .int (Int32.ofInt x1_180))]) hx hb dX10_law_228 hl (k := 2) rfl (Int32.ofInt_add _ _).symm (by decide) rfl (fun ls hl => ?_)
        refine lv_goto (tgt := 180) hx hb dX10_law_231 (by decide) ?_
        exact ih_180 (x1_180) ⟨by omega, by omega⟩ ((x2_180 + 1)) ⟨by omega, by omega⟩ (f17_180) ⟨by omega, by omega⟩ (f15_180) ⟨by omega, by omega⟩ rNOP_180 (trivial) rNAR_180 (trivial) rNCL_180 (trivial) (tf_up (tf_up rROW_180 (((x1_180 + 98) + (2 * x2_180))) (z35)) ((((x1_180 + 98) + (2 * x2_180)) + 1)) (z49)) (by first | exact tf_l2_0 hRROW_145 (by omega) | exact tf_l2_st hRROW_180 (by omega) (by omega) (by omega) er36 er50) (by first | omega | assumption) (by first | omega | assumption) (by first | omega | assumption) (by first | omega | assumption) (by omega) _ _ hW hs52 hs53 hs54 hs55 hs56 hs57 hs58 hs59 hu51 hZ _ (lv_sub hl [1, 2, 0] rfl)
  have j_145 : ∀ (n_145 : Nat), ∀ (x1_145 : Int), 430 ≤ x1_145 ∧ x1_145 ≤ 4930 → ∀ (x2_145 : Int), 0 ≤ x2_145 ∧ x2_145 ≤ 96 → ∀ (f17_145 : Int), 0 ≤ f17_145 ∧ f17_145 ≤ 400 → ∀ (f15_145 : Int), 0 ≤ f15_145 ∧ f15_145 ≤ 12 → ∀ (rNOP_145 : Int → Int), (True) → ∀ (rNAR_145 : Int → Int), (True) → ∀ (rNCL_145 : Int → Int), (True) → ∀ (rROW_145 : Int → Int), (tf_l1 r0 rNCL_145 x1_145 f15_145 x2_145 rROW_145) → (tf_CL rNCL_145 rNOP_145 rNAR_145 f15_145 f17_145) → (x1_145 = 430 + 900 * r0 1) → (r0 1 ≤ 5) → (x2_145 ≤ 8 * f15_145) → (8 * f15_145 - x2_145 + 1 ≤ (n_145 : Int)) → ∀ (H : Heap) (locs : List Loc), tf_n tf_ktw g M_X10_law T s.heap T H locs → tf_s H a0 (g.1.2 10 3) = some (.ref b0) → tf_s H a0 (g.1.2 10 18) = some (.ref qop) → tf_s H a0 (g.1.2 10 19) = some (.ref qar) → tf_s H a0 (g.1.2 10 16) = some (.ref qcl) → tf_s H a0 (g.1.2 10 17) = some (.int (Int32.ofInt f17_145)) → tf_s H a0 (g.1.2 10 15) = some (.int (Int32.ofInt f15_145)) → tf_rw H qop = rNOP_145 → tf_rw H qar = rNAR_145 → tf_rw H qcl = rNCL_145 → tf_rw H b0 = rROW_145 → tf_zz g T b0 H → ∀ (ls : Array Slot), lv_has ls 3 [(0, .ref a0), (1, .int (Int32.ofInt x1_145)), (2, .int (Int32.ofInt x2_145))] → W p l e R s m args below meth c H locs 0 0 Q (F0 m 145 ls []) := by
    intro n_145
    induction n_145 with
    | zero =>
      intro x1_145 hx1_145 x2_145 hx2_145 f17_145 hf17_145 f15_145 hf15_145 rNOP_145 hRNOP_145 rNAR_145 hRNAR_145 rNCL_145 hRNCL_145 rROW_145 hRROW_145 hi0_145 hi1_145 hi2_145 hi3_145 hm_145
      exfalso; omega
    | succ n_145 ih_145 =>
      intro x1_145 hx1_145 x2_145 hx2_145 f17_145 hf17_145 f15_145 hf15_145 rNOP_145 hRNOP_145 rNAR_145 hRNAR_145 rNCL_145 hRNCL_145 rROW_145 hRROW_145 hi0_145 hi1_145 hi2_145 hi3_145 hm_145 H locs hW hs3_145 hs18_145 hs19_145 hs16_145 hs17_145 hs15_145 hcNOP_145 hcNAR_145 hcNCL_145 hcROW_145 hZ ls hl
      refine lv_iload_n hx hb dX10_law_145 rfl (lv_at hl 2 rfl) ?_
      refine tf_bipush hx hb dX10_law_146 (by decide) ?_
      refine lv_aload_n hx hb dX10_law_148 rfl (lv_at hl 0 rfl) ?_
      refine tf_get hx hb hts inlX10 hown hK (ci := 10) rfl hW ha0 rfl 15 rfl (by decide) (hts _ fl_X10_317) dX10_law_149 (fun v60 hv60 hsv60 => ?_)
      obtain rfl : v60 = .int (Int32.ofInt f15_145) := Option.some.inj (hsv60.symm.trans hs15_145)
      refine tf_imul hx hb dX10_law_152 ?_
      refine tf_icmp_ge (tgt := 178) hx hb ⟨by omega, by omega⟩ ⟨by omega, by omega⟩ dX10_law_153 (by decide) (fun h61 => ?_) (fun h61 => ?_)
      · refine tf_iconst hx hb dX10_law_178 ?_
        refine lv_istore_n (lv' := [(2, .int (Int32.ofInt 0)), (0, .ref a0), (1, .int (Int32.ofInt x1_145))]) hx hb dX10_law_179 rfl hl (by decide) rfl (fun ls hl => ?_)
        exact j_180 ((f17_145 - 0 + 1 : Int)).toNat (x1_145) ⟨by omega, by omega⟩ (0) ⟨by omega, by omega⟩ (f17_145) ⟨by omega, by omega⟩ (f15_145) ⟨by omega, by omega⟩ rNOP_145 (trivial) rNAR_145 (trivial) rNCL_145 (trivial) rROW_145 (by first | exact tf_l2_0 hRROW_145 (by omega) | exact tf_l2_st hRROW_180 (by omega) (by omega) (by omega) er36 er50) (by first | omega | assumption) (by first | omega | assumption) (by first | omega | assumption) (by first | omega | assumption) (by omega) _ _ hW hs3_145 hs18_145 hs19_145 hs17_145 hs15_145 hcNOP_145 hcNAR_145 hcNCL_145 hcROW_145 hZ _ (lv_sub hl [1, 2, 0] rfl)
      · refine lv_aload_n hx hb dX10_law_156 rfl (lv_at hl 0 rfl) ?_
        refine tf_get hx hb hts inlX10 hown hK (ci := 10) rfl hW ha0 rfl 3 rfl (by decide) (hts _ fl_X10_13) dX10_law_157 (fun v62 hv62 hsv62 => ?_)
        obtain rfl : v62 = .ref b0 := Option.some.inj (hsv62.symm.trans hs3_145)
        refine lv_iload_n hx hb dX10_law_160 rfl (lv_at hl 1 rfl) ?_
        refine tf_iconst hx hb dX10_law_161 ?_
        refine tf_iadd hx hb dX10_law_162 ?_
        refine lv_iload_n hx hb dX10_law_163 rfl (lv_at hl 2 rfl) ?_
        refine tf_iadd hx hb dX10_law_164 ?_
        refine lv_aload_n hx hb dX10_law_165 rfl (lv_at hl 0 rfl) ?_
        refine tf_get hx hb hts inlX10 hown hK (ci := 10) rfl hW ha0 rfl 16 rfl (by decide) (hts _ fl_X10_30) dX10_law_166 (fun v63 hv63 hsv63 => ?_)
        obtain rfl : v63 = .ref qcl := Option.some.inj (hsv63.symm.trans hs16_145)
        refine lv_iload_n hx hb dX10_law_169 rfl (lv_at hl 2 rfl) ?_
        refine tf_iald (t0 := 0) hx hb hK hW hqcl rfl rfl (by omega) (by omega) dX10_law_170 (fun v64 hv64 hsv64 => ?_)
        obtain ⟨z65, rfl, hz65⟩ := tf_v0 hv64
        have er66 : rNCL_145 x2_145 = z65 := hcNCL_145 ▸ tf_rw_of (by omega) hsv64 ⟨by omega, by omega⟩
        refine tf_rwst (t0 := 0) hx hb hK hW hb0 rfl rfl (by omega) (by omega) (by decide) (tf_u0 (by omega) (by omega)) ⟨by omega, by omega⟩ trivial dX10_law_171 (fun H67 locs67 hW hu67 hq67 => ?_)
        have hZ := tf_zz_st hZ hq67
        have hs68 := tf_keepQ hs3_145 (hq67 _ (tf_ne ha0 hb0 (by decide)))
        have hs69 := tf_keepQ hs18_145 (hq67 _ (tf_ne ha0 hb0 (by decide)))
        have hs70 := tf_keepQ hs19_145 (hq67 _ (tf_ne ha0 hb0 (by decide)))
        have hs71 := tf_keepQ hs16_145 (hq67 _ (tf_ne ha0 hb0 (by decide)))
        have hs72 := tf_keepQ hs17_145 (hq67 _ (tf_ne ha0 hb0 (by decide)))
        have hs73 := tf_keepQ hs15_145 (hq67 _ (tf_ne ha0 hb0 (by decide)))
        have hs74 := tf_keepCQ hcNOP_145 (hq67 _ (tf_ne hqop hb0 (by decide)))
        have hs75 := tf_keepCQ hcNAR_145 (hq67 _ (tf_ne hqar hb0 (by decide)))
        have hs76 := tf_keepCQ hcNCL_145 (hq67 _ (tf_ne hqcl hb0 (by decide)))
        have hu67 := hu67.trans (congrArg (fun w => tf_up w (((x1_145 + 2) + x2_145)) (z65)) hcROW_145)
        refine lv_iinc (v := Int32.ofInt ((x2_145 + 1))) (lv' := [(2, .int (Int32.ofInt ((x2_145 + 1)))), (0, .ref a0), (1, .int (Int32.ofInt x1_145))]) hx hb dX10_law_172 hl (k := 2) rfl (Int32.ofInt_add _ _).symm (by decide) rfl (fun ls hl => ?_)
        refine lv_goto (tgt := 145) hx hb dX10_law_175 (by decide) ?_
        exact ih_145 (x1_145) ⟨by omega, by omega⟩ ((x2_145 + 1)) ⟨by omega, by omega⟩ (f17_145) ⟨by omega, by omega⟩ (f15_145) ⟨by omega, by omega⟩ rNOP_145 (trivial) rNAR_145 (trivial) rNCL_145 (trivial) (tf_up rROW_145 (((x1_145 + 2) + x2_145)) (z65)) (by first | exact tf_l1_0 | exact tf_l1_st hRROW_145 (by omega) (by omega) er66) (by first | assumption | exact hi2_51.resolve_left (by omega)) (by first | omega | assumption) (by first | omega | assumption) (by first | omega | assumption) (by omega) _ _ hW hs68 hs69 hs70 hs71 hs72 hs73 hs74 hs75 hs76 hu67 hZ _ (lv_sub hl [1, 2, 0] rfl)
  have j_51 : ∀ (n_51 : Nat), ∀ (f8_51 : Int), 0 ≤ f8_51 ∧ f8_51 ≤ 400 → ∀ (f14_51 : Int), 0 ≤ f14_51 ∧ f14_51 ≤ 1 → ∀ (f9_51 : Int), 0 ≤ f9_51 ∧ f9_51 ≤ 400 → ∀ (f10_51 : Int), 0 ≤ f10_51 ∧ f10_51 ≤ 400 → ∀ (f11_51 : Int), 0 ≤ f11_51 ∧ f11_51 ≤ 3 → ∀ (f12_51 : Int), (-9223372036854775808) ≤ f12_51 ∧ f12_51 ≤ 9223372036854775807 → ∀ (f17_51 : Int), 0 ≤ f17_51 ∧ f17_51 ≤ 400 → ∀ (f15_51 : Int), 0 ≤ f15_51 ∧ f15_51 ≤ 12 → ∀ (rNOP_51 : Int → Int), (True) → ∀ (rNAR_51 : Int → Int), (True) → ∀ (rNCL_51 : Int → Int), (True) → (f9_51 ≤ f10_51 ∧ f10_51 ≤ f8_51 ∧ (f11_51 = 0 → f9_51 = f8_51) ∧ (f11_51 ≠ 0 → f9_51 < f10_51) ∧ (f11_51 = 1 → 26 < f12_51 → f9_51 + 2 ≤ f10_51)) → (f17_51 ≤ f9_51) → (f14_51 = 1 ∨ tf_CL rNCL_51 rNOP_51 rNAR_51 f15_51 f17_51) → (r0 1 ≤ 5) → (401 - f9_51 + 1 ≤ (n_51 : Int)) → ∀ (H : Heap) (locs : List Loc), tf_n tf_kt g M_X10_law T s.heap T H locs → tf_s H a0 (g.1.2 10 3) = some (.ref b0) → tf_rw H b0 = r0 → tf_s H a0 (g.1.2 10 18) = some (.ref qop) → tf_s H a0 (g.1.2 10 19) = some (.ref qar) → tf_s H a0 (g.1.2 10 16) = some (.ref qcl) → tf_s H a0 (g.1.2 10 8) = some (.int (Int32.ofInt f8_51)) → tf_s H a0 (g.1.2 10 14) = some (.int (Int32.ofInt f14_51)) → tf_s H a0 (g.1.2 10 9) = some (.int (Int32.ofInt f9_51)) → tf_s H a0 (g.1.2 10 10) = some (.int (Int32.ofInt f10_51)) → tf_s H a0 (g.1.2 10 11) = some (.int (Int32.ofInt f11_51)) → tf_s H a0 (g.1.2 10 12) = some (.long (Int64.ofInt f12_51)) → tf_s H a0 (g.1.2 10 17) = some (.int (Int32.ofInt f17_51)) → tf_s H a0 (g.1.2 10 15) = some (.int (Int32.ofInt f15_51)) → tf_rw H qop = rNOP_51 → tf_rw H qar = rNAR_51 → tf_rw H qcl = rNCL_51 → ∀ (ls : Array Slot), lv_has ls 3 [(0, .ref a0)] → W p l e R s m args below meth c H locs 0 0 Q (F0 m 51 ls []) := by
    intro n_51
    induction n_51 with
    | zero =>
      intro f8_51 hf8_51 f14_51 hf14_51 f9_51 hf9_51 f10_51 hf10_51 f11_51 hf11_51 f12_51 hf12_51 f17_51 hf17_51 f15_51 hf15_51 rNOP_51 hRNOP_51 rNAR_51 hRNAR_51 rNCL_51 hRNCL_51 hi0_51 hi1_51 hi2_51 hi3_51 hm_51
      exfalso; omega
    | succ n_51 ih_51 =>
      intro f8_51 hf8_51 f14_51 hf14_51 f9_51 hf9_51 f10_51 hf10_51 f11_51 hf11_51 f12_51 hf12_51 f17_51 hf17_51 f15_51 hf15_51 rNOP_51 hRNOP_51 rNAR_51 hRNAR_51 rNCL_51 hRNCL_51 hi0_51 hi1_51 hi2_51 hi3_51 hm_51 H locs hW hs3_51 hcROW_51 hs18_51 hs19_51 hs16_51 hs8_51 hs14_51 hs9_51 hs10_51 hs11_51 hs12_51 hs17_51 hs15_51 hcNOP_51 hcNAR_51 hcNCL_51 ls hl
      refine lv_aload_n hx hb dX10_law_51 rfl (lv_at hl 0 rfl) ?_
      refine tf_get hx hb hts inlX10 hown hK (ci := 10) rfl hW ha0 rfl 14 rfl (by decide) (hts _ fl_X10_200) dX10_law_52 (fun v77 hv77 hsv77 => ?_)
      obtain rfl : v77 = .int (Int32.ofInt f14_51) := Option.some.inj (hsv77.symm.trans hs14_51)
      refine tf_if_ne (tgt := 78) hx hb ⟨by omega, by omega⟩ dX10_law_55 (by decide) (fun h78 => ?_) (fun h78 => ?_)
      · refine lv_aload_n hx hb dX10_law_78 rfl (lv_at hl 0 rfl) ?_
        refine tf_get hx hb hts inlX10 hown hK (ci := 10) rfl hW ha0 rfl 14 rfl (by decide) (hts _ fl_X10_200) dX10_law_79 (fun v79 hv79 hsv79 => ?_)
        obtain rfl : v79 = .int (Int32.ofInt f14_51) := Option.some.inj (hsv79.symm.trans hs14_51)
        refine tf_if_ne (tgt := 97) hx hb ⟨by omega, by omega⟩ dX10_law_82 (by decide) (fun h80 => ?_) (fun h80 => ?_)
        · refine lv_aload_n hx hb dX10_law_97 rfl (lv_at hl 0 rfl) ?_
          refine tf_iconst hx hb dX10_law_98 ?_
          refine tf_put hx hb hts inlX10 tyX10 tyX10_ok nmX10 hown hK (ci := 10) rfl hW ha0 rfl rfl 8 rfl (by decide) (by decide) (hts _ fl_X10_183) rfl (tf_u0 (by omega) (by omega)) rfl rfl dX10_law_99 (fun H81 locs81 hW hs81 ht81 hq81 => ?_)
          have hs82 := (ht81 3 (by decide) (by decide)).trans hs3_51
          have hs83 := tf_keepCQ hcROW_51 (hq81 _ (tf_ne hb0 ha0 (by decide)))
          have hs84 := (ht81 18 (by decide) (by decide)).trans hs18_51
          have hs85 := (ht81 19 (by decide) (by decide)).trans hs19_51
          have hs86 := (ht81 16 (by decide) (by decide)).trans hs16_51
          have hs87 := (ht81 14 (by decide) (by decide)).trans hs14_51
          have hs88 := (ht81 9 (by decide) (by decide)).trans hs9_51
          have hs89 := (ht81 10 (by decide) (by decide)).trans hs10_51
          have hs90 := (ht81 11 (by decide) (by decide)).trans hs11_51
          have hs91 := (ht81 12 (by decide) (by decide)).trans hs12_51
          have hs92 := (ht81 17 (by decide) (by decide)).trans hs17_51
          have hs93 := (ht81 15 (by decide) (by decide)).trans hs15_51
          have hs94 := tf_keepCQ hcNOP_51 (hq81 _ (tf_ne hqop ha0 (by decide)))
          have hs95 := tf_keepCQ hcNAR_51 (hq81 _ (tf_ne hqar ha0 (by decide)))
          have hs96 := tf_keepCQ hcNCL_51 (hq81 _ (tf_ne hqcl ha0 (by decide)))
          refine lv_aload_n hx hb dX10_law_102 rfl (lv_at hl 0 rfl) ?_
          refine tf_get hx hb hts inlX10 hown hK (ci := 10) rfl hW ha0 rfl 14 rfl (by decide) (hts _ fl_X10_200) dX10_law_103 (fun v97 hv97 hsv97 => ?_)
          obtain rfl : v97 = .int (Int32.ofInt f14_51) := Option.some.inj (hsv97.symm.trans hs87)
          refine tf_if_eq (tgt := 116) hx hb ⟨by omega, by omega⟩ dX10_law_106 (by decide) (fun h98 => ?_) (fun h98 => ?_)
          · exfalso; omega
          · refine lv_aload_n hx hb dX10_law_109 rfl (lv_at hl 0 rfl) ?_
            refine tf_bipush hx hb dX10_law_110 (by decide) ?_
            refine tf_calli (va_runV (As := [.int (Int32.ofInt ((-6)))]) (rest := []) ⟨hx, hb, hml, hown, hts⟩ (c_X10_tell l g T a0 ha0 ((-6)) ⟨by omega, by omega⟩) (cwV 1 hts gv_X10_117 rfl rfl rfl hd_X10_tell ⟨Nat.le_trans (by decide) hR1, Nat.le_trans (by decide) hR2⟩) (tf_preV hk hW ha0 (ci := 10) rfl rfl trivial) rfl rfl hl.1 rfl (lv_room (Nat.le_of_ble_eq_true rfl)) dX10_law_112 ⟨Nat.zero_le _, Nat.zero_le _⟩) hW (by decide) (fun z99 H99 locs99 hW hF99 hp99 => ?_)
            have hs100 := tf_keepF hF99 ha0 rfl rfl (by decide) hs82
            have hs101 := tf_keepC hF99 hb0 rfl (by decide) hs83
            have hs102 := tf_keepF hF99 ha0 rfl rfl (by decide) hs84
            have hs103 := tf_keepF hF99 ha0 rfl rfl (by decide) hs85
            have hs104 := tf_keepF hF99 ha0 rfl rfl (by decide) hs86
            have hs105 := tf_keepF hF99 ha0 rfl rfl (by decide) hs87
            have hs106 := tf_keepF hF99 ha0 rfl rfl (by decide) hs88
            have hs107 := tf_keepF hF99 ha0 rfl rfl (by decide) hs89
            have hs108 := tf_keepF hF99 ha0 rfl rfl (by decide) hs90
            have hs109 := tf_keepF hF99 ha0 rfl rfl (by decide) hs91
            have hs110 := tf_keepF hF99 ha0 rfl rfl (by decide) hs92
            have hs111 := tf_keepF hF99 ha0 rfl rfl (by decide) hs93
            have hs112 := tf_keepC hF99 hqop rfl (by decide) hs94
            have hs113 := tf_keepC hF99 hqar rfl (by decide) hs95
            have hs114 := tf_keepC hF99 hqcl rfl (by decide) hs96
            obtain ⟨hp99_0, hp99_1, hp99_2⟩ := hp99
            exact tf_reti (z := z99) hx hb hr hlocks hQ hW (show (-2147483648) ≤ (z99) ∧ (z99) ≤ 2147483647 by omega) dX10_law_115
        · exfalso; omega
      · refine lv_aload_n hx hb dX10_law_58 rfl (lv_at hl 0 rfl) ?_
        refine tf_bipush hx hb dX10_law_59 (by decide) ?_
        refine tf_calli (va_runV (As := [.int (Int32.ofInt 59)]) (rest := []) ⟨hx, hb, hml, hown, hts⟩ (c_X10_isSign l g T a0 ha0 (59) ⟨by omega, by omega⟩ (f11_51) ⟨by omega, by omega⟩ (f12_51) ⟨by omega, by omega⟩) (cwV 1 hts gv_X10_271 rfl rfl rfl hd_X10_isSign ⟨Nat.le_trans (by decide) hR1, Nat.le_trans (by decide) hR2⟩) (tf_preV hk hW ha0 (ci := 10) rfl rfl ⟨hs11_51, hs12_51⟩) rfl rfl hl.1 rfl (lv_room (Nat.le_of_ble_eq_true rfl)) dX10_law_61 ⟨Nat.zero_le _, Nat.zero_le _⟩) hW (by decide) (fun z115 H115 locs115 hW hF115 hp115 => ?_)
        have hs116 := tf_keepF hF115 ha0 rfl rfl (by decide) hs3_51
        have hs117 := tf_keepC hF115 hb0 rfl (by decide) hcROW_51
        have hs118 := tf_keepF hF115 ha0 rfl rfl (by decide) hs18_51
        have hs119 := tf_keepF hF115 ha0 rfl rfl (by decide) hs19_51
        have hs120 := tf_keepF hF115 ha0 rfl rfl (by decide) hs16_51
        have hs121 := tf_keepF hF115 ha0 rfl rfl (by decide) hs8_51
        have hs122 := tf_keepF hF115 ha0 rfl rfl (by decide) hs14_51
        have hs123 := tf_keepF hF115 ha0 rfl rfl (by decide) hs9_51
        have hs124 := tf_keepF hF115 ha0 rfl rfl (by decide) hs10_51
        have hs125 := tf_keepF hF115 ha0 rfl rfl (by decide) hs11_51
        have hs126 := tf_keepF hF115 ha0 rfl rfl (by decide) hs12_51
        have hs127 := tf_keepF hF115 ha0 rfl rfl (by decide) hs17_51
        have hs128 := tf_keepF hF115 ha0 rfl rfl (by decide) hs15_51
        have hs129 := tf_keepC hF115 hqop rfl (by decide) hcNOP_51
        have hs130 := tf_keepC hF115 hqar rfl (by decide) hcNAR_51
        have hs131 := tf_keepC hF115 hqcl rfl (by decide) hcNCL_51
        rcases hp115 with ⟨rfl, h132⟩ | ⟨rfl⟩
        · refine tf_if_eq (tgt := 78) hx hb ⟨by decide, by decide⟩ dX10_law_64 (by decide) (fun h133 => ?_) (fun h133 => ?_)
          · exfalso; omega
          · refine lv_aload_n hx hb dX10_law_67 rfl (lv_at hl 0 rfl) ?_
            refine tf_callv (va_runV (As := []) (rest := []) ⟨hx, hb, hml, hown, hts⟩ (c_X10_next l g T a0 ha0 (f8_51) ⟨by omega, by omega⟩ (f10_51) ⟨by omega, by omega⟩ (by first | omega | assumption)) (cwV 0 hts gv_X10_204 rfl rfl rfl hd_X10_next ⟨Nat.le_trans (by decide) hR1, Nat.le_trans (by decide) hR2⟩) (tf_preV hk hW ha0 (ci := 10) rfl rfl ⟨hs121, hs124⟩) rfl rfl hl.1 rfl (lv_room (Nat.le_of_ble_eq_true rfl)) dX10_law_68 ⟨Nat.zero_le _, Nat.zero_le _⟩) hW (by decide) (fun H134 locs134 hW hF134 hp134 => ?_)
            have hs135 := tf_keepF hF134 ha0 rfl rfl (by decide) hs116
            have hs136 := tf_keepC hF134 hb0 rfl (by decide) hs117
            have hs137 := tf_keepF hF134 ha0 rfl rfl (by decide) hs118
            have hs138 := tf_keepF hF134 ha0 rfl rfl (by decide) hs119
            have hs139 := tf_keepF hF134 ha0 rfl rfl (by decide) hs120
            have hs140 := tf_keepF hF134 ha0 rfl rfl (by decide) hs121
            have hs141 := tf_keepF hF134 ha0 rfl rfl (by decide) hs122
            have hs142 := tf_keepF hF134 ha0 rfl rfl (by decide) hs127
            have hs143 := tf_keepF hF134 ha0 rfl rfl (by decide) hs128
            have hs144 := tf_keepC hF134 hqop rfl (by decide) hs129
            have hs145 := tf_keepC hF134 hqar rfl (by decide) hs130
            have hs146 := tf_keepC hF134 hqcl rfl (by decide) hs131
            obtain ⟨gf1_134, gt1_134, gs1_134, gw1_134, hX134_0, hX134_1, hX134_2, hX134_3, hB134_0, hB134_1, hB134_2, hB134_3, hR134_0, hR134_1⟩ := hp134
            refine lv_aload_n hx hb dX10_law_71 rfl (lv_at hl 0 rfl) ?_
            refine tf_callv (va_runV (As := []) (rest := []) ⟨hx, hb, hml, hown, hts⟩ (c_X10_readClause l g T a0 ha0 qop hqop qar hqar qcl hqcl (f8_51) ⟨by omega, by omega⟩ (gf1_134) ⟨by omega, by omega⟩ (gt1_134) ⟨by omega, by omega⟩ (gs1_134) ⟨by omega, by omega⟩ (gw1_134) ⟨by omega, by omega⟩ (f14_51) ⟨by omega, by omega⟩ (f17_51) ⟨by omega, by omega⟩ (f15_51) ⟨by omega, by omega⟩ rNOP_51 rNAR_51 rNCL_51 (by first | omega | assumption) (by first | omega | assumption) (by first | omega | assumption) (hi2_51.resolve_left (by omega))) (cwV 0 hts gv_X10_328 rfl rfl rfl hd_X10_readClause ⟨Nat.le_trans (by decide) hR1, Nat.le_trans (by decide) hR2⟩) (tf_preV hk hW ha0 (ci := 10) rfl rfl ⟨hs137, hs138, hs139, hs140, hX134_0, hX134_1, hX134_2, hX134_3, hs141, hs142, hs143, hs144, hs145, hs146⟩) rfl rfl hl.1 rfl (lv_room (Nat.le_of_ble_eq_true rfl)) dX10_law_72 ⟨Nat.zero_le _, Nat.zero_le _⟩) hW (by decide) (fun H147 locs147 hW hF147 hp147 => ?_)
            have hs148 := tf_keepF hF147 ha0 rfl rfl (by decide) hs135
            have hs149 := tf_keepC hF147 hb0 rfl (by decide) hs136
            have hs150 := tf_keepF hF147 ha0 rfl rfl (by decide) hs137
            have hs151 := tf_keepF hF147 ha0 rfl rfl (by decide) hs138
            have hs152 := tf_keepF hF147 ha0 rfl rfl (by decide) hs139
            have hs153 := tf_keepF hF147 ha0 rfl rfl (by decide) hs140
            obtain ⟨gb1_147, gf1_147, gt1_147, gs1_147, gw1_147, gc1_147, gk1_147, rop1_147, rar1_147, rcl1_147, hX147_0, hX147_1, hX147_2, hX147_3, hX147_4, hX147_5, hX147_6, hX147_7, hX147_8, hX147_9, hB147_0, hB147_1, hB147_2, hB147_3, hB147_4, hB147_5, hB147_6, hR147_0, hR147_1, hR147_2, hR147_3⟩ := hp147
            refine lv_goto (tgt := 51) hx hb dX10_law_75 (by decide) ?_
            exact ih_51 (f8_51) ⟨by omega, by omega⟩ (gb1_147) ⟨by omega, by omega⟩ (gf1_147) ⟨by omega, by omega⟩ (gt1_147) ⟨by omega, by omega⟩ (gs1_147) ⟨by omega, by omega⟩ (gw1_147) ⟨by omega, by omega⟩ (gc1_147) ⟨by omega, by omega⟩ (gk1_147) ⟨by omega, by omega⟩ rop1_147 (trivial) rar1_147 (trivial) rcl1_147 (trivial) (by first | omega | assumption) (by first | omega | assumption) (by first | omega | assumption) (by first | omega | assumption) (by omega) _ _ hW hs148 hs149 hs150 hs151 hs152 hs153 hX147_0 hX147_1 hX147_2 hX147_3 hX147_4 hX147_5 hX147_6 hX147_7 hX147_8 hX147_9 _ (lv_sub hl [0] rfl)
        · refine tf_if_eq (tgt := 78) hx hb ⟨by decide, by decide⟩ dX10_law_64 (by decide) (fun h154 => ?_) (fun h154 => ?_)
          · refine lv_aload_n hx hb dX10_law_78 rfl (lv_at hl 0 rfl) ?_
            refine tf_get hx hb hts inlX10 hown hK (ci := 10) rfl hW ha0 rfl 14 rfl (by decide) (hts _ fl_X10_200) dX10_law_79 (fun v155 hv155 hsv155 => ?_)
            obtain rfl : v155 = .int (Int32.ofInt f14_51) := Option.some.inj (hsv155.symm.trans hs122)
            refine tf_if_ne (tgt := 97) hx hb ⟨by omega, by omega⟩ dX10_law_82 (by decide) (fun h156 => ?_) (fun h156 => ?_)
            · exfalso; omega
            · refine lv_aload_n hx hb dX10_law_85 rfl (lv_at hl 0 rfl) ?_
              refine tf_get hx hb hts inlX10 hown hK (ci := 10) rfl hW ha0 rfl 11 rfl (by decide) (hts _ fl_X10_220) dX10_law_86 (fun v157 hv157 hsv157 => ?_)
              obtain rfl : v157 = .int (Int32.ofInt f11_51) := Option.some.inj (hsv157.symm.trans hs125)
              refine tf_if_eq (tgt := 97) hx hb ⟨by omega, by omega⟩ dX10_law_89 (by decide) (fun h158 => ?_) (fun h158 => ?_)
              · refine lv_aload_n hx hb dX10_law_97 rfl (lv_at hl 0 rfl) ?_
                refine tf_iconst hx hb dX10_law_98 ?_
                refine tf_put hx hb hts inlX10 tyX10 tyX10_ok nmX10 hown hK (ci := 10) rfl hW ha0 rfl rfl 8 rfl (by decide) (by decide) (hts _ fl_X10_183) rfl (tf_u0 (by omega) (by omega)) rfl rfl dX10_law_99 (fun H159 locs159 hW hs159 ht159 hq159 => ?_)
                have hs160 := (ht159 3 (by decide) (by decide)).trans hs116
                have hs161 := tf_keepCQ hs117 (hq159 _ (tf_ne hb0 ha0 (by decide)))
                have hs162 := (ht159 18 (by decide) (by decide)).trans hs118
                have hs163 := (ht159 19 (by decide) (by decide)).trans hs119
                have hs164 := (ht159 16 (by decide) (by decide)).trans hs120
                have hs165 := (ht159 14 (by decide) (by decide)).trans hs122
                have hs166 := (ht159 9 (by decide) (by decide)).trans hs123
                have hs167 := (ht159 10 (by decide) (by decide)).trans hs124
                have hs168 := (ht159 11 (by decide) (by decide)).trans hs125
                have hs169 := (ht159 12 (by decide) (by decide)).trans hs126
                have hs170 := (ht159 17 (by decide) (by decide)).trans hs127
                have hs171 := (ht159 15 (by decide) (by decide)).trans hs128
                have hs172 := tf_keepCQ hs129 (hq159 _ (tf_ne hqop ha0 (by decide)))
                have hs173 := tf_keepCQ hs130 (hq159 _ (tf_ne hqar ha0 (by decide)))
                have hs174 := tf_keepCQ hs131 (hq159 _ (tf_ne hqcl ha0 (by decide)))
                refine lv_aload_n hx hb dX10_law_102 rfl (lv_at hl 0 rfl) ?_
                refine tf_get hx hb hts inlX10 hown hK (ci := 10) rfl hW ha0 rfl 14 rfl (by decide) (hts _ fl_X10_200) dX10_law_103 (fun v175 hv175 hsv175 => ?_)
                obtain rfl : v175 = .int (Int32.ofInt f14_51) := Option.some.inj (hsv175.symm.trans hs165)
                refine tf_if_eq (tgt := 116) hx hb ⟨by omega, by omega⟩ dX10_law_106 (by decide) (fun h176 => ?_) (fun h176 => ?_)
                · refine tf_sipush hx hb dX10_law_116 (by decide) ?_
                  refine tf_sipush hx hb dX10_law_119 (by decide) ?_
                  refine lv_aload_n hx hb dX10_law_122 rfl (lv_at hl 0 rfl) ?_
                  refine tf_get hx hb hts inlX10 hown hK (ci := 10) rfl hW ha0 rfl 3 rfl (by decide) (hts _ fl_X10_13) dX10_law_123 (fun v177 hv177 hsv177 => ?_)
                  obtain rfl : v177 = .ref b0 := Option.some.inj (hsv177.symm.trans hs160)
                  refine tf_iconst hx hb dX10_law_126 ?_
                  refine tf_iald (t0 := 0) hx hb hK hW hb0 rfl rfl (by omega) (by omega) dX10_law_127 (fun v178 hv178 hsv178 => ?_)
                  obtain ⟨z179, rfl, hz179⟩ := tf_v0 hv178
                  have er180 : r0 1 = z179 := hs161 ▸ tf_rw_of (by omega) hsv178 ⟨by omega, by omega⟩
                  have hg181 := tf_rd1 (tf_ROof hW hb0) hsv178 ⟨by omega, by omega⟩ (by omega)
                  refine tf_imul hx hb dX10_law_128 ?_
                  refine tf_iadd hx hb dX10_law_129 ?_
                  refine lv_istore_n (lv' := [(1, .int (Int32.ofInt ((430 + (900 * z179))))), (0, .ref a0)]) hx hb dX10_law_130 rfl hl (by decide) rfl (fun ls hl => ?_)
                  have hZ := tf_zz_in hW b0
                  have hW := tf_weak hW
                  refine lv_aload_n hx hb dX10_law_131 rfl (lv_at hl 1 rfl) ?_
                  refine tf_get hx hb hts inlX10 hown hK (ci := 10) rfl hW ha0 rfl 3 rfl (by decide) (hts _ fl_X10_13) dX10_law_132 (fun v182 hv182 hsv182 => ?_)
                  obtain rfl : v182 = .ref b0 := Option.some.inj (hsv182.symm.trans hs160)
                  refine lv_iload_n hx hb dX10_law_135 rfl (lv_at hl 0 rfl) ?_
                  refine tf_iconst hx hb dX10_law_136 ?_
                  refine tf_iadd hx hb dX10_law_137 ?_
                  refine lv_aload_n hx hb dX10_law_138 rfl (lv_at hl 1 rfl) ?_
                  refine tf_get hx hb hts inlX10 hown hK (ci := 10) rfl hW ha0 rfl 15 rfl (by decide) (hts _ fl_X10_317) dX10_law_139 (fun v183 hv183 hsv183 => ?_)
                  obtain rfl : v183 = .int (Int32.ofInt f15_51) := Option.some.inj (hsv183.symm.trans hs171)
                  refine tf_rwst (t0 := 0) hx hb hK hW hb0 rfl rfl (by omega) (by omega) (by decide) (tf_u0 (by omega) (by omega)) ⟨by omega, by omega⟩ trivial dX10_law_142 (fun H184 locs184 hW hu184 hq184 => ?_)
                  have hZ := tf_zz_st hZ hq184
                  have hs185 := tf_keepQ hs160 (hq184 _ (tf_ne ha0 hb0 (by decide)))
                  have hs186 := tf_keepQ hs162 (hq184 _ (tf_ne ha0 hb0 (by decide)))
                  have hs187 := tf_keepQ hs163 (hq184 _ (tf_ne ha0 hb0 (by decide)))
                  have hs188 := tf_keepQ hs164 (hq184 _ (tf_ne ha0 hb0 (by decide)))
                  have hs189 := tf_keepQ hs165 (hq184 _ (tf_ne ha0 hb0 (by decide)))
                  have hs190 := tf_keepQ hs166 (hq184 _ (tf_ne ha0 hb0 (by decide)))
                  have hs191 := tf_keepQ hs167 (hq184 _ (tf_ne ha0 hb0 (by decide)))
                  have hs192 := tf_keepQ hs168 (hq184 _ (tf_ne ha0 hb0 (by decide)))
                  have hs193 := tf_keepQ hs169 (hq184 _ (tf_ne ha0 hb0 (by decide)))
                  have hs194 := tf_keepQ hs170 (hq184 _ (tf_ne ha0 hb0 (by decide)))
                  have hs195 := tf_keepQ hs171 (hq184 _ (tf_ne ha0 hb0 (by decide)))
                  have hs196 := tf_keepCQ hs172 (hq184 _ (tf_ne hqop hb0 (by decide)))
                  have hs197 := tf_keepCQ hs173 (hq184 _ (tf_ne hqar hb0 (by decide)))
                  have hs198 := tf_keepCQ hs174 (hq184 _ (tf_ne hqcl hb0 (by decide)))
                  have hu184 := hu184.trans (congrArg (fun w => tf_up w (((430 + (900 * z179)) + 1)) (f15_51)) hs161)
                  refine tf_iconst hx hb dX10_law_143 ?_
                  refine lv_istore_n (lv' := [(2, .int (Int32.ofInt 0)), (1, .int (Int32.ofInt ((430 + (900 * z179))))), (0, .ref a0)]) hx hb dX10_law_144 rfl hl (by decide) rfl (fun ls hl => ?_)
                  exact j_145 ((8 * f15_51 - 0 + 1 : Int)).toNat ((430 + (900 * z179))) ⟨by omega, by omega⟩ (0) ⟨by omega, by omega⟩ (f17_51) ⟨by omega, by omega⟩ (f15_51) ⟨by omega, by omega⟩ rNOP_51 (trivial) rNAR_51 (trivial) rNCL_51 (trivial) (tf_up r0 (((430 + (900 * z179)) + 1)) (f15_51)) (by first | exact tf_l1_0 | exact tf_l1_st hRROW_145 (by omega) (by omega) er180) (by first | assumption | exact hi2_51.resolve_left (by omega)) (by first | omega | assumption) (by first | omega | assumption) (by first | omega | assumption) (by omega) _ _ hW hs185 hs186 hs187 hs188 hs194 hs195 hs196 hs197 hs198 hu184 hZ _ (lv_sub hl [2, 1, 0] rfl)
                · exfalso; omega
              · refine lv_aload_n hx hb dX10_law_92 rfl (lv_at hl 0 rfl) ?_
                refine tf_iconst hx hb dX10_law_93 ?_
                refine tf_callv (va_runV (As := [.int (Int32.ofInt 0)]) (rest := []) ⟨hx, hb, hml, hown, hts⟩ (c_X10_must l g T a0 ha0 (0) ⟨by omega, by omega⟩ (f8_51) ⟨by omega, by omega⟩ (f9_51) ⟨by omega, by omega⟩ (f10_51) ⟨by omega, by omega⟩ (f11_51) ⟨by omega, by omega⟩ (f12_51) ⟨by omega, by omega⟩ (f14_51) ⟨by omega, by omega⟩ (by first | omega | assumption)) (cwV 1 hts gv_X10_235 rfl rfl rfl hd_X10_must ⟨Nat.le_trans (by decide) hR1, Nat.le_trans (by decide) hR2⟩) (tf_preV hk hW ha0 (ci := 10) rfl rfl ⟨hs121, hs123, hs124, hs125, hs126, hs122⟩) rfl rfl hl.1 rfl (lv_room (Nat.le_of_ble_eq_true rfl)) dX10_law_94 ⟨Nat.zero_le _, Nat.zero_le _⟩) hW (by decide) (fun H199 locs199 hW hF199 hp199 => ?_)
                have hs200 := tf_keepF hF199 ha0 rfl rfl (by decide) hs116
                have hs201 := tf_keepC hF199 hb0 rfl (by decide) hs117
                have hs202 := tf_keepF hF199 ha0 rfl rfl (by decide) hs118
                have hs203 := tf_keepF hF199 ha0 rfl rfl (by decide) hs119
                have hs204 := tf_keepF hF199 ha0 rfl rfl (by decide) hs120
                have hs205 := tf_keepF hF199 ha0 rfl rfl (by decide) hs121
                have hs206 := tf_keepF hF199 ha0 rfl rfl (by decide) hs127
                have hs207 := tf_keepF hF199 ha0 rfl rfl (by decide) hs128
                have hs208 := tf_keepC hF199 hqop rfl (by decide) hs129
                have hs209 := tf_keepC hF199 hqar rfl (by decide) hs130
                have hs210 := tf_keepC hF199 hqcl rfl (by decide) hs131
                obtain ⟨gb1_199, gf1_199, gt1_199, gs1_199, gw1_199, hX199_0, hX199_1, hX199_2, hX199_3, hX199_4, hB199_0, hB199_1, hB199_2, hB199_3, hB199_4, hR199_0⟩ := hp199
                refine lv_aload_n hx hb dX10_law_97 rfl (lv_at hl 0 rfl) ?_
                refine tf_iconst hx hb dX10_law_98 ?_
                refine tf_put hx hb hts inlX10 tyX10 tyX10_ok nmX10 hown hK (ci := 10) rfl hW ha0 rfl rfl 8 rfl (by decide) (by decide) (hts _ fl_X10_183) rfl (tf_u0 (by omega) (by omega)) rfl rfl dX10_law_99 (fun H211 locs211 hW hs211 ht211 hq211 => ?_)
                have hs212 := (ht211 3 (by decide) (by decide)).trans hs200
                have hs213 := tf_keepCQ hs201 (hq211 _ (tf_ne hb0 ha0 (by decide)))
                have hs214 := (ht211 18 (by decide) (by decide)).trans hs202
                have hs215 := (ht211 19 (by decide) (by decide)).trans hs203
                have hs216 := (ht211 16 (by decide) (by decide)).trans hs204
                have hs217 := (ht211 17 (by decide) (by decide)).trans hs206
                have hs218 := (ht211 15 (by decide) (by decide)).trans hs207
                have hs219 := tf_keepCQ hs208 (hq211 _ (tf_ne hqop ha0 (by decide)))
                have hs220 := tf_keepCQ hs209 (hq211 _ (tf_ne hqar ha0 (by decide)))
                have hs221 := tf_keepCQ hs210 (hq211 _ (tf_ne hqcl ha0 (by decide)))
                have hs222 := (ht211 14 (by decide) (by decide)).trans hX199_0
                refine lv_aload_n hx hb dX10_law_102 rfl (lv_at hl 0 rfl) ?_
                refine tf_get hx hb hts inlX10 hown hK (ci := 10) rfl hW ha0 rfl 14 rfl (by decide) (hts _ fl_X10_200) dX10_law_103 (fun v223 hv223 hsv223 => ?_)
                obtain rfl : v223 = .int (Int32.ofInt gb1_199) := Option.some.inj (hsv223.symm.trans hs222)
                refine tf_if_eq (tgt := 116) hx hb ⟨by omega, by omega⟩ dX10_law_106 (by decide) (fun h224 => ?_) (fun h224 => ?_)
                · refine tf_sipush hx hb dX10_law_116 (by decide) ?_
                  refine tf_sipush hx hb dX10_law_119 (by decide) ?_
                  refine lv_aload_n hx hb dX10_law_122 rfl (lv_at hl 0 rfl) ?_
                  refine tf_get hx hb hts inlX10 hown hK (ci := 10) rfl hW ha0 rfl 3 rfl (by decide) (hts _ fl_X10_13) dX10_law_123 (fun v225 hv225 hsv225 => ?_)
                  obtain rfl : v225 = .ref b0 := Option.some.inj (hsv225.symm.trans hs212)
                  refine tf_iconst hx hb dX10_law_126 ?_
                  refine tf_iald (t0 := 0) hx hb hK hW hb0 rfl rfl (by omega) (by omega) dX10_law_127 (fun v226 hv226 hsv226 => ?_)
                  obtain ⟨z227, rfl, hz227⟩ := tf_v0 hv226
                  have er228 : r0 1 = z227 := hs213 ▸ tf_rw_of (by omega) hsv226 ⟨by omega, by omega⟩
                  have hg229 := tf_rd1 (tf_ROof hW hb0) hsv226 ⟨by omega, by omega⟩ (by omega)
                  refine tf_imul hx hb dX10_law_128 ?_
                  refine tf_iadd hx hb dX10_law_129 ?_
                  refine lv_istore_n (lv' := [(1, .int (Int32.ofInt ((430 + (900 * z227))))), (0, .ref a0)]) hx hb dX10_law_130 rfl hl (by decide) rfl (fun ls hl => ?_)
                  have hZ := tf_zz_in hW b0
                  have hW := tf_weak hW
                  refine lv_aload_n hx hb dX10_law_131 rfl (lv_at hl 1 rfl) ?_
                  refine tf_get hx hb hts inlX10 hown hK (ci := 10) rfl hW ha0 rfl 3 rfl (by decide) (hts _ fl_X10_13) dX10_law_132 (fun v230 hv230 hsv230 => ?_)
                  obtain rfl : v230 = .ref b0 := Option.some.inj (hsv230.symm.trans hs212)
                  refine lv_iload_n hx hb dX10_law_135 rfl (lv_at hl 0 rfl) ?_
                  refine tf_iconst hx hb dX10_law_136 ?_
                  refine tf_iadd hx hb dX10_law_137 ?_
                  refine lv_aload_n hx hb dX10_law_138 rfl (lv_at hl 1 rfl) ?_
                  refine tf_get hx hb hts inlX10 hown hK (ci := 10) rfl hW ha0 rfl 15 rfl (by decide) (hts _ fl_X10_317) dX10_law_139 (fun v231 hv231 hsv231 => ?_)
                  obtain rfl : v231 = .int (Int32.ofInt f15_51) := Option.some.inj (hsv231.symm.trans hs218)
                  refine tf_rwst (t0 := 0) hx hb hK hW hb0 rfl rfl (by omega) (by omega) (by decide) (tf_u0 (by omega) (by omega)) ⟨by omega, by omega⟩ trivial dX10_law_142 (fun H232 locs232 hW hu232 hq232 => ?_)
                  have hZ := tf_zz_st hZ hq232
                  have hs233 := tf_keepQ hs212 (hq232 _ (tf_ne ha0 hb0 (by decide)))
                  have hs234 := tf_keepQ hs214 (hq232 _ (tf_ne ha0 hb0 (by decide)))
                  have hs235 := tf_keepQ hs215 (hq232 _ (tf_ne ha0 hb0 (by decide)))
                  have hs236 := tf_keepQ hs216 (hq232 _ (tf_ne ha0 hb0 (by decide)))
                  have hs237 := tf_keepQ hs217 (hq232 _ (tf_ne ha0 hb0 (by decide)))
                  have hs238 := tf_keepQ hs218 (hq232 _ (tf_ne ha0 hb0 (by decide)))
                  have hs239 := tf_keepCQ hs219 (hq232 _ (tf_ne hqop hb0 (by decide)))
                  have hs240 := tf_keepCQ hs220 (hq232 _ (tf_ne hqar hb0 (by decide)))
                  have hs241 := tf_keepCQ hs221 (hq232 _ (tf_ne hqcl hb0 (by decide)))
                  have hs242 := tf_keepQ hs222 (hq232 _ (tf_ne ha0 hb0 (by decide)))
                  have hu232 := hu232.trans (congrArg (fun w => tf_up w (((430 + (900 * z227)) + 1)) (f15_51)) hs213)
                  refine tf_iconst hx hb dX10_law_143 ?_
                  refine lv_istore_n (lv' := [(2, .int (Int32.ofInt 0)), (1, .int (Int32.ofInt ((430 + (900 * z227))))), (0, .ref a0)]) hx hb dX10_law_144 rfl hl (by decide) rfl (fun ls hl => ?_)
                  exact j_145 ((8 * f15_51 - 0 + 1 : Int)).toNat ((430 + (900 * z227))) ⟨by omega, by omega⟩ (0) ⟨by omega, by omega⟩ (f17_51) ⟨by omega, by omega⟩ (f15_51) ⟨by omega, by omega⟩ rNOP_51 (trivial) rNAR_51 (trivial) rNCL_51 (trivial) (tf_up r0 (((430 + (900 * z227)) + 1)) (f15_51)) (by first | exact tf_l1_0 | exact tf_l1_st hRROW_145 (by omega) (by omega) er228) (by first | assumption | exact hi2_51.resolve_left (by omega)) (by first | omega | assumption) (by first | omega | assumption) (by first | omega | assumption) (by omega) _ _ hW hs233 hs234 hs235 hs236 hs237 hs238 hs239 hs240 hs241 hu232 hZ _ (lv_sub hl [2, 1, 0] rfl)
                · refine lv_aload_n hx hb dX10_law_109 rfl (lv_at hl 0 rfl) ?_
                  refine tf_bipush hx hb dX10_law_110 (by decide) ?_
                  refine tf_calli (va_runV (As := [.int (Int32.ofInt ((-6)))]) (rest := []) ⟨hx, hb, hml, hown, hts⟩ (c_X10_tell l g T a0 ha0 ((-6)) ⟨by omega, by omega⟩) (cwV 1 hts gv_X10_117 rfl rfl rfl hd_X10_tell ⟨Nat.le_trans (by decide) hR1, Nat.le_trans (by decide) hR2⟩) (tf_preV hk hW ha0 (ci := 10) rfl rfl trivial) rfl rfl hl.1 rfl (lv_room (Nat.le_of_ble_eq_true rfl)) dX10_law_112 ⟨Nat.zero_le _, Nat.zero_le _⟩) hW (by decide) (fun z243 H243 locs243 hW hF243 hp243 => ?_)
                  have hs244 := tf_keepF hF243 ha0 rfl rfl (by decide) hs212
                  have hs245 := tf_keepC hF243 hb0 rfl (by decide) hs213
                  have hs246 := tf_keepF hF243 ha0 rfl rfl (by decide) hs214
                  have hs247 := tf_keepF hF243 ha0 rfl rfl (by decide) hs215
                  have hs248 := tf_keepF hF243 ha0 rfl rfl (by decide) hs216
                  have hs249 := tf_keepF hF243 ha0 rfl rfl (by decide) hs217
                  have hs250 := tf_keepF hF243 ha0 rfl rfl (by decide) hs218
                  have hs251 := tf_keepC hF243 hqop rfl (by decide) hs219
                  have hs252 := tf_keepC hF243 hqar rfl (by decide) hs220
                  have hs253 := tf_keepC hF243 hqcl rfl (by decide) hs221
                  have hs254 := tf_keepF hF243 ha0 rfl rfl (by decide) hs222
                  obtain ⟨hp243_0, hp243_1, hp243_2⟩ := hp243
                  exact tf_reti (z := z243) hx hb hr hlocks hQ hW (show (-2147483648) ≤ (z243) ∧ (z243) ≤ 2147483647 by omega) dX10_law_115
          · exfalso; omega
  refine tf_enter (As := [.ref a0]) hargs (Nat.le_of_ble_eq_true rfl) (fun ls hl => ?_)
  have hl : lv_has ls 3 [(0, .ref a0)] := hl
  refine lv_aload_n hx hb dX10_law_0 rfl (lv_at hl 0 rfl) ?_
  refine tf_iconst hx hb dX10_law_1 ?_
  refine tf_put hx hb hts inlX10 tyX10 tyX10_ok nmX10 hown hK (ci := 10) rfl hW ha0 rfl rfl 0 rfl (by decide) (by decide) (hts _ fl_X10_103) rfl (tf_u0 (by omega) (by omega)) rfl rfl dX10_law_2 (fun H255 locs255 hW hs255 ht255 hq255 => ?_)
  have hs256 := (ht255 3 (by decide) (by decide)).trans hfb0
  have hs257 := tf_keepCQ hr0 (hq255 _ (tf_ne hb0 ha0 (by decide)))
  have hs258 := (ht255 18 (by decide) (by decide)).trans hfqop
  have hs259 := tf_keepCQ hrop (hq255 _ (tf_ne hqop ha0 (by decide)))
  have hs260 := (ht255 19 (by decide) (by decide)).trans hfqar
  have hs261 := tf_keepCQ hrar (hq255 _ (tf_ne hqar ha0 (by decide)))
  have hs262 := (ht255 16 (by decide) (by decide)).trans hfqcl
  have hs263 := tf_keepCQ hrcl (hq255 _ (tf_ne hqcl ha0 (by decide)))
  refine lv_aload_n hx hb dX10_law_5 rfl (lv_at hl 0 rfl) ?_
  refine tf_get hx hb hts inlX10 hown hK (ci := 10) rfl hW ha0 rfl 3 rfl (by decide) (hts _ fl_X10_13) dX10_law_6 (fun v264 hv264 hsv264 => ?_)
  obtain rfl : v264 = .ref b0 := Option.some.inj (hsv264.symm.trans hs256)
  refine tf_iconst hx hb dX10_law_9 ?_
  refine tf_iald (t0 := 0) hx hb hK hW hb0 rfl rfl (by omega) (by omega) dX10_law_10 (fun v265 hv265 hsv265 => ?_)
  obtain ⟨z266, rfl, hz266⟩ := tf_v0 hv265
  have er267 : r0 1 = z266 := hs257 ▸ tf_rw_of (by omega) hsv265 ⟨by omega, by omega⟩
  have hg268 := tf_rd1 (tf_ROof hW hb0) hsv265 ⟨by omega, by omega⟩ (by omega)
  refine tf_bipush hx hb dX10_law_11 (by decide) ?_
  refine tf_icmp_ne (tgt := 28) hx hb ⟨by omega, by omega⟩ ⟨by decide, by decide⟩ dX10_law_13 (by decide) (fun h269 => ?_) (fun h269 => ?_)
  · refine lv_aload_n hx hb dX10_law_28 rfl (lv_at hl 0 rfl) ?_
    obtain ⟨pv270, hpv270, hok270⟩ := tf_peek hW ha0 (ci := 10) rfl 8 rfl
    obtain ⟨z271, rfl, hz271⟩ := tf_v0 hok270
    refine tf_callv (va_runV (As := []) (rest := []) ⟨hx, hb, hml, hown, hts⟩ (c_X10_begin l g T a0 ha0 (z271) ⟨by omega, by omega⟩) (cwV 0 hts gv_X10_325 rfl rfl rfl hd_X10_begin ⟨Nat.le_trans (by decide) hR1, Nat.le_trans (by decide) hR2⟩) (tf_preV hk hW ha0 (ci := 10) rfl rfl hpv270) rfl rfl hl.1 rfl (lv_room (Nat.le_of_ble_eq_true rfl)) dX10_law_29 ⟨Nat.zero_le _, Nat.zero_le _⟩) hW (by decide) (fun H272 locs272 hW hF272 hp272 => ?_)
    have hs273 := tf_keepF hF272 ha0 rfl rfl (by decide) hs256
    have hs274 := tf_keepC hF272 hb0 rfl (by decide) hs257
    have hs275 := tf_keepF hF272 ha0 rfl rfl (by decide) hs258
    have hs276 := tf_keepC hF272 hqop rfl (by decide) hs259
    have hs277 := tf_keepF hF272 ha0 rfl rfl (by decide) hs260
    have hs278 := tf_keepC hF272 hqar rfl (by decide) hs261
    have hs279 := tf_keepF hF272 ha0 rfl rfl (by decide) hs262
    have hs280 := tf_keepC hF272 hqcl rfl (by decide) hs263
    have hs281 := tf_keepF hF272 ha0 rfl rfl (by decide) hpv270
    obtain ⟨gb1_272, gf1_272, gt1_272, gs1_272, gw1_272, hX272_0, hX272_1, hX272_2, hX272_3, hX272_4, hB272_0, hB272_1, hB272_2, hB272_3, hB272_4, hR272_0, hR272_1⟩ := hp272
    refine lv_aload_n hx hb dX10_law_32 rfl (lv_at hl 0 rfl) ?_
    refine tf_iconst hx hb dX10_law_33 ?_
    refine tf_put hx hb hts inlX10 tyX10 tyX10_ok nmX10 hown hK (ci := 10) rfl hW ha0 rfl rfl 15 rfl (by decide) (by decide) (hts _ fl_X10_317) rfl (tf_u0 (by omega) (by omega)) rfl rfl dX10_law_34 (fun H282 locs282 hW hs282 ht282 hq282 => ?_)
    have hs283 := (ht282 3 (by decide) (by decide)).trans hs273
    have hs284 := tf_keepCQ hs274 (hq282 _ (tf_ne hb0 ha0 (by decide)))
    have hs285 := (ht282 18 (by decide) (by decide)).trans hs275
    have hs286 := tf_keepCQ hs276 (hq282 _ (tf_ne hqop ha0 (by decide)))
    have hs287 := (ht282 19 (by decide) (by decide)).trans hs277
    have hs288 := tf_keepCQ hs278 (hq282 _ (tf_ne hqar ha0 (by decide)))
    have hs289 := (ht282 16 (by decide) (by decide)).trans hs279
    have hs290 := tf_keepCQ hs280 (hq282 _ (tf_ne hqcl ha0 (by decide)))
    have hs291 := (ht282 8 (by decide) (by decide)).trans hs281
    have hs292 := (ht282 14 (by decide) (by decide)).trans hX272_0
    have hs293 := (ht282 9 (by decide) (by decide)).trans hX272_1
    have hs294 := (ht282 10 (by decide) (by decide)).trans hX272_2
    have hs295 := (ht282 11 (by decide) (by decide)).trans hX272_3
    have hs296 := (ht282 12 (by decide) (by decide)).trans hX272_4
    refine lv_aload_n hx hb dX10_law_37 rfl (lv_at hl 0 rfl) ?_
    refine tf_iconst hx hb dX10_law_38 ?_
    refine tf_put hx hb hts inlX10 tyX10 tyX10_ok nmX10 hown hK (ci := 10) rfl hW ha0 rfl rfl 17 rfl (by decide) (by decide) (hts _ fl_X10_239) rfl (tf_u0 (by omega) (by omega)) rfl rfl dX10_law_39 (fun H297 locs297 hW hs297 ht297 hq297 => ?_)
    have hs298 := (ht297 3 (by decide) (by decide)).trans hs283
    have hs299 := tf_keepCQ hs284 (hq297 _ (tf_ne hb0 ha0 (by decide)))
    have hs300 := (ht297 18 (by decide) (by decide)).trans hs285
    have hs301 := tf_keepCQ hs286 (hq297 _ (tf_ne hqop ha0 (by decide)))
    have hs302 := (ht297 19 (by decide) (by decide)).trans hs287
    have hs303 := tf_keepCQ hs288 (hq297 _ (tf_ne hqar ha0 (by decide)))
    have hs304 := (ht297 16 (by decide) (by decide)).trans hs289
    have hs305 := tf_keepCQ hs290 (hq297 _ (tf_ne hqcl ha0 (by decide)))
    have hs306 := (ht297 8 (by decide) (by decide)).trans hs291
    have hs307 := (ht297 14 (by decide) (by decide)).trans hs292
    have hs308 := (ht297 9 (by decide) (by decide)).trans hs293
    have hs309 := (ht297 10 (by decide) (by decide)).trans hs294
    have hs310 := (ht297 11 (by decide) (by decide)).trans hs295
    have hs311 := (ht297 12 (by decide) (by decide)).trans hs296
    have hs312 := (ht297 15 (by decide) (by decide)).trans hs282
    refine lv_aload_n hx hb dX10_law_42 rfl (lv_at hl 0 rfl) ?_
    refine tf_iconst hx hb dX10_law_43 ?_
    refine tf_put hx hb hts inlX10 tyX10 tyX10_ok nmX10 hown hK (ci := 10) rfl hW ha0 rfl rfl 20 rfl (by decide) (by decide) (hts _ fl_X10_268) rfl (tf_u0 (by omega) (by omega)) rfl rfl dX10_law_44 (fun H313 locs313 hW hs313 ht313 hq313 => ?_)
    have hs314 := (ht313 3 (by decide) (by decide)).trans hs298
    have hs315 := tf_keepCQ hs299 (hq313 _ (tf_ne hb0 ha0 (by decide)))
    have hs316 := (ht313 18 (by decide) (by decide)).trans hs300
    have hs317 := tf_keepCQ hs301 (hq313 _ (tf_ne hqop ha0 (by decide)))
    have hs318 := (ht313 19 (by decide) (by decide)).trans hs302
    have hs319 := tf_keepCQ hs303 (hq313 _ (tf_ne hqar ha0 (by decide)))
    have hs320 := (ht313 16 (by decide) (by decide)).trans hs304
    have hs321 := tf_keepCQ hs305 (hq313 _ (tf_ne hqcl ha0 (by decide)))
    have hs322 := (ht313 8 (by decide) (by decide)).trans hs306
    have hs323 := (ht313 14 (by decide) (by decide)).trans hs307
    have hs324 := (ht313 9 (by decide) (by decide)).trans hs308
    have hs325 := (ht313 10 (by decide) (by decide)).trans hs309
    have hs326 := (ht313 11 (by decide) (by decide)).trans hs310
    have hs327 := (ht313 12 (by decide) (by decide)).trans hs311
    have hs328 := (ht313 15 (by decide) (by decide)).trans hs312
    have hs329 := (ht313 17 (by decide) (by decide)).trans hs297
    refine lv_aload_n hx hb dX10_law_47 rfl (lv_at hl 0 rfl) ?_
    refine tf_callv (va_runV (As := []) (rest := []) ⟨hx, hb, hml, hown, hts⟩ (c_X10_readClause l g T a0 ha0 qop hqop qar hqar qcl hqcl (z271) ⟨by omega, by omega⟩ (gf1_272) ⟨by omega, by omega⟩ (gt1_272) ⟨by omega, by omega⟩ (gs1_272) ⟨by omega, by omega⟩ (gw1_272) ⟨by omega, by omega⟩ (gb1_272) ⟨by omega, by omega⟩ (0) ⟨by omega, by omega⟩ (0) ⟨by omega, by omega⟩ rop rar rcl (by first | omega | assumption) (by first | omega | assumption) (by first | omega | assumption) tf_CL_0) (cwV 0 hts gv_X10_328 rfl rfl rfl hd_X10_readClause ⟨Nat.le_trans (by decide) hR1, Nat.le_trans (by decide) hR2⟩) (tf_preV hk hW ha0 (ci := 10) rfl rfl ⟨hs316, hs318, hs320, hs322, hs324, hs325, hs326, hs327, hs323, hs329, hs328, hs317, hs319, hs321⟩) rfl rfl hl.1 rfl (lv_room (Nat.le_of_ble_eq_true rfl)) dX10_law_48 ⟨Nat.zero_le _, Nat.zero_le _⟩) hW (by decide) (fun H330 locs330 hW hF330 hp330 => ?_)
    have hs331 := tf_keepF hF330 ha0 rfl rfl (by decide) hs314
    have hs332 := tf_keepC hF330 hb0 rfl (by decide) hs315
    have hs333 := tf_keepF hF330 ha0 rfl rfl (by decide) hs316
    have hs334 := tf_keepF hF330 ha0 rfl rfl (by decide) hs318
    have hs335 := tf_keepF hF330 ha0 rfl rfl (by decide) hs320
    have hs336 := tf_keepF hF330 ha0 rfl rfl (by decide) hs322
    obtain ⟨gb1_330, gf1_330, gt1_330, gs1_330, gw1_330, gc1_330, gk1_330, rop1_330, rar1_330, rcl1_330, hX330_0, hX330_1, hX330_2, hX330_3, hX330_4, hX330_5, hX330_6, hX330_7, hX330_8, hX330_9, hB330_0, hB330_1, hB330_2, hB330_3, hB330_4, hB330_5, hB330_6, hR330_0, hR330_1, hR330_2, hR330_3⟩ := hp330
    exact j_51 ((401 - gf1_330 + 1 : Int)).toNat (z271) ⟨by omega, by omega⟩ (gb1_330) ⟨by omega, by omega⟩ (gf1_330) ⟨by omega, by omega⟩ (gt1_330) ⟨by omega, by omega⟩ (gs1_330) ⟨by omega, by omega⟩ (gw1_330) ⟨by omega, by omega⟩ (gc1_330) ⟨by omega, by omega⟩ (gk1_330) ⟨by omega, by omega⟩ rop1_330 (trivial) rar1_330 (trivial) rcl1_330 (trivial) (by first | omega | assumption) (by first | omega | assumption) (by first | omega | assumption) (by first | omega | assumption) (by omega) _ _ hW hs331 hs332 hs333 hs334 hs335 hs336 hX330_0 hX330_1 hX330_2 hX330_3 hX330_4 hX330_5 hX330_6 hX330_7 hX330_8 hX330_9 _ (lv_sub hl [0] rfl)
  · refine lv_aload_n hx hb dX10_law_16 rfl (lv_at hl 0 rfl) ?_
    refine tf_iconst hx hb dX10_law_17 ?_
    refine tf_put hx hb hts inlX10 tyX10 tyX10_ok nmX10 hown hK (ci := 10) rfl hW ha0 rfl rfl 8 rfl (by decide) (by decide) (hts _ fl_X10_183) rfl (tf_u0 (by omega) (by omega)) rfl rfl dX10_law_18 (fun H337 locs337 hW hs337 ht337 hq337 => ?_)
    have hs338 := (ht337 3 (by decide) (by decide)).trans hs256
    have hs339 := tf_keepCQ hs257 (hq337 _ (tf_ne hb0 ha0 (by decide)))
    have hs340 := (ht337 18 (by decide) (by decide)).trans hs258
    have hs341 := tf_keepCQ hs259 (hq337 _ (tf_ne hqop ha0 (by decide)))
    have hs342 := (ht337 19 (by decide) (by decide)).trans hs260
    have hs343 := tf_keepCQ hs261 (hq337 _ (tf_ne hqar ha0 (by decide)))
    have hs344 := (ht337 16 (by decide) (by decide)).trans hs262
    have hs345 := tf_keepCQ hs263 (hq337 _ (tf_ne hqcl ha0 (by decide)))
    refine lv_aload_n hx hb dX10_law_21 rfl (lv_at hl 0 rfl) ?_
    refine tf_bipush hx hb dX10_law_22 (by decide) ?_
    refine tf_calli (va_runV (As := [.int (Int32.ofInt ((-5)))]) (rest := []) ⟨hx, hb, hml, hown, hts⟩ (c_X10_tell l g T a0 ha0 ((-5)) ⟨by omega, by omega⟩) (cwV 1 hts gv_X10_117 rfl rfl rfl hd_X10_tell ⟨Nat.le_trans (by decide) hR1, Nat.le_trans (by decide) hR2⟩) (tf_preV hk hW ha0 (ci := 10) rfl rfl trivial) rfl rfl hl.1 rfl (lv_room (Nat.le_of_ble_eq_true rfl)) dX10_law_24 ⟨Nat.zero_le _, Nat.zero_le _⟩) hW (by decide) (fun z346 H346 locs346 hW hF346 hp346 => ?_)
    have hs347 := tf_keepF hF346 ha0 rfl rfl (by decide) hs338
    have hs348 := tf_keepC hF346 hb0 rfl (by decide) hs339
    have hs349 := tf_keepF hF346 ha0 rfl rfl (by decide) hs340
    have hs350 := tf_keepC hF346 hqop rfl (by decide) hs341
    have hs351 := tf_keepF hF346 ha0 rfl rfl (by decide) hs342
    have hs352 := tf_keepC hF346 hqar rfl (by decide) hs343
    have hs353 := tf_keepF hF346 ha0 rfl rfl (by decide) hs344
    have hs354 := tf_keepC hF346 hqcl rfl (by decide) hs345
    obtain ⟨hp346_0, hp346_1, hp346_2⟩ := hp346
    exact tf_reti (z := z346) hx hb hr hlocks hQ hW (show (-2147483648) ≤ (z346) ∧ (z346) ≤ 2147483647 by omega) dX10_law_27

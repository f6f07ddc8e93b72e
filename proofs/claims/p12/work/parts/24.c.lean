set_option maxHeartbeats 4000000 in
set_option maxRecDepth 100000 in
theorem f_X9_image (l : Launch) (g : tf_G) (T : tf_T) (a0 : Nat) (ha0 : T a0 = some (26, 0)) (x1 : Int) (hp1 : (-2147483648) ≤ x1 ∧ x1 ≤ 2147483647) (im : Nat) (him : T im = some (14, 2)) (rn : Int → Int) : Met l yX9_image (cd_X9_image :: wsL_law) ({ frames := 3, cells := 22, slots := 1176, locals := 123 }) (tf_P g T [.ref a0, .int (Int32.ofInt x1)] (fun H => tf_s H a0 (g.1.2 9 1) = some (.ref im) ∧ tf_nl H im = rn)) (tf_QI g M_X9_image T (fun z _ H => (-2147483648) ≤ z ∧ z ≤ 2147483647 ∧ (∃ (rn1 : Int → Int), tf_nl H im = rn1 ∧ ((x1 = 0 → z = 0 ∧ rn1 0 = 1 ∧ rn1 1 = rn 1) ∧ (x1 = 1 → z = 0 ∧ rn1 1 = 1 ∧ rn1 0 = rn 0) ∧ ((x1 < 0 ∨ 1 < x1) → z = -1 ∧ rn1 0 = rn 0 ∧ rn1 1 = rn 1))))) 22 1176 (fun q => tf_B g ≤ q) := by
  refine Met.ofW (cc := cX9_image) (maxL := 3) (ret := (some .int)) (by decide) rfl ?_
  intro p e s m args below meth c s₁ B hml hv
  obtain ⟨hargs, hk, hW0, hB, hpre⟩ := hv
  obtain ⟨he0, he1⟩ := hpre
  have hx := B.exec
  have hb := B.bytes
  have hr := B.returns
  have hts : ∀ w ∈ wsL_law, w.before args s = true := fun w h => atoms_spec (ws := cd_X9_image :: wsL_law) B.pre w (List.mem_cons_of_mem _ h)
  have hown : s.vm.findClass RX9 = some m.cls := findClass_of_methodNamed B.named
  have hlocks := B.notSynchronized
  have hK := hk.1
  have hW := tf_n.start (M := M_X9_image) hW0 hB
  obtain ⟨Q, hQ⟩ : ∃ q, q = MQ below (tf_QI g M_X9_image T (fun z _ H => (-2147483648) ≤ z ∧ z ≤ 2147483647 ∧ (∃ (rn1 : Int → Int), tf_nl H im = rn1 ∧ ((x1 = 0 → z = 0 ∧ rn1 0 = 1 ∧ rn1 1 = rn 1) ∧ (x1 = 1 → z = 0 ∧ rn1 1 = 1 ∧ rn1 0 = rn 0) ∧ ((x1 < 0 ∨ 1 < x1) → z = -1 ∧ rn1 0 = rn 0 ∧ rn1 1 = rn 1))))) args s 22 1176 (fun q => tf_B g ≤ q) := ⟨_, rfl⟩
  rw [← hQ]
  obtain ⟨R, hR⟩ : ∃ q, q = (headSpec (cd_X9_image :: wsL_law) ({ frames := 3, cells := 22, slots := 1176, locals := 123 })).room := ⟨_, rfl⟩
  rw [← hR]
  have hR1 : 3 ≤ R.frames := by rw [hR]; exact Nat.le_refl _
  have hR2 : 123 ≤ R.locals := by rw [hR]; exact Nat.le_refl _
  have hR3 : 22 ≤ R.cells := by rw [hR]; exact Nat.le_refl _
  have hR4 : 1176 ≤ R.slots := by rw [hR]; exact Nat.le_refl _
  have hin := (name_of_methodNamed B.named B.method).1
  clear hR B
  refine tf_enter (As := [.ref a0, .int (Int32.ofInt x1)]) hargs (Nat.le_of_ble_eq_true rfl) (fun ls hl => ?_)
  have hl : lv_has ls 3 [(0, .ref a0), (1, .int (Int32.ofInt x1))] := hl
  refine lv_iload_n hx hb dX9_image_0 rfl (lv_at hl 1 rfl) ?_
  refine tf_iconst hx hb dX9_image_1 ?_
  refine tf_iconst hx hb dX9_image_2 ?_
  refine tf_calli (va_runS (As := [.int (Int32.ofInt x1), .int (Int32.ofInt 0), .int (Int32.ofInt 1)]) (rest := []) ⟨hx, hb, hml, hown, hts⟩ (c_X9_isWithin l g T (x1) ⟨by omega, by omega⟩ (0) ⟨by omega, by omega⟩ (1) ⟨by omega, by omega⟩) ⟨callB_of 3 hts (gw_ws cm_X9_isWithin) rfl rfl rfl (hts _ (tw1 (i := 2) rfl)) (hts _ (tw9 (i := 19) rfl)) hd_X9_isWithin.2 ⟨Nat.le_trans (by decide) hR1, Nat.le_trans (by decide) hR2⟩, hts _ (tw8 (i := 17) rfl)⟩ (tf_preS hk hW trivial) rfl rfl hl.1 rfl (lv_room (Nat.le_of_ble_eq_true rfl)) dX9_image_3 ⟨Nat.le_trans (by omega) hR3, Nat.le_trans (by omega) hR4⟩) hW (by decide) (fun z1 H1 locs1 hW hF1 hp1 => ?_)
  have hs2 := tf_keepF hF1 ha0 rfl rfl (by decide) he0
  have hs3 := tf_keepN hF1 him rfl (by decide) he1
  rcases hp1 with ⟨rfl, h4, h5⟩ | ⟨rfl, h6⟩
  · refine tf_if_ne (tgt := 15) hx hb ⟨by decide, by decide⟩ dX9_image_6 (by decide) (fun h7 => ?_) (fun h7 => ?_)
    · refine lv_aload_n hx hb dX9_image_15 rfl (lv_at hl 0 rfl) ?_
      refine tf_get hx hb hts inlX9 hown hK (ci := 9) rfl hW ha0 rfl 1 rfl (by decide) (hts _ fl_X9_16) dX9_image_16 (fun v8 hv8 hsv8 => ?_)
      obtain rfl : v8 = .ref im := Option.some.inj (hsv8.symm.trans hs2)
      refine lv_iload_n hx hb dX9_image_19 rfl (lv_at hl 1 rfl) ?_
      refine tf_aald (t0 := 5) hx hb hK hW him rfl rfl rfl (by omega) (by omega) dX9_image_20 (fun v9 hv9 hsv9 => ?_)
      rcases tf_v2 hv9 with rfl | ⟨ad10, rfl, had10⟩
      · have er11 : rn x1 = 0 := hs3 ▸ tf_nl_of0 (by omega) hsv9
        refine tf_Nastore_n (lv' := [(2, .null), (0, .ref a0), (1, .int (Int32.ofInt x1))]) hx hb dX9_image_21 rfl hl (by decide) rfl (fun ls hl => ?_)
        refine tf_aloadN hx hb dX9_image_22 (lv_at hl 0 rfl) ?_
        refine lv_ifnonnullN hx hb dX9_image_23 ?_
        have hsz12 := hW.2.2.1.1
        refine tf_new (kr := 54) hx hb hts inlX3 tyX3 tyX3_ok hown (hts _ (tw1 (i := 12) rfl)) (hts _ (tw1 (i := 13) rfl)) (hts _ (tw1 (i := 14) rfl)) hK (ci := 3) rfl hW rfl ⟨rfl, by decide⟩ (Nat.le_trans (by omega) hR3) (Nat.le_trans (by omega) hR4) dX9_image_26 (fun ad12 H12 T hq12 hT12 had12 hE12 hW ho12 => ?_)
        have hsz12 := Nat.le_trans hsz12 (Nat.le_of_eq hq12)
        have hs13 := tf_keepQ hs2 (ho12 _ _ ha0)
        have hs14 := tf_keepNQ hs3 (ho12 _ _ him)
        have ha0 := hE12 _ _ ha0
        have him := hE12 _ _ him
        refine lv_dup hx hb dX9_image_29 rfl ?_
        refine tf_callC (va_runIN (As := []) (rest := [.ref ad12]) ⟨hx, hb, hml, hown, hts⟩ (c_X3_init l g T ad12 had12) ⟨va_cnB 0 hts (gw_ws cm_X3_init) rfl rfl rfl (hk.2.1 _ nw_0) (hts _ (tw1 (i := 14) rfl)) hd_X3_init.2 ⟨Nat.le_trans (by decide) hR1, Nat.le_trans (by decide) hR2⟩, rfl, hts _ (tw2 (i := 15) rfl)⟩ (tf_preS hk hW trivial) rfl rfl hl.1 rfl (lv_room (Nat.le_of_ble_eq_true rfl)) dX9_image_30 ⟨Nat.le_trans (by omega) hR3, Nat.le_trans (by omega) hR4⟩) hW (by decide) (tf_fresh hW0 hsz12) hsz12 had12 (fun H15 locs15 T hW hn15 hE15 hF15 => ?_)
        have hs16 := tf_keepF hF15 ha0 rfl rfl (by decide) hs13
        have hs17 := tf_keepN hF15 him rfl (by decide) hs14
        have ha0 := hE15 _ _ (tf_ne ha0 had12 (by decide)) ha0
        have him := hE15 _ _ (tf_ne him had12 (by decide)) him
        refine lv_astore_n (lv' := [(2, .ref ad12), (0, .ref a0), (1, .int (Int32.ofInt x1))]) hx hb dX9_image_33 rfl hl (by decide) rfl (fun ls hl => ?_)
        refine lv_aload_n hx hb dX9_image_34 rfl (lv_at hl 1 rfl) ?_
        refine tf_get hx hb hts inlX9 hown hK (ci := 9) rfl hW ha0 rfl 1 rfl (by decide) (hts _ fl_X9_16) dX9_image_35 (fun v18 hv18 hsv18 => ?_)
        obtain rfl : v18 = .ref im := Option.some.inj (hsv18.symm.trans hs16)
        refine lv_iload_n hx hb dX9_image_38 rfl (lv_at hl 2 rfl) ?_
        refine lv_aload_n hx hb dX9_image_39 rfl (lv_at hl 0 rfl) ?_
        refine tf_aast (t0 := 5) (ci := 3) hx hb hK hW him rfl rfl hn15 rfl rfl (by omega) (by omega) (by decide) dX9_image_40 (fun H19 locs19 hW hs19 ht19 hq19 => ?_)
        have hs20 := tf_keepQ hs16 (hq19 _ (tf_ne ha0 him (by decide)))
        have hu19 := (tf_nl_up1 (by omega) hs19 ht19).trans (congrArg (fun w => tf_up w (x1) 1) hs17)
        refine lv_aload_n hx hb dX9_image_41 rfl (lv_at hl 0 rfl) ?_
        refine lv_aload_n hx hb dX9_image_42 rfl (lv_at hl 1 rfl) ?_
        refine tf_get hx hb hts inlX9 hown hK (ci := 9) rfl hW ha0 rfl 0 rfl (by decide) (hts _ fl_X9_10) dX9_image_43 (fun v21 hv21 hsv21 => ?_)
        obtain ⟨ad22, rfl, had22⟩ := tf_v1 hv21
        refine tf_callv (va_runV (As := [.ref ad22]) (rest := []) ⟨hx, hb, hml, hown, hts⟩ (c_X3_become l g T ad12 hn15 ad22 had22) (cwV 1 hts gv_X9_355 rfl rfl rfl hd_X3_become ⟨Nat.le_trans (by decide) hR1, Nat.le_trans (by decide) hR2⟩) (tf_preV hk hW hn15 (ci := 3) rfl rfl trivial) rfl rfl hl.1 rfl (lv_room (Nat.le_of_ble_eq_true rfl)) dX9_image_46 ⟨Nat.le_trans (by omega) hR3, Nat.le_trans (by omega) hR4⟩) hW (by decide) (fun H23 locs23 hW hF23 hp23 => ?_)
        have hs24 := tf_keepF hF23 ha0 rfl rfl (by decide) hs20
        have hs25 := tf_keepN hF23 him rfl (by decide) hu19
        refine lv_aload_n hx hb dX9_image_49 rfl (lv_at hl 1 rfl) ?_
        refine tf_iconst hx hb dX9_image_50 ?_
        refine tf_calli (va_runV (As := [.int (Int32.ofInt 0)]) (rest := []) ⟨hx, hb, hml, hown, hts⟩ (c_X9_accept l g T a0 ha0 (0) ⟨by omega, by omega⟩) (cwV 1 hts gv_X9_99 rfl rfl rfl hd_X9_accept ⟨Nat.le_trans (by decide) hR1, Nat.le_trans (by decide) hR2⟩) (tf_preV hk hW ha0 (ci := 9) rfl rfl trivial) rfl rfl hl.1 rfl (lv_room (Nat.le_of_ble_eq_true rfl)) dX9_image_51 ⟨Nat.le_trans (by omega) hR3, Nat.le_trans (by omega) hR4⟩) hW (by decide) (fun z26 H26 locs26 hW hF26 hp26 => ?_)
        have hs27 := tf_keepF hF26 ha0 rfl rfl (by decide) hs24
        have hs28 := tf_keepN hF26 him rfl (by decide) hs25
        obtain ⟨hp26_0, hp26_1, hp26_2⟩ := hp26
        refine W.widen (k := 22) (n := 1176) (by omega) (by omega) ?_
        exact tf_retI (z := z26) hx hb hr hlocks hQ hW ⟨by omega, by omega, ⟨(tf_up rn (x1) 1), hs28, (by first | omega | exact tf_ia (by omega) (by omega) | exact tf_ib er11 (by omega) (by omega))⟩⟩ dX9_image_54
      · have er29 : rn x1 = 1 := hs3 ▸ tf_nl_of1 (by omega) hsv9
        refine lv_astore_n (lv' := [(2, .ref ad10), (0, .ref a0), (1, .int (Int32.ofInt x1))]) hx hb dX9_image_21 rfl hl (by decide) rfl (fun ls hl => ?_)
        refine lv_aload_n hx hb dX9_image_22 rfl (lv_at hl 0 rfl) ?_
        refine lv_ifnonnull (tgt := 41) hx hb dX9_image_23 (by decide) ?_
        refine lv_aload_n hx hb dX9_image_41 rfl (lv_at hl 0 rfl) ?_
        refine lv_aload_n hx hb dX9_image_42 rfl (lv_at hl 1 rfl) ?_
        refine tf_get hx hb hts inlX9 hown hK (ci := 9) rfl hW ha0 rfl 0 rfl (by decide) (hts _ fl_X9_10) dX9_image_43 (fun v30 hv30 hsv30 => ?_)
        obtain ⟨ad31, rfl, had31⟩ := tf_v1 hv30
        refine tf_callv (va_runV (As := [.ref ad31]) (rest := []) ⟨hx, hb, hml, hown, hts⟩ (c_X3_become l g T ad10 had10 ad31 had31) (cwV 1 hts gv_X9_355 rfl rfl rfl hd_X3_become ⟨Nat.le_trans (by decide) hR1, Nat.le_trans (by decide) hR2⟩) (tf_preV hk hW had10 (ci := 3) rfl rfl trivial) rfl rfl hl.1 rfl (lv_room (Nat.le_of_ble_eq_true rfl)) dX9_image_46 ⟨Nat.le_trans (by omega) hR3, Nat.le_trans (by omega) hR4⟩) hW (by decide) (fun H32 locs32 hW hF32 hp32 => ?_)
        have hs33 := tf_keepF hF32 ha0 rfl rfl (by decide) hs2
        have hs34 := tf_keepN hF32 him rfl (by decide) hs3
        refine lv_aload_n hx hb dX9_image_49 rfl (lv_at hl 1 rfl) ?_
        refine tf_iconst hx hb dX9_image_50 ?_
        refine tf_calli (va_runV (As := [.int (Int32.ofInt 0)]) (rest := []) ⟨hx, hb, hml, hown, hts⟩ (c_X9_accept l g T a0 ha0 (0) ⟨by omega, by omega⟩) (cwV 1 hts gv_X9_99 rfl rfl rfl hd_X9_accept ⟨Nat.le_trans (by decide) hR1, Nat.le_trans (by decide) hR2⟩) (tf_preV hk hW ha0 (ci := 9) rfl rfl trivial) rfl rfl hl.1 rfl (lv_room (Nat.le_of_ble_eq_true rfl)) dX9_image_51 ⟨Nat.le_trans (by omega) hR3, Nat.le_trans (by omega) hR4⟩) hW (by decide) (fun z35 H35 locs35 hW hF35 hp35 => ?_)
        have hs36 := tf_keepF hF35 ha0 rfl rfl (by decide) hs33
        have hs37 := tf_keepN hF35 him rfl (by decide) hs34
        obtain ⟨hp35_0, hp35_1, hp35_2⟩ := hp35
        refine W.widen (k := 22) (n := 1176) (by omega) (by omega) ?_
        exact tf_retI (z := z35) hx hb hr hlocks hQ hW ⟨by omega, by omega, ⟨rn, hs37, (by first | omega | exact tf_ia (by omega) (by omega) | exact tf_ib er29 (by omega) (by omega))⟩⟩ dX9_image_54
    · exfalso; omega
  · refine tf_if_ne (tgt := 15) hx hb ⟨by decide, by decide⟩ dX9_image_6 (by decide) (fun h38 => ?_) (fun h38 => ?_)
    · exfalso; omega
    · refine lv_aload_n hx hb dX9_image_9 rfl (lv_at hl 0 rfl) ?_
      refine tf_iconst hx hb dX9_image_10 ?_
      refine tf_calli (va_runV (As := [.int (Int32.ofInt ((-1)))]) (rest := []) ⟨hx, hb, hml, hown, hts⟩ (c_X9_refuse l g T a0 ha0 ((-1)) ⟨by omega, by omega⟩) (cwV 1 hts gv_X9_75 rfl rfl rfl hd_X9_refuse ⟨Nat.le_trans (by decide) hR1, Nat.le_trans (by decide) hR2⟩) (tf_preV hk hW ha0 (ci := 9) rfl rfl trivial) rfl rfl hl.1 rfl (lv_room (Nat.le_of_ble_eq_true rfl)) dX9_image_11 ⟨Nat.le_trans (by omega) hR3, Nat.le_trans (by omega) hR4⟩) hW (by decide) (fun z39 H39 locs39 hW hF39 hp39 => ?_)
      have hs40 := tf_keepF hF39 ha0 rfl rfl (by decide) hs2
      have hs41 := tf_keepN hF39 him rfl (by decide) hs3
      obtain ⟨hp39_0, hp39_1, hp39_2⟩ := hp39
      refine W.widen (k := 22) (n := 1176) (by omega) (by omega) ?_
      exact tf_retI (z := z39) hx hb hr hlocks hQ hW ⟨by omega, by omega, ⟨rn, hs41, (by first | omega | assumption)⟩⟩ dX9_image_14

set_option maxHeartbeats 4000000 in
set_option maxRecDepth 100000 in
theorem f_X9_back (l : Launch) (g : tf_G) (T : tf_T) (a0 : Nat) (ha0 : T a0 = some (26, 0)) (x1 : Int) (hp1 : (-2147483648) ≤ x1 ∧ x1 ≤ 2147483647) (im : Nat) (him : T im = some (14, 2)) (rn : Int → Int) : Met l yX9_back (cd_X9_back :: wsL_law) ({ frames := 3, cells := 0, slots := 0, locals := 123 }) (tf_P g T [.ref a0, .int (Int32.ofInt x1)] (fun H => tf_s H a0 (g.1.2 9 1) = some (.ref im) ∧ tf_nl H im = rn)) (tf_Qi g M_X9_back T (fun z _ _ => (-2147483648) ≤ z ∧ z ≤ 2147483647 ∧ ((x1 = 0 ∧ ((rn 0 = 0 ∧ z = -2) ∨ (rn 0 = 1 ∧ z = 0))) ∨ (x1 = 1 ∧ ((rn 1 = 0 ∧ z = -2) ∨ (rn 1 = 1 ∧ z = 0))) ∨ ((x1 < 0 ∨ 1 < x1) ∧ z = -1)))) 0 0 (fun q => tf_B g ≤ q) := by
  refine Met.ofW (cc := cX9_back) (maxL := 3) (ret := (some .int)) (by decide) rfl ?_
  intro p e s m args below meth c s₁ B hml hv
  obtain ⟨hargs, hk, hW0, hB, hpre⟩ := hv
  obtain ⟨he0, he1⟩ := hpre
  have hx := B.exec
  have hb := B.bytes
  have hr := B.returns
  have hts : ∀ w ∈ wsL_law, w.before args s = true := fun w h => atoms_spec (ws := cd_X9_back :: wsL_law) B.pre w (List.mem_cons_of_mem _ h)
  have hown : s.vm.findClass RX9 = some m.cls := findClass_of_methodNamed B.named
  have hlocks := B.notSynchronized
  have hK := hk.1
  have hW := tf_n.start (M := M_X9_back) hW0 hB
  obtain ⟨Q, hQ⟩ : ∃ q, q = MQ below (tf_Qi g M_X9_back T (fun z _ _ => (-2147483648) ≤ z ∧ z ≤ 2147483647 ∧ ((x1 = 0 ∧ ((rn 0 = 0 ∧ z = -2) ∨ (rn 0 = 1 ∧ z = 0))) ∨ (x1 = 1 ∧ ((rn 1 = 0 ∧ z = -2) ∨ (rn 1 = 1 ∧ z = 0))) ∨ ((x1 < 0 ∨ 1 < x1) ∧ z = -1)))) args s 0 0 (fun q => tf_B g ≤ q) := ⟨_, rfl⟩
  rw [← hQ]
  obtain ⟨R, hR⟩ : ∃ q, q = (headSpec (cd_X9_back :: wsL_law) ({ frames := 3, cells := 0, slots := 0, locals := 123 })).room := ⟨_, rfl⟩
  rw [← hR]
  have hR1 : 3 ≤ R.frames := by rw [hR]; exact Nat.le_refl _
  have hR2 : 123 ≤ R.locals := by rw [hR]; exact Nat.le_refl _
  have hR3 : 0 ≤ R.cells := by rw [hR]; exact Nat.le_refl _
  have hR4 : 0 ≤ R.slots := by rw [hR]; exact Nat.le_refl _
  have hin := (name_of_methodNamed B.named B.method).1
  clear hR B
  have hcc0 : x1 = 0 → rn x1 = rn 0 := fun h => by rw [h]
  have hcc1 : x1 = 1 → rn x1 = rn 1 := fun h => by rw [h]
  refine tf_enter (As := [.ref a0, .int (Int32.ofInt x1)]) hargs (Nat.le_of_ble_eq_true rfl) (fun ls hl => ?_)
  have hl : lv_has ls 3 [(0, .ref a0), (1, .int (Int32.ofInt x1))] := hl
  refine lv_iload_n hx hb dX9_back_0 rfl (lv_at hl 1 rfl) ?_
  refine tf_iconst hx hb dX9_back_1 ?_
  refine tf_iconst hx hb dX9_back_2 ?_
  refine tf_calli (va_runS (As := [.int (Int32.ofInt x1), .int (Int32.ofInt 0), .int (Int32.ofInt 1)]) (rest := []) ⟨hx, hb, hml, hown, hts⟩ (c_X9_isWithin l g T (x1) ⟨by omega, by omega⟩ (0) ⟨by omega, by omega⟩ (1) ⟨by omega, by omega⟩) ⟨callB_of 3 hts (gw_ws cm_X9_isWithin) rfl rfl rfl (hts _ (tw1 (i := 2) rfl)) (hts _ (tw9 (i := 19) rfl)) hd_X9_isWithin.2 ⟨Nat.le_trans (by decide) hR1, Nat.le_trans (by decide) hR2⟩, hts _ (tw8 (i := 17) rfl)⟩ (tf_preS hk hW trivial) rfl rfl hl.1 rfl (lv_room (Nat.le_of_ble_eq_true rfl)) dX9_back_3 ⟨Nat.zero_le _, Nat.zero_le _⟩) hW (by decide) (fun z1 H1 locs1 hW hF1 hp1 => ?_)
  have hs2 := tf_keepF hF1 ha0 rfl rfl (by decide) he0
  have hs3 := tf_keepN hF1 him rfl (by decide) he1
  rcases hp1 with ⟨rfl, h4, h5⟩ | ⟨rfl, h6⟩
  · refine tf_if_ne (tgt := 15) hx hb ⟨by decide, by decide⟩ dX9_back_6 (by decide) (fun h7 => ?_) (fun h7 => ?_)
    · refine lv_aload_n hx hb dX9_back_15 rfl (lv_at hl 0 rfl) ?_
      refine tf_get hx hb hts inlX9 hown hK (ci := 9) rfl hW ha0 rfl 1 rfl (by decide) (hts _ fl_X9_16) dX9_back_16 (fun v8 hv8 hsv8 => ?_)
      obtain rfl : v8 = .ref im := Option.some.inj (hsv8.symm.trans hs2)
      refine lv_iload_n hx hb dX9_back_19 rfl (lv_at hl 1 rfl) ?_
      refine tf_aald (t0 := 5) hx hb hK hW him rfl rfl rfl (by omega) (by omega) dX9_back_20 (fun v9 hv9 hsv9 => ?_)
      rcases tf_v2 hv9 with rfl | ⟨ad10, rfl, had10⟩
      · have er11 : rn x1 = 0 := hs3 ▸ tf_nl_of0 (by omega) hsv9
        refine tf_Nastore_n (lv' := [(2, .null), (0, .ref a0), (1, .int (Int32.ofInt x1))]) hx hb dX9_back_21 rfl hl (by decide) rfl (fun ls hl => ?_)
        refine tf_aloadN hx hb dX9_back_22 (lv_at hl 0 rfl) ?_
        refine lv_ifnonnullN hx hb dX9_back_23 ?_
        refine lv_aload_n hx hb dX9_back_26 rfl (lv_at hl 1 rfl) ?_
        refine tf_bipush hx hb dX9_back_27 (by decide) ?_
        refine tf_calli (va_runV (As := [.int (Int32.ofInt ((-2)))]) (rest := []) ⟨hx, hb, hml, hown, hts⟩ (c_X9_refuse l g T a0 ha0 ((-2)) ⟨by omega, by omega⟩) (cwV 1 hts gv_X9_75 rfl rfl rfl hd_X9_refuse ⟨Nat.le_trans (by decide) hR1, Nat.le_trans (by decide) hR2⟩) (tf_preV hk hW ha0 (ci := 9) rfl rfl trivial) rfl rfl hl.1 rfl (lv_room (Nat.le_of_ble_eq_true rfl)) dX9_back_29 ⟨Nat.zero_le _, Nat.zero_le _⟩) hW (by decide) (fun z12 H12 locs12 hW hF12 hp12 => ?_)
        have hs13 := tf_keepF hF12 ha0 rfl rfl (by decide) hs2
        have hs14 := tf_keepN hF12 him rfl (by decide) hs3
        obtain ⟨hp12_0, hp12_1, hp12_2⟩ := hp12
        exact tf_reti (z := z12) hx hb hr hlocks hQ hW (show (-2147483648) ≤ (z12) ∧ (z12) ≤ 2147483647 ∧ ((x1 = 0 ∧ ((rn 0 = 0 ∧ (z12) = -2) ∨ (rn 0 = 1 ∧ (z12) = 0))) ∨ (x1 = 1 ∧ ((rn 1 = 0 ∧ (z12) = -2) ∨ (rn 1 = 1 ∧ (z12) = 0))) ∨ ((x1 < 0 ∨ 1 < x1) ∧ (z12) = -1)) by omega) dX9_back_32
      · have er15 : rn x1 = 1 := hs3 ▸ tf_nl_of1 (by omega) hsv9
        refine lv_astore_n (lv' := [(2, .ref ad10), (0, .ref a0), (1, .int (Int32.ofInt x1))]) hx hb dX9_back_21 rfl hl (by decide) rfl (fun ls hl => ?_)
        refine lv_aload_n hx hb dX9_back_22 rfl (lv_at hl 0 rfl) ?_
        refine lv_ifnonnull (tgt := 33) hx hb dX9_back_23 (by decide) ?_
        refine lv_aload_n hx hb dX9_back_33 rfl (lv_at hl 1 rfl) ?_
        refine tf_get hx hb hts inlX9 hown hK (ci := 9) rfl hW ha0 rfl 0 rfl (by decide) (hts _ fl_X9_10) dX9_back_34 (fun v16 hv16 hsv16 => ?_)
        obtain ⟨ad17, rfl, had17⟩ := tf_v1 hv16
        refine lv_aload_n hx hb dX9_back_37 rfl (lv_at hl 0 rfl) ?_
        refine tf_callv (va_runV (As := [.ref ad10]) (rest := []) ⟨hx, hb, hml, hown, hts⟩ (c_X3_become l g T ad17 had17 ad10 had10) (cwV 1 hts gv_X9_355 rfl rfl rfl hd_X3_become ⟨Nat.le_trans (by decide) hR1, Nat.le_trans (by decide) hR2⟩) (tf_preV hk hW had17 (ci := 3) rfl rfl trivial) rfl rfl hl.1 rfl (lv_room (Nat.le_of_ble_eq_true rfl)) dX9_back_38 ⟨Nat.zero_le _, Nat.zero_le _⟩) hW (by decide) (fun H18 locs18 hW hF18 hp18 => ?_)
        have hs19 := tf_keepF hF18 ha0 rfl rfl (by decide) hs2
        have hs20 := tf_keepN hF18 him rfl (by decide) hs3
        refine lv_aload_n hx hb dX9_back_41 rfl (lv_at hl 1 rfl) ?_
        refine tf_iconst hx hb dX9_back_42 ?_
        refine tf_calli (va_runV (As := [.int (Int32.ofInt 0)]) (rest := []) ⟨hx, hb, hml, hown, hts⟩ (c_X9_accept l g T a0 ha0 (0) ⟨by omega, by omega⟩) (cwV 1 hts gv_X9_99 rfl rfl rfl hd_X9_accept ⟨Nat.le_trans (by decide) hR1, Nat.le_trans (by decide) hR2⟩) (tf_preV hk hW ha0 (ci := 9) rfl rfl trivial) rfl rfl hl.1 rfl (lv_room (Nat.le_of_ble_eq_true rfl)) dX9_back_43 ⟨Nat.zero_le _, Nat.zero_le _⟩) hW (by decide) (fun z21 H21 locs21 hW hF21 hp21 => ?_)
        have hs22 := tf_keepF hF21 ha0 rfl rfl (by decide) hs19
        have hs23 := tf_keepN hF21 him rfl (by decide) hs20
        obtain ⟨hp21_0, hp21_1, hp21_2⟩ := hp21
        exact tf_reti (z := z21) hx hb hr hlocks hQ hW (show (-2147483648) ≤ (z21) ∧ (z21) ≤ 2147483647 ∧ ((x1 = 0 ∧ ((rn 0 = 0 ∧ (z21) = -2) ∨ (rn 0 = 1 ∧ (z21) = 0))) ∨ (x1 = 1 ∧ ((rn 1 = 0 ∧ (z21) = -2) ∨ (rn 1 = 1 ∧ (z21) = 0))) ∨ ((x1 < 0 ∨ 1 < x1) ∧ (z21) = -1)) by omega) dX9_back_46
    · exfalso; omega
  · refine tf_if_ne (tgt := 15) hx hb ⟨by decide, by decide⟩ dX9_back_6 (by decide) (fun h24 => ?_) (fun h24 => ?_)
    · exfalso; omega
    · refine lv_aload_n hx hb dX9_back_9 rfl (lv_at hl 0 rfl) ?_
      refine tf_iconst hx hb dX9_back_10 ?_
      refine tf_calli (va_runV (As := [.int (Int32.ofInt ((-1)))]) (rest := []) ⟨hx, hb, hml, hown, hts⟩ (c_X9_refuse l g T a0 ha0 ((-1)) ⟨by omega, by omega⟩) (cwV 1 hts gv_X9_75 rfl rfl rfl hd_X9_refuse ⟨Nat.le_trans (by decide) hR1, Nat.le_trans (by decide) hR2⟩) (tf_preV hk hW ha0 (ci := 9) rfl rfl trivial) rfl rfl hl.1 rfl (lv_room (Nat.le_of_ble_eq_true rfl)) dX9_back_11 ⟨Nat.zero_le _, Nat.zero_le _⟩) hW (by decide) (fun z25 H25 locs25 hW hF25 hp25 => ?_)
      have hs26 := tf_keepF hF25 ha0 rfl rfl (by decide) hs2
      have hs27 := tf_keepN hF25 him rfl (by decide) hs3
      obtain ⟨hp25_0, hp25_1, hp25_2⟩ := hp25
      exact tf_reti (z := z25) hx hb hr hlocks hQ hW (show (-2147483648) ≤ (z25) ∧ (z25) ≤ 2147483647 ∧ ((x1 = 0 ∧ ((rn 0 = 0 ∧ (z25) = -2) ∨ (rn 0 = 1 ∧ (z25) = 0))) ∨ (x1 = 1 ∧ ((rn 1 = 0 ∧ (z25) = -2) ∨ (rn 1 = 1 ∧ (z25) = 0))) ∨ ((x1 < 0 ∨ 1 < x1) ∧ (z25) = -1)) by omega) dX9_back_14

set_option maxHeartbeats 4000000 in
set_option maxRecDepth 100000 in
theorem f_X10_image (l : Launch) (g : tf_G) (T : tf_T) (a0 : Nat) (ha0 : T a0 = some (50, 0)) (x1 : Int) (hp1 : (-2147483648) ≤ x1 ∧ x1 ≤ 2147483647) (kp : Nat) (hkp : T kp = some (30, 2)) (rk : Int → Int) : Met l yX10_image (cd_X10_image :: wsL_law) ({ frames := 2, cells := 0, slots := 0, locals := 49 }) (tf_P g T [.ref a0, .int (Int32.ofInt x1)] (fun H => tf_s H a0 (g.1.2 10 5) = some (.ref kp) ∧ tf_rw H kp = rk)) (tf_Qi g M_X10_image T (fun z _ H => (-2147483648) ≤ z ∧ z ≤ 2147483647 ∧ (∃ (rk1 : Int → Int), tf_rw H kp = rk1 ∧ ((x1 = 0 → z = 0 ∧ rk1 0 = 1 ∧ rk1 1 = rk 1) ∧ (x1 = 1 → z = 0 ∧ rk1 1 = 1 ∧ rk1 0 = rk 0) ∧ ((x1 < 0 ∨ 1 < x1) → z = -1 ∧ rk1 0 = rk 0 ∧ rk1 1 = rk 1))))) 0 0 (fun q => tf_B g ≤ q) := by
  refine Met.ofW (cc := cX10_image) (maxL := 3) (ret := (some .int)) (by decide) rfl ?_
  intro p e s m args below meth c s₁ B hml hv
  obtain ⟨hargs, hk, hW0, hB, hpre⟩ := hv
  obtain ⟨he0, he1⟩ := hpre
  have hx := B.exec
  have hb := B.bytes
  have hr := B.returns
  have hts : ∀ w ∈ wsL_law, w.before args s = true := fun w h => atoms_spec (ws := cd_X10_image :: wsL_law) B.pre w (List.mem_cons_of_mem _ h)
  have hown : s.vm.findClass RX10 = some m.cls := findClass_of_methodNamed B.named
  have hlocks := B.notSynchronized
  have hK := hk.1
  have hW := tf_n.start (M := M_X10_image) hW0 hB
  obtain ⟨Q, hQ⟩ : ∃ q, q = MQ below (tf_Qi g M_X10_image T (fun z _ H => (-2147483648) ≤ z ∧ z ≤ 2147483647 ∧ (∃ (rk1 : Int → Int), tf_rw H kp = rk1 ∧ ((x1 = 0 → z = 0 ∧ rk1 0 = 1 ∧ rk1 1 = rk 1) ∧ (x1 = 1 → z = 0 ∧ rk1 1 = 1 ∧ rk1 0 = rk 0) ∧ ((x1 < 0 ∨ 1 < x1) → z = -1 ∧ rk1 0 = rk 0 ∧ rk1 1 = rk 1))))) args s 0 0 (fun q => tf_B g ≤ q) := ⟨_, rfl⟩
  rw [← hQ]
  obtain ⟨R, hR⟩ : ∃ q, q = (headSpec (cd_X10_image :: wsL_law) ({ frames := 2, cells := 0, slots := 0, locals := 49 })).room := ⟨_, rfl⟩
  rw [← hR]
  have hR1 : 2 ≤ R.frames := by rw [hR]; exact Nat.le_refl _
  have hR2 : 49 ≤ R.locals := by rw [hR]; exact Nat.le_refl _
  have hR3 : 0 ≤ R.cells := by rw [hR]; exact Nat.le_refl _
  have hR4 : 0 ≤ R.slots := by rw [hR]; exact Nat.le_refl _
  have hin := (name_of_methodNamed B.named B.method).1
  clear hR B
  obtain ⟨vb0, hfb0, hokb0⟩ := tf_peek hW ha0 (ci := 10) rfl 3 rfl
  obtain ⟨b0, rfl, hb0⟩ := tf_v1 hokb0
  obtain ⟨r0, hr0⟩ := tf_rname hW b0
  have hror0 : tf_RO r0 := hr0 ▸ tf_ROof hW hb0
  obtain ⟨vc0, hfc0, hokc0⟩ := tf_peek hW ha0 (ci := 10) rfl 4 rfl
  obtain ⟨c0, rfl, hc0⟩ := tf_v1 hokc0
  obtain ⟨q0, hq0⟩ := tf_rname hW c0
  have himq0 : tf_RO q0 ∧ tf_RO (fun j => q0 (5830 + j)) := hq0 ▸ tf_IMof hW hc0
  have j_23 : ∀ (n_23 : Nat), 0 ≤ x1 ∧ x1 ≤ 1 → ∀ (x2_23 : Int), 0 ≤ x2_23 ∧ x2_23 ≤ 5830 → ∀ (rIMS_23 : Int → Int), (tf_im q0 r0 x1 x2_23 rIMS_23) → (5830 - x2_23 + 1 ≤ (n_23 : Int)) → ∀ (H : Heap) (locs : List Loc), tf_n tf_ktw g M_X10_image T s.heap T H locs → tf_s H a0 (g.1.2 10 5) = some (.ref kp) → tf_rw H kp = rk → tf_s H a0 (g.1.2 10 3) = some (.ref b0) → tf_rw H b0 = r0 → tf_s H a0 (g.1.2 10 4) = some (.ref c0) → tf_rw H c0 = rIMS_23 → tf_zz g T c0 H → ∀ (ls : Array Slot), lv_has ls 3 [(0, .ref a0), (1, .int (Int32.ofInt x1)), (2, .int (Int32.ofInt x2_23))] → W p l e R s m args below meth c H locs 0 0 Q (F0 m 23 ls []) := by
    intro n_23
    induction n_23 with
    | zero =>
      intro hx1_23 x2_23 hx2_23 rIMS_23 hRIMS_23 hm_23
      exfalso; omega
    | succ n_23 ih_23 =>
      intro hx1_23 x2_23 hx2_23 rIMS_23 hRIMS_23 hm_23 H locs hW hs5_23 hcKEPT_23 hs3_23 hcROW_23 hs4_23 hcIMS_23 hZ ls hl
      refine lv_iload_n hx hb dX10_image_23 rfl (lv_at hl 2 rfl) ?_
      refine tf_sipush hx hb dX10_image_24 (by decide) ?_
      refine tf_icmp_ge (tgt := 54) hx hb ⟨by omega, by omega⟩ ⟨by decide, by decide⟩ dX10_image_27 (by decide) (fun h1 => ?_) (fun h1 => ?_)
      · have hW := tf_strongI hW hZ hc0 (by rw [hcIMS_23]; exact tf_im_end hRIMS_23 himq0 hror0 (by omega) (by omega))
        refine lv_aload_n hx hb dX10_image_54 rfl (lv_at hl 0 rfl) ?_
        refine tf_get hx hb hts inlX10 hown hK (ci := 10) rfl hW ha0 rfl 5 rfl (by decide) (hts _ fl_X10_19) dX10_image_55 (fun v2 hv2 hsv2 => ?_)
        obtain rfl : v2 = .ref kp := Option.some.inj (hsv2.symm.trans hs5_23)
        refine lv_iload_n hx hb dX10_image_58 rfl (lv_at hl 1 rfl) ?_
        refine tf_iconst hx hb dX10_image_59 ?_
        refine tf_zast (t0 := 2) hx hb hK hW hkp rfl rfl (by omega) (by omega) (by decide) (tf_u0 (by omega) (by omega)) (by omega) dX10_image_60 (fun H3 locs3 hW hs3 ht3 hq3 => ?_)
        have hs4 := tf_keepQ hs5_23 (hq3 _ (tf_ne ha0 hkp (by decide)))
        have hs5 := tf_keepQ hs3_23 (hq3 _ (tf_ne ha0 hkp (by decide)))
        have hs6 := tf_keepCQ hcROW_23 (hq3 _ (tf_ne hb0 hkp (by decide)))
        have hs7 := tf_keepQ hs4_23 (hq3 _ (tf_ne ha0 hkp (by decide)))
        have hs8 := tf_keepCQ hcIMS_23 (hq3 _ (tf_ne hc0 hkp (by decide)))
        have hu3 := (tf_rw_up (by omega) hs3 ⟨by omega, by omega⟩ ht3).trans (congrArg (fun w => tf_up w (x1) (1)) hcKEPT_23)
        refine lv_aload_n hx hb dX10_image_61 rfl (lv_at hl 0 rfl) ?_
        refine tf_iconst hx hb dX10_image_62 ?_
        refine tf_calli (va_runV (As := [.int (Int32.ofInt 0)]) (rest := []) ⟨hx, hb, hml, hown, hts⟩ (c_X10_tell l g T a0 ha0 (0) ⟨by omega, by omega⟩) (cwV 1 hts gv_X10_117 rfl rfl rfl hd_X10_tell ⟨Nat.le_trans (by decide) hR1, Nat.le_trans (by decide) hR2⟩) (tf_preV hk hW ha0 (ci := 10) rfl rfl trivial) rfl rfl hl.1 rfl (lv_room (Nat.le_of_ble_eq_true rfl)) dX10_image_63 ⟨Nat.zero_le _, Nat.zero_le _⟩) hW (by decide) (fun z9 H9 locs9 hW hF9 hp9 => ?_)
        have hs10 := tf_keepF hF9 ha0 rfl rfl (by decide) hs4
        have hs11 := tf_keepF hF9 ha0 rfl rfl (by decide) hs5
        have hs12 := tf_keepC hF9 hb0 rfl (by decide) hs6
        have hs13 := tf_keepF hF9 ha0 rfl rfl (by decide) hs7
        have hs14 := tf_keepC hF9 hc0 rfl (by decide) hs8
        have hs15 := tf_keepC hF9 hkp rfl (by decide) hu3
        obtain ⟨hp9_0, hp9_1, hp9_2⟩ := hp9
        exact tf_reti (z := z9) hx hb hr hlocks hQ hW ⟨by omega, by omega, ⟨(tf_up rk (x1) (1)), hs15, (tf_ia (by omega) (by omega))⟩⟩ dX10_image_66
      · refine lv_aload_n hx hb dX10_image_30 rfl (lv_at hl 0 rfl) ?_
        refine tf_get hx hb hts inlX10 hown hK (ci := 10) rfl hW ha0 rfl 4 rfl (by decide) (hts _ fl_X10_16) dX10_image_31 (fun v16 hv16 hsv16 => ?_)
        obtain rfl : v16 = .ref c0 := Option.some.inj (hsv16.symm.trans hs4_23)
        refine tf_sipush hx hb dX10_image_34 (by decide) ?_
        refine lv_iload_n hx hb dX10_image_37 rfl (lv_at hl 1 rfl) ?_
        refine tf_imul hx hb dX10_image_38 ?_
        refine lv_iload_n hx hb dX10_image_39 rfl (lv_at hl 2 rfl) ?_
        refine tf_iadd hx hb dX10_image_40 ?_
        refine lv_aload_n hx hb dX10_image_41 rfl (lv_at hl 0 rfl) ?_
        refine tf_get hx hb hts inlX10 hown hK (ci := 10) rfl hW ha0 rfl 3 rfl (by decide) (hts _ fl_X10_13) dX10_image_42 (fun v17 hv17 hsv17 => ?_)
        obtain rfl : v17 = .ref b0 := Option.some.inj (hsv17.symm.trans hs3_23)
        refine lv_iload_n hx hb dX10_image_45 rfl (lv_at hl 2 rfl) ?_
        refine tf_iald (t0 := 0) hx hb hK hW hb0 rfl rfl (by omega) (by omega) dX10_image_46 (fun v18 hv18 hsv18 => ?_)
        obtain ⟨z19, rfl, hz19⟩ := tf_v0 hv18
        have er20 : r0 x2_23 = z19 := hcROW_23 ▸ tf_rw_of (by omega) hsv18 ⟨by omega, by omega⟩
        refine tf_rwst (t0 := 0) hx hb hK hW hc0 rfl rfl (by omega) (by omega) (by decide) (tf_u0 (by omega) (by omega)) ⟨by omega, by omega⟩ trivial dX10_image_47 (fun H21 locs21 hW hu21 hq21 => ?_)
        have hZ := tf_zz_st hZ hq21
        have hs22 := tf_keepQ hs5_23 (hq21 _ (tf_ne ha0 hc0 (by decide)))
        have hs23 := tf_keepCQ hcKEPT_23 (hq21 _ (tf_ne hkp hc0 (by decide)))
        have hs24 := tf_keepQ hs3_23 (hq21 _ (tf_ne ha0 hc0 (by decide)))
        have hs25 := tf_keepCQ hcROW_23 (hq21 _ (tf_ne hb0 hc0 (by decide)))
        have hs26 := tf_keepQ hs4_23 (hq21 _ (tf_ne ha0 hc0 (by decide)))
        have hu21 := hu21.trans (congrArg (fun w => tf_up w (((5830 * x1) + x2_23)) (z19)) hcIMS_23)
        refine lv_iinc (v := Int32.ofInt ((x2_23 + 1))) (lv' := [(2, .int (Int32.ofInt ((x2_23 + 1)))), (0, .ref a0), (1, .int (Int32.ofInt x1))]) hx hb dX10_image_48 hl (k := 2) rfl (Int32.ofInt_add _ _).symm (by decide) rfl (fun ls hl => ?_)
        refine lv_goto (tgt := 23) hx hb dX10_image_51 (by decide) ?_
        exact ih_23 ⟨by omega, by omega⟩ ((x2_23 + 1)) ⟨by omega, by omega⟩ (tf_up rIMS_23 (((5830 * x1) + x2_23)) (z19)) (by first | exact tf_im_st hRIMS_23 er20 (by omega) | exact fun j => by rw [if_neg (by omega)]) (by omega) _ _ hW hs22 hs23 hs24 hs25 hs26 hu21 hZ _ (lv_sub hl [1, 2, 0] rfl)
  refine tf_enter (As := [.ref a0, .int (Int32.ofInt x1)]) hargs (Nat.le_of_ble_eq_true rfl) (fun ls hl => ?_)
  have hl : lv_has ls 3 [(0, .ref a0), (1, .int (Int32.ofInt x1))] := hl
  refine lv_aload_n hx hb dX10_image_0 rfl (lv_at hl 0 rfl) ?_
  refine tf_iconst hx hb dX10_image_1 ?_
  refine tf_put hx hb hts inlX10 tyX10 tyX10_ok nmX10 hown hK (ci := 10) rfl hW ha0 rfl rfl 0 rfl (by decide) (by decide) (hts _ fl_X10_103) rfl (tf_u0 (by omega) (by omega)) rfl rfl dX10_image_2 (fun H27 locs27 hW hs27 ht27 hq27 => ?_)
  have hs28 := (ht27 5 (by decide) (by decide)).trans he0
  have hs29 := tf_keepCQ he1 (hq27 _ (tf_ne hkp ha0 (by decide)))
  have hs30 := (ht27 3 (by decide) (by decide)).trans hfb0
  have hs31 := tf_keepCQ hr0 (hq27 _ (tf_ne hb0 ha0 (by decide)))
  have hs32 := (ht27 4 (by decide) (by decide)).trans hfc0
  have hs33 := tf_keepCQ hq0 (hq27 _ (tf_ne hc0 ha0 (by decide)))
  refine lv_iload_n hx hb dX10_image_5 rfl (lv_at hl 1 rfl) ?_
  refine tf_i2l hx hb ⟨by omega, by omega⟩ dX10_image_6 ?_
  refine tf_lconst (z := 0) hx hb dX10_image_7 (by decide) ?_
  refine tf_lconst (z := 1) hx hb dX10_image_8 (by decide) ?_
  refine tf_calli (va_runS (As := [.long (Int64.ofInt x1), .long (Int64.ofInt 0), .long (Int64.ofInt 1)]) (rest := []) ⟨hx, hb, hml, hown, hts⟩ (c_X10_in l g T (x1) ⟨by omega, by omega⟩ (0) ⟨by omega, by omega⟩ (1) ⟨by omega, by omega⟩) ⟨callB_of 3 hts (gw_ws cm_X10_in) rfl rfl rfl (hts _ (tw1 (i := 5) rfl)) (hts _ (tw11 (i := 3) rfl)) hd_X10_in.2 ⟨Nat.le_trans (by decide) hR1, Nat.le_trans (by decide) hR2⟩, hts _ (tw11 (i := 4) rfl)⟩ (tf_preS hk hW trivial) rfl rfl hl.1 rfl (lv_room (Nat.le_of_ble_eq_true rfl)) dX10_image_9 ⟨Nat.zero_le _, Nat.zero_le _⟩) hW (by decide) (fun z34 H34 locs34 hW hF34 hp34 => ?_)
  have hs35 := tf_keepF hF34 ha0 rfl rfl (by decide) hs28
  have hs36 := tf_keepC hF34 hkp rfl (by decide) hs29
  have hs37 := tf_keepF hF34 ha0 rfl rfl (by decide) hs30
  have hs38 := tf_keepC hF34 hb0 rfl (by decide) hs31
  have hs39 := tf_keepF hF34 ha0 rfl rfl (by decide) hs32
  have hs40 := tf_keepC hF34 hc0 rfl (by decide) hs33
  rcases hp34 with ⟨rfl, h41, h42⟩ | ⟨rfl, h43⟩
  · refine tf_if_ne (tgt := 21) hx hb ⟨by decide, by decide⟩ dX10_image_12 (by decide) (fun h44 => ?_) (fun h44 => ?_)
    · have hZ := tf_zz_in hW c0
      have hW := tf_weak hW
      refine tf_iconst hx hb dX10_image_21 ?_
      refine lv_istore_n (lv' := [(2, .int (Int32.ofInt 0)), (0, .ref a0), (1, .int (Int32.ofInt x1))]) hx hb dX10_image_22 rfl hl (by decide) rfl (fun ls hl => ?_)
      exact j_23 ((5830 - 0 + 1 : Int)).toNat ⟨by omega, by omega⟩ (0) ⟨by omega, by omega⟩ q0 (by first | exact tf_im_st hRIMS_23 er20 (by omega) | exact fun j => by rw [if_neg (by omega)]) (by omega) _ _ hW hs35 hs36 hs37 hs38 hs39 hs40 hZ _ (lv_sub hl [1, 2, 0] rfl)
    · exfalso; omega
  · refine tf_if_ne (tgt := 21) hx hb ⟨by decide, by decide⟩ dX10_image_12 (by decide) (fun h45 => ?_) (fun h45 => ?_)
    · exfalso; omega
    · refine lv_aload_n hx hb dX10_image_15 rfl (lv_at hl 0 rfl) ?_
      refine tf_iconst hx hb dX10_image_16 ?_
      refine tf_calli (va_runV (As := [.int (Int32.ofInt ((-1)))]) (rest := []) ⟨hx, hb, hml, hown, hts⟩ (c_X10_tell l g T a0 ha0 ((-1)) ⟨by omega, by omega⟩) (cwV 1 hts gv_X10_117 rfl rfl rfl hd_X10_tell ⟨Nat.le_trans (by decide) hR1, Nat.le_trans (by decide) hR2⟩) (tf_preV hk hW ha0 (ci := 10) rfl rfl trivial) rfl rfl hl.1 rfl (lv_room (Nat.le_of_ble_eq_true rfl)) dX10_image_17 ⟨Nat.zero_le _, Nat.zero_le _⟩) hW (by decide) (fun z46 H46 locs46 hW hF46 hp46 => ?_)
      have hs47 := tf_keepF hF46 ha0 rfl rfl (by decide) hs35
      have hs48 := tf_keepC hF46 hkp rfl (by decide) hs36
      have hs49 := tf_keepF hF46 ha0 rfl rfl (by decide) hs37
      have hs50 := tf_keepC hF46 hb0 rfl (by decide) hs38
      have hs51 := tf_keepF hF46 ha0 rfl rfl (by decide) hs39
      have hs52 := tf_keepC hF46 hc0 rfl (by decide) hs40
      obtain ⟨hp46_0, hp46_1, hp46_2⟩ := hp46
      exact tf_reti (z := z46) hx hb hr hlocks hQ hW ⟨by omega, by omega, ⟨rk, hs48, (by first | omega | assumption)⟩⟩ dX10_image_20

set_option maxHeartbeats 4000000 in
set_option maxRecDepth 100000 in
theorem f_X10_back (l : Launch) (g : tf_G) (T : tf_T) (a0 : Nat) (ha0 : T a0 = some (50, 0)) (x1 : Int) (hp1 : (-2147483648) ≤ x1 ∧ x1 ≤ 2147483647) (kp : Nat) (hkp : T kp = some (30, 2)) (rk : Int → Int) : Met l yX10_back (cd_X10_back :: wsL_law) ({ frames := 2, cells := 0, slots := 0, locals := 49 }) (tf_P g T [.ref a0, .int (Int32.ofInt x1)] (fun H => tf_s H a0 (g.1.2 10 5) = some (.ref kp) ∧ tf_rw H kp = rk)) (tf_Qi g M_X10_back T (fun z _ _ => (-2147483648) ≤ z ∧ z ≤ 2147483647 ∧ ((x1 = 0 ∧ ((rk 0 = 0 ∧ z = -2) ∨ (rk 0 = 1 ∧ z = 0))) ∨ (x1 = 1 ∧ ((rk 1 = 0 ∧ z = -2) ∨ (rk 1 = 1 ∧ z = 0))) ∨ ((x1 < 0 ∨ 1 < x1) ∧ z = -1)))) 0 0 (fun q => tf_B g ≤ q) := by
  refine Met.ofW (cc := cX10_back) (maxL := 3) (ret := (some .int)) (by decide) rfl ?_
  intro p e s m args below meth c s₁ B hml hv
  obtain ⟨hargs, hk, hW0, hB, hpre⟩ := hv
  obtain ⟨he0, he1⟩ := hpre
  have hx := B.exec
  have hb := B.bytes
  have hr := B.returns
  have hts : ∀ w ∈ wsL_law, w.before args s = true := fun w h => atoms_spec (ws := cd_X10_back :: wsL_law) B.pre w (List.mem_cons_of_mem _ h)
  have hown : s.vm.findClass RX10 = some m.cls := findClass_of_methodNamed B.named
  have hlocks := B.notSynchronized
  have hK := hk.1
  have hW := tf_n.start (M := M_X10_back) hW0 hB
  obtain ⟨Q, hQ⟩ : ∃ q, q = MQ below (tf_Qi g M_X10_back T (fun z _ _ => (-2147483648) ≤ z ∧ z ≤ 2147483647 ∧ ((x1 = 0 ∧ ((rk 0 = 0 ∧ z = -2) ∨ (rk 0 = 1 ∧ z = 0))) ∨ (x1 = 1 ∧ ((rk 1 = 0 ∧ z = -2) ∨ (rk 1 = 1 ∧ z = 0))) ∨ ((x1 < 0 ∨ 1 < x1) ∧ z = -1)))) args s 0 0 (fun q => tf_B g ≤ q) := ⟨_, rfl⟩
  rw [← hQ]
  obtain ⟨R, hR⟩ : ∃ q, q = (headSpec (cd_X10_back :: wsL_law) ({ frames := 2, cells := 0, slots := 0, locals := 49 })).room := ⟨_, rfl⟩
  rw [← hR]
  have hR1 : 2 ≤ R.frames := by rw [hR]; exact Nat.le_refl _
  have hR2 : 49 ≤ R.locals := by rw [hR]; exact Nat.le_refl _
  have hR3 : 0 ≤ R.cells := by rw [hR]; exact Nat.le_refl _
  have hR4 : 0 ≤ R.slots := by rw [hR]; exact Nat.le_refl _
  have hin := (name_of_methodNamed B.named B.method).1
  clear hR B
  obtain ⟨vb0, hfb0, hokb0⟩ := tf_peek hW ha0 (ci := 10) rfl 3 rfl
  obtain ⟨b0, rfl, hb0⟩ := tf_v1 hokb0
  obtain ⟨r0, hr0⟩ := tf_rname hW b0
  have hror0 : tf_RO r0 := hr0 ▸ tf_ROof hW hb0
  obtain ⟨vc0, hfc0, hokc0⟩ := tf_peek hW ha0 (ci := 10) rfl 4 rfl
  obtain ⟨c0, rfl, hc0⟩ := tf_v1 hokc0
  obtain ⟨q0, hq0⟩ := tf_rname hW c0
  have himq0 : tf_RO q0 ∧ tf_RO (fun j => q0 (5830 + j)) := hq0 ▸ tf_IMof hW hc0
  have hcc0 : x1 = 0 → rk x1 = rk 0 := fun h => by rw [h]
  have hcc1 : x1 = 1 → rk x1 = rk 1 := fun h => by rw [h]
  have j_39 : ∀ (n_39 : Nat), 0 ≤ x1 ∧ x1 ≤ 1 → ∀ (x2_39 : Int), 0 ≤ x2_39 ∧ x2_39 ≤ 5830 → ∀ (rROW_39 : Int → Int), (tf_bk r0 q0 x1 x2_39 rROW_39) → (rk x1 = 1) → (5830 - x2_39 + 1 ≤ (n_39 : Int)) → ∀ (H : Heap) (locs : List Loc), tf_n tf_ktw g M_X10_back T s.heap T H locs → tf_s H a0 (g.1.2 10 3) = some (.ref b0) → tf_rw H b0 = rROW_39 → tf_s H a0 (g.1.2 10 4) = some (.ref c0) → tf_rw H c0 = q0 → tf_zz g T b0 H → ∀ (ls : Array Slot), lv_has ls 3 [(0, .ref a0), (1, .int (Int32.ofInt x1)), (2, .int (Int32.ofInt x2_39))] → W p l e R s m args below meth c H locs 0 0 Q (F0 m 39 ls []) := by
    intro n_39
    induction n_39 with
    | zero =>
      intro hx1_39 x2_39 hx2_39 rROW_39 hRROW_39 hi0_39 hm_39
      exfalso; omega
    | succ n_39 ih_39 =>
      intro hx1_39 x2_39 hx2_39 rROW_39 hRROW_39 hi0_39 hm_39 H locs hW hs3_39 hcROW_39 hs4_39 hcIMS_39 hZ ls hl
      refine lv_iload_n hx hb dX10_back_39 rfl (lv_at hl 2 rfl) ?_
      refine tf_sipush hx hb dX10_back_40 (by decide) ?_
      refine tf_icmp_ge (tgt := 70) hx hb ⟨by omega, by omega⟩ ⟨by decide, by decide⟩ dX10_back_43 (by decide) (fun h1 => ?_) (fun h1 => ?_)
      · have hW := tf_strongR hW hZ hb0 (by rw [hcROW_39]; exact tf_bk_end hRROW_39 himq0 (by omega) (by omega))
        refine lv_aload_n hx hb dX10_back_70 rfl (lv_at hl 0 rfl) ?_
        refine tf_iconst hx hb dX10_back_71 ?_
        refine tf_calli (va_runV (As := [.int (Int32.ofInt 0)]) (rest := []) ⟨hx, hb, hml, hown, hts⟩ (c_X10_tell l g T a0 ha0 (0) ⟨by omega, by omega⟩) (cwV 1 hts gv_X10_117 rfl rfl rfl hd_X10_tell ⟨Nat.le_trans (by decide) hR1, Nat.le_trans (by decide) hR2⟩) (tf_preV hk hW ha0 (ci := 10) rfl rfl trivial) rfl rfl hl.1 rfl (lv_room (Nat.le_of_ble_eq_true rfl)) dX10_back_72 ⟨Nat.zero_le _, Nat.zero_le _⟩) hW (by decide) (fun z2 H2 locs2 hW hF2 hp2 => ?_)
        have hs3 := tf_keepF hF2 ha0 rfl rfl (by decide) hs3_39
        have hs4 := tf_keepC hF2 hb0 rfl (by decide) hcROW_39
        have hs5 := tf_keepF hF2 ha0 rfl rfl (by decide) hs4_39
        have hs6 := tf_keepC hF2 hc0 rfl (by decide) hcIMS_39
        obtain ⟨hp2_0, hp2_1, hp2_2⟩ := hp2
        exact tf_reti (z := z2) hx hb hr hlocks hQ hW (show (-2147483648) ≤ (z2) ∧ (z2) ≤ 2147483647 ∧ ((x1 = 0 ∧ ((rk 0 = 0 ∧ (z2) = -2) ∨ (rk 0 = 1 ∧ (z2) = 0))) ∨ (x1 = 1 ∧ ((rk 1 = 0 ∧ (z2) = -2) ∨ (rk 1 = 1 ∧ (z2) = 0))) ∨ ((x1 < 0 ∨ 1 < x1) ∧ (z2) = -1)) by omega) dX10_back_75
      · refine lv_aload_n hx hb dX10_back_46 rfl (lv_at hl 0 rfl) ?_
        refine tf_get hx hb hts inlX10 hown hK (ci := 10) rfl hW ha0 rfl 3 rfl (by decide) (hts _ fl_X10_13) dX10_back_47 (fun v7 hv7 hsv7 => ?_)
        obtain rfl : v7 = .ref b0 := Option.some.inj (hsv7.symm.trans hs3_39)
        refine lv_iload_n hx hb dX10_back_50 rfl (lv_at hl 2 rfl) ?_
        refine lv_aload_n hx hb dX10_back_51 rfl (lv_at hl 0 rfl) ?_
        refine tf_get hx hb hts inlX10 hown hK (ci := 10) rfl hW ha0 rfl 4 rfl (by decide) (hts _ fl_X10_16) dX10_back_52 (fun v8 hv8 hsv8 => ?_)
        obtain rfl : v8 = .ref c0 := Option.some.inj (hsv8.symm.trans hs4_39)
        refine tf_sipush hx hb dX10_back_55 (by decide) ?_
        refine lv_iload_n hx hb dX10_back_58 rfl (lv_at hl 1 rfl) ?_
        refine tf_imul hx hb dX10_back_59 ?_
        refine lv_iload_n hx hb dX10_back_60 rfl (lv_at hl 2 rfl) ?_
        refine tf_iadd hx hb dX10_back_61 ?_
        refine tf_iald (t0 := 0) hx hb hK hW hc0 rfl rfl (by omega) (by omega) dX10_back_62 (fun v9 hv9 hsv9 => ?_)
        obtain ⟨z10, rfl, hz10⟩ := tf_v0 hv9
        have er11 : q0 ((5830 * x1) + x2_39) = z10 := hcIMS_39 ▸ tf_rw_of (by omega) hsv9 ⟨by omega, by omega⟩
        refine tf_rwst (t0 := 0) hx hb hK hW hb0 rfl rfl (by omega) (by omega) (by decide) (tf_u0 (by omega) (by omega)) ⟨by omega, by omega⟩ trivial dX10_back_63 (fun H12 locs12 hW hu12 hq12 => ?_)
        have hZ := tf_zz_st hZ hq12
        have hs13 := tf_keepQ hs3_39 (hq12 _ (tf_ne ha0 hb0 (by decide)))
        have hs14 := tf_keepQ hs4_39 (hq12 _ (tf_ne ha0 hb0 (by decide)))
        have hs15 := tf_keepCQ hcIMS_39 (hq12 _ (tf_ne hc0 hb0 (by decide)))
        have hu12 := hu12.trans (congrArg (fun w => tf_up w (x2_39) (z10)) hcROW_39)
        refine lv_iinc (v := Int32.ofInt ((x2_39 + 1))) (lv' := [(2, .int (Int32.ofInt ((x2_39 + 1)))), (0, .ref a0), (1, .int (Int32.ofInt x1))]) hx hb dX10_back_64 hl (k := 2) rfl (Int32.ofInt_add _ _).symm (by decide) rfl (fun ls hl => ?_)
        refine lv_goto (tgt := 39) hx hb dX10_back_67 (by decide) ?_
        exact ih_39 ⟨by omega, by omega⟩ ((x2_39 + 1)) ⟨by omega, by omega⟩ (tf_up rROW_39 (x2_39) (z10)) (by first | exact tf_bk_st hRROW_39 er11 (by omega) | exact fun j => by rw [if_neg (by omega)]) (by omega) (by omega) _ _ hW hs13 hu12 hs14 hs15 hZ _ (lv_sub hl [1, 2, 0] rfl)
  refine tf_enter (As := [.ref a0, .int (Int32.ofInt x1)]) hargs (Nat.le_of_ble_eq_true rfl) (fun ls hl => ?_)
  have hl : lv_has ls 3 [(0, .ref a0), (1, .int (Int32.ofInt x1))] := hl
  refine lv_aload_n hx hb dX10_back_0 rfl (lv_at hl 0 rfl) ?_
  refine tf_iconst hx hb dX10_back_1 ?_
  refine tf_put hx hb hts inlX10 tyX10 tyX10_ok nmX10 hown hK (ci := 10) rfl hW ha0 rfl rfl 0 rfl (by decide) (by decide) (hts _ fl_X10_103) rfl (tf_u0 (by omega) (by omega)) rfl rfl dX10_back_2 (fun H16 locs16 hW hs16 ht16 hq16 => ?_)
  have hs17 := (ht16 5 (by decide) (by decide)).trans he0
  have hs18 := tf_keepCQ he1 (hq16 _ (tf_ne hkp ha0 (by decide)))
  have hs19 := (ht16 3 (by decide) (by decide)).trans hfb0
  have hs20 := tf_keepCQ hr0 (hq16 _ (tf_ne hb0 ha0 (by decide)))
  have hs21 := (ht16 4 (by decide) (by decide)).trans hfc0
  have hs22 := tf_keepCQ hq0 (hq16 _ (tf_ne hc0 ha0 (by decide)))
  refine lv_iload_n hx hb dX10_back_5 rfl (lv_at hl 1 rfl) ?_
  refine tf_i2l hx hb ⟨by omega, by omega⟩ dX10_back_6 ?_
  refine tf_lconst (z := 0) hx hb dX10_back_7 (by decide) ?_
  refine tf_lconst (z := 1) hx hb dX10_back_8 (by decide) ?_
  refine tf_calli (va_runS (As := [.long (Int64.ofInt x1), .long (Int64.ofInt 0), .long (Int64.ofInt 1)]) (rest := []) ⟨hx, hb, hml, hown, hts⟩ (c_X10_in l g T (x1) ⟨by omega, by omega⟩ (0) ⟨by omega, by omega⟩ (1) ⟨by omega, by omega⟩) ⟨callB_of 3 hts (gw_ws cm_X10_in) rfl rfl rfl (hts _ (tw1 (i := 5) rfl)) (hts _ (tw11 (i := 3) rfl)) hd_X10_in.2 ⟨Nat.le_trans (by decide) hR1, Nat.le_trans (by decide) hR2⟩, hts _ (tw11 (i := 4) rfl)⟩ (tf_preS hk hW trivial) rfl rfl hl.1 rfl (lv_room (Nat.le_of_ble_eq_true rfl)) dX10_back_9 ⟨Nat.zero_le _, Nat.zero_le _⟩) hW (by decide) (fun z23 H23 locs23 hW hF23 hp23 => ?_)
  have hs24 := tf_keepF hF23 ha0 rfl rfl (by decide) hs17
  have hs25 := tf_keepC hF23 hkp rfl (by decide) hs18
  have hs26 := tf_keepF hF23 ha0 rfl rfl (by decide) hs19
  have hs27 := tf_keepC hF23 hb0 rfl (by decide) hs20
  have hs28 := tf_keepF hF23 ha0 rfl rfl (by decide) hs21
  have hs29 := tf_keepC hF23 hc0 rfl (by decide) hs22
  rcases hp23 with ⟨rfl, h30, h31⟩ | ⟨rfl, h32⟩
  · refine tf_if_ne (tgt := 21) hx hb ⟨by decide, by decide⟩ dX10_back_12 (by decide) (fun h33 => ?_) (fun h33 => ?_)
    · refine lv_aload_n hx hb dX10_back_21 rfl (lv_at hl 0 rfl) ?_
      refine tf_get hx hb hts inlX10 hown hK (ci := 10) rfl hW ha0 rfl 5 rfl (by decide) (hts _ fl_X10_19) dX10_back_22 (fun v34 hv34 hsv34 => ?_)
      obtain rfl : v34 = .ref kp := Option.some.inj (hsv34.symm.trans hs24)
      refine lv_iload_n hx hb dX10_back_25 rfl (lv_at hl 1 rfl) ?_
      refine tf_zald (t0 := 2) hx hb hK hW hkp rfl rfl (by omega) (by omega) dX10_back_26 (fun v35 hv35 hsv35 => ?_)
      obtain ⟨z36, rfl, hz36⟩ := tf_v0 hv35
      have er37 : rk x1 = z36 := hs25 ▸ tf_rw_of (by omega) hsv35 ⟨by omega, by omega⟩
      refine tf_if_ne (tgt := 37) hx hb ⟨by omega, by omega⟩ dX10_back_27 (by decide) (fun h38 => ?_) (fun h38 => ?_)
      · have hZ := tf_zz_in hW b0
        have hW := tf_weak hW
        refine tf_iconst hx hb dX10_back_37 ?_
        refine lv_istore_n (lv' := [(2, .int (Int32.ofInt 0)), (0, .ref a0), (1, .int (Int32.ofInt x1))]) hx hb dX10_back_38 rfl hl (by decide) rfl (fun ls hl => ?_)
        exact j_39 ((5830 - 0 + 1 : Int)).toNat ⟨by omega, by omega⟩ (0) ⟨by omega, by omega⟩ r0 (by first | exact tf_bk_st hRROW_39 er37 (by omega) | exact fun j => by rw [if_neg (by omega)]) (by omega) (by omega) _ _ hW hs26 hs27 hs28 hs29 hZ _ (lv_sub hl [1, 2, 0] rfl)
      · refine lv_aload_n hx hb dX10_back_30 rfl (lv_at hl 0 rfl) ?_
        refine tf_bipush hx hb dX10_back_31 (by decide) ?_
        refine tf_calli (va_runV (As := [.int (Int32.ofInt ((-2)))]) (rest := []) ⟨hx, hb, hml, hown, hts⟩ (c_X10_tell l g T a0 ha0 ((-2)) ⟨by omega, by omega⟩) (cwV 1 hts gv_X10_117 rfl rfl rfl hd_X10_tell ⟨Nat.le_trans (by decide) hR1, Nat.le_trans (by decide) hR2⟩) (tf_preV hk hW ha0 (ci := 10) rfl rfl trivial) rfl rfl hl.1 rfl (lv_room (Nat.le_of_ble_eq_true rfl)) dX10_back_33 ⟨Nat.zero_le _, Nat.zero_le _⟩) hW (by decide) (fun z39 H39 locs39 hW hF39 hp39 => ?_)
        have hs40 := tf_keepF hF39 ha0 rfl rfl (by decide) hs24
        have hs41 := tf_keepC hF39 hkp rfl (by decide) hs25
        have hs42 := tf_keepF hF39 ha0 rfl rfl (by decide) hs26
        have hs43 := tf_keepC hF39 hb0 rfl (by decide) hs27
        have hs44 := tf_keepF hF39 ha0 rfl rfl (by decide) hs28
        have hs45 := tf_keepC hF39 hc0 rfl (by decide) hs29
        obtain ⟨hp39_0, hp39_1, hp39_2⟩ := hp39
        exact tf_reti (z := z39) hx hb hr hlocks hQ hW (show (-2147483648) ≤ (z39) ∧ (z39) ≤ 2147483647 ∧ ((x1 = 0 ∧ ((rk 0 = 0 ∧ (z39) = -2) ∨ (rk 0 = 1 ∧ (z39) = 0))) ∨ (x1 = 1 ∧ ((rk 1 = 0 ∧ (z39) = -2) ∨ (rk 1 = 1 ∧ (z39) = 0))) ∨ ((x1 < 0 ∨ 1 < x1) ∧ (z39) = -1)) by omega) dX10_back_36
    · exfalso; omega
  · refine tf_if_ne (tgt := 21) hx hb ⟨by decide, by decide⟩ dX10_back_12 (by decide) (fun h46 => ?_) (fun h46 => ?_)
    · exfalso; omega
    · refine lv_aload_n hx hb dX10_back_15 rfl (lv_at hl 0 rfl) ?_
      refine tf_iconst hx hb dX10_back_16 ?_
      refine tf_calli (va_runV (As := [.int (Int32.ofInt ((-1)))]) (rest := []) ⟨hx, hb, hml, hown, hts⟩ (c_X10_tell l g T a0 ha0 ((-1)) ⟨by omega, by omega⟩) (cwV 1 hts gv_X10_117 rfl rfl rfl hd_X10_tell ⟨Nat.le_trans (by decide) hR1, Nat.le_trans (by decide) hR2⟩) (tf_preV hk hW ha0 (ci := 10) rfl rfl trivial) rfl rfl hl.1 rfl (lv_room (Nat.le_of_ble_eq_true rfl)) dX10_back_17 ⟨Nat.zero_le _, Nat.zero_le _⟩) hW (by decide) (fun z47 H47 locs47 hW hF47 hp47 => ?_)
      have hs48 := tf_keepF hF47 ha0 rfl rfl (by decide) hs24
      have hs49 := tf_keepC hF47 hkp rfl (by decide) hs25
      have hs50 := tf_keepF hF47 ha0 rfl rfl (by decide) hs26
      have hs51 := tf_keepC hF47 hb0 rfl (by decide) hs27
      have hs52 := tf_keepF hF47 ha0 rfl rfl (by decide) hs28
      have hs53 := tf_keepC hF47 hc0 rfl (by decide) hs29
      obtain ⟨hp47_0, hp47_1, hp47_2⟩ := hp47
      exact tf_reti (z := z47) hx hb hr hlocks hQ hW (show (-2147483648) ≤ (z47) ∧ (z47) ≤ 2147483647 ∧ ((x1 = 0 ∧ ((rk 0 = 0 ∧ (z47) = -2) ∨ (rk 0 = 1 ∧ (z47) = 0))) ∨ (x1 = 1 ∧ ((rk 1 = 0 ∧ (z47) = -2) ∨ (rk 1 = 1 ∧ (z47) = 0))) ∨ ((x1 < 0 ∨ 1 < x1) ∧ (z47) = -1)) by omega) dX10_back_20


abbrev M_J7_copyOf_59c91 : List (Nat × Nat) := [(11, 0)]
set_option maxHeartbeats 4000000 in
set_option maxRecDepth 100000 in
theorem c_J7_copyOf_59c91 (l : Launch) (g : tf_G) (T : tf_T) (a0 i0 : Nat) (ha0 : T a0 = some (0, i0)) (hi0 : i0 ≤ 401) (x1 : Int) (hp1 : 0 ≤ x1 ∧ x1 ≤ 401) : Met l yJ7_copyOf_59c91 (cd_J7_copyOf_59c91 :: wsL_law) ({ frames := 1, cells := 1, slots := 401, locals := 80 }) (tf_P g T [.ref a0, .int (Int32.ofInt x1)] (fun H => True)) (tf_QA g M_J7_copyOf_59c91 T (fun T z _ _ => tf_v T 0 (3, 11, 401, 0, 0) z)) 1 401 (fun q => tf_B g ≤ q) := by
  refine Met.ofW (cc := cJ7_copyOf_59c91) (maxL := 3) (ret := (some (.array .int))) (by decide) rfl ?_
  intro p e s m args below meth c s₁ B hml hv
  obtain ⟨hargs, hk, hW0, hB, hpre⟩ := hv
  have hx := B.exec
  have hb := B.bytes
  have hr := B.returns
  have hts : ∀ w ∈ wsL_law, w.before args s = true := fun w h => atoms_spec (ws := cd_J7_copyOf_59c91 :: wsL_law) B.pre w (List.mem_cons_of_mem _ h)
  have hown : s.vm.findClass RJ7 = some m.cls := findClass_of_methodNamed B.named
  have hlocks := B.notSynchronized
  have hK := hk.1
  have hW := tf_n.start (M := M_J7_copyOf_59c91) hW0 hB
  obtain ⟨Q, hQ⟩ : ∃ q, q = MQ below (tf_QA g M_J7_copyOf_59c91 T (fun T z _ _ => tf_v T 0 (3, 11, 401, 0, 0) z)) args s 1 401 (fun q => tf_B g ≤ q) := ⟨_, rfl⟩
  rw [← hQ]
  obtain ⟨R, hR⟩ : ∃ q, q = (headSpec (cd_J7_copyOf_59c91 :: wsL_law) ({ frames := 1, cells := 1, slots := 401, locals := 80 })).room := ⟨_, rfl⟩
  rw [← hR]
  have hR1 : 1 ≤ R.frames := by rw [hR]; exact Nat.le_refl _
  have hR2 : 80 ≤ R.locals := by rw [hR]; exact Nat.le_refl _
  have hR3 : 1 ≤ R.cells := by rw [hR]; exact Nat.le_refl _
  have hR4 : 401 ≤ R.slots := by rw [hR]; exact Nat.le_refl _
  have hin := (name_of_methodNamed B.named B.method).1
  clear hR B
  refine tf_enter (As := [.ref a0, .int (Int32.ofInt x1)]) hargs (Nat.le_of_ble_eq_true rfl) (fun ls hl => ?_)
  have hl : lv_has ls 3 [(0, .ref a0), (1, .int (Int32.ofInt x1))] := hl
  refine lv_iload_n hx hb dJ7_copyOf_59c91_0 rfl (lv_at hl 1 rfl) ?_
  refine lv_aload_n hx hb dJ7_copyOf_59c91_1 rfl (lv_at hl 0 rfl) ?_
  refine tf_alen (t0 := 0) hx hb hK hW ha0 rfl rfl dJ7_copyOf_59c91_2 (fun hn1 => ?_)
  refine tf_icmp_ne (tgt := 14) hx hb ⟨by omega, by omega⟩ ⟨by omega, by omega⟩ dJ7_copyOf_59c91_3 (by decide) (fun h2 => ?_) (fun h2 => ?_)
  · refine lv_iload_n hx hb dJ7_copyOf_59c91_14 rfl (lv_at hl 1 rfl) ?_
    refine tf_newarr (atype := .int) (ty := .int) (f := (0, 0, 0, -2147483648, 2147483647)) (t0 := 0) (k := 11) (N := (x1).toNat) hx hb (hts _ (tw2 (i := 5) rfl)) hK rfl rfl rfl (fun h => h) (tf_d0 (by decide) (by decide)) hW (by omega) rfl (by omega) (by show _ * 4 ≤ _; omega) (Nat.le_trans (by omega) hR3) (Nat.le_trans (by omega) hR4) dJ7_copyOf_59c91_15 (fun ad3 H3 T hq3 hT3 had3 hE3 hW ho3 => ?_)
    have ha0 := hE3 _ _ ha0
    refine lv_astore_n (lv' := [(2, .ref ad3), (0, .ref a0), (1, .int (Int32.ofInt x1))]) hx hb dJ7_copyOf_59c91_17 rfl hl (by decide) rfl (fun ls hl => ?_)
    refine lv_aload_n hx hb dJ7_copyOf_59c91_18 rfl (lv_at hl 1 rfl) ?_
    refine tf_iconst hx hb dJ7_copyOf_59c91_19 ?_
    refine lv_aload_n hx hb dJ7_copyOf_59c91_20 rfl (lv_at hl 0 rfl) ?_
    refine tf_iconst hx hb dJ7_copyOf_59c91_21 ?_
    refine lv_aload_n hx hb dJ7_copyOf_59c91_22 rfl (lv_at hl 1 rfl) ?_
    refine tf_alen (t0 := 0) hx hb hK hW ha0 rfl rfl dJ7_copyOf_59c91_23 (fun hn4 => ?_)
    refine lv_iload_n hx hb dJ7_copyOf_59c91_24 rfl (lv_at hl 2 rfl) ?_
    refine tf_mmin hx hb hml hl hown (hts _ (tw26 (i := 16) rfl)) (hts _ (tw18 (i := 17) rfl)) (hts _ (tw10 (i := 2) rfl)) (hts _ (tw18 (i := 18) rfl)) ⟨by omega, by omega⟩ ⟨by omega, by omega⟩ (Nat.le_of_ble_eq_true rfl) (Nat.le_trans (by decide) hR1) (Nat.le_trans (by decide) hR2) (Nat.le_trans (by omega) hR3) (Nat.le_trans (by omega) hR4) dJ7_copyOf_59c91_25 (fun z5 hz5 => ?_)
    refine tf_acopy (t0 := 0) hx hb hml hl hown (hts _ (tw26 (i := 17) rfl)) (hts _ (tw26 (i := 18) rfl)) (hts _ (tw26 (i := 19) rfl)) (hts _ (tw26 (i := 20) rfl)) hK hW ha0 had3 rfl rfl rfl (by decide) (by omega) (by omega) (by omega) (by omega) (by omega) (Nat.le_of_ble_eq_true rfl) (Nat.le_trans (by decide) hR1) (Nat.le_trans (by decide) hR2) dJ7_copyOf_59c91_28 (fun H6 locs6 hW hq6 hcw6 => ?_)
    refine lv_aload_n hx hb dJ7_copyOf_59c91_31 rfl (lv_at hl 0 rfl) ?_
    refine W.widen (k := 1) (n := 401) (by omega) (by omega) ?_
    exact tf_retA hx hb hr (by first | exact Or.inl ⟨_, rfl⟩ | exact Or.inr ⟨_, rfl⟩) (Or.inr ⟨_, rfl⟩) hlocks hQ hW (tf_u3 had3 (by omega)) dJ7_copyOf_59c91_32
  · refine lv_aload_n hx hb dJ7_copyOf_59c91_6 rfl (lv_at hl 0 rfl) ?_
    refine tf_cloneI (t0 := 0) (k := 11) hx hb hml hl hown (hts _ (tw26 (i := 10) rfl)) (hts _ (tw26 (i := 11) rfl)) (hts _ (tw26 (i := 12) rfl)) (hts _ (tw26 (i := 13) rfl)) (hts _ (tw26 (i := 14) rfl)) (hk.2.1 _ nw_27) hK rfl hW ha0 rfl rfl (Nat.le_of_ble_eq_true rfl) (Nat.le_trans (by decide) hR1) (Nat.le_trans (by decide) hR2) (Nat.le_trans (by omega) hR3) (Nat.le_trans (by omega) hR4) dJ7_copyOf_59c91_7 (fun ad7 H7 T hq7 hT7 had7 hE7 hW ho7 => ?_)
    have ha0 := hE7 _ _ ha0
    refine tf_castI (t0 := 0) hx hb hown (hts _ (tw26 (i := 15) rfl)) hK rfl hW had7 rfl dJ7_copyOf_59c91_10 ?_
    refine W.widen (k := 1) (n := 401) (by omega) (by omega) ?_
    exact tf_retA hx hb hr (by first | exact Or.inl ⟨_, rfl⟩ | exact Or.inr ⟨_, rfl⟩) (Or.inr ⟨_, rfl⟩) hlocks hQ hW (tf_u3 had7 (by omega)) dJ7_copyOf_59c91_13

abbrev M_r_X9_image : List (Nat × Nat) := [(13, 0), (39, 13)]
set_option maxHeartbeats 4000000 in
set_option maxRecDepth 100000 in
theorem c_r_X9_image (l : Launch) (g : tf_G) (T : tf_T) (a0 : Nat) (ha0 : T a0 = some (39, 0)) (x1 : Int) (hp1 : (-2147483648) ≤ x1 ∧ x1 ≤ 2147483647) (hq0 : x1 < 0 ∨ 1 < x1) : Met l yX9_image (cd_X9_image :: wsL_law) ({ frames := 3, cells := 0, slots := 0, locals := 67 }) (tf_P g T [.ref a0, .int (Int32.ofInt x1)] (fun H => True)) (tf_Qi g M_r_X9_image T (fun z _ _ => (-1) ≤ z ∧ z ≤ (-1))) 0 0 (fun q => tf_B g ≤ q) := by
  refine Met.ofW (cc := cX9_image) (maxL := 3) (ret := (some .int)) (by decide) rfl ?_
  intro p e s m args below meth c s₁ B hml hv
  obtain ⟨hargs, hk, hW0, hB, hpre⟩ := hv
  have hx := B.exec
  have hb := B.bytes
  have hr := B.returns
  have hts : ∀ w ∈ wsL_law, w.before args s = true := fun w h => atoms_spec (ws := cd_X9_image :: wsL_law) B.pre w (List.mem_cons_of_mem _ h)
  have hown : s.vm.findClass RX9 = some m.cls := findClass_of_methodNamed B.named
  have hlocks := B.notSynchronized
  have hK := hk.1
  have hW := tf_n.start (M := M_r_X9_image) hW0 hB
  obtain ⟨Q, hQ⟩ : ∃ q, q = MQ below (tf_Qi g M_r_X9_image T (fun z _ _ => (-1) ≤ z ∧ z ≤ (-1))) args s 0 0 (fun q => tf_B g ≤ q) := ⟨_, rfl⟩
  rw [← hQ]
  obtain ⟨R, hR⟩ : ∃ q, q = (headSpec (cd_X9_image :: wsL_law) ({ frames := 3, cells := 0, slots := 0, locals := 67 })).room := ⟨_, rfl⟩
  rw [← hR]
  have hR1 : 3 ≤ R.frames := by rw [hR]; exact Nat.le_refl _
  have hR2 : 67 ≤ R.locals := by rw [hR]; exact Nat.le_refl _
  have hR3 : 0 ≤ R.cells := by rw [hR]; exact Nat.le_refl _
  have hR4 : 0 ≤ R.slots := by rw [hR]; exact Nat.le_refl _
  have hin := (name_of_methodNamed B.named B.method).1
  clear hR B
  refine tf_enter (As := [.ref a0, .int (Int32.ofInt x1)]) hargs (Nat.le_of_ble_eq_true rfl) (fun ls hl => ?_)
  have hl : lv_has ls 3 [(0, .ref a0), (1, .int (Int32.ofInt x1))] := hl
  refine lv_iload_n hx hb dX9_image_0 rfl (lv_at hl 1 rfl) ?_
  refine tf_iconst hx hb dX9_image_1 ?_
  refine tf_iconst hx hb dX9_image_2 ?_
  refine tf_calli (va_runS (As := [.int (Int32.ofInt x1), .int (Int32.ofInt 0), .int (Int32.ofInt 1)]) (rest := []) ⟨hx, hb, hml, hown, hts⟩ (c_X9_isWithin l g T (x1) ⟨by omega, by omega⟩ (0) ⟨by omega, by omega⟩ (1) ⟨by omega, by omega⟩) ⟨callB_of 3 hts (gw_ws cm_X9_isWithin) rfl rfl rfl (hts _ (tw1 (i := 2) rfl)) (hts _ (tw9 (i := 19) rfl)) hd_X9_isWithin.2 ⟨Nat.le_trans (by decide) hR1, Nat.le_trans (by decide) hR2⟩, hts _ (tw8 (i := 17) rfl)⟩ (tf_preS hk hW trivial) rfl rfl hl.1 rfl (lv_room (Nat.le_of_ble_eq_true rfl)) dX9_image_3 ⟨Nat.zero_le _, Nat.zero_le _⟩) hW (by decide) (fun z1 H1 locs1 hW hF1 hp1 => ?_)
  rcases hp1 with ⟨rfl, h2, h3⟩ | ⟨rfl, h4⟩
  · refine tf_if_ne (tgt := 15) hx hb ⟨by decide, by decide⟩ dX9_image_6 (by decide) (fun h5 => ?_) (fun h5 => ?_)
    · exfalso; omega
    · exfalso; omega
  · refine tf_if_ne (tgt := 15) hx hb ⟨by decide, by decide⟩ dX9_image_6 (by decide) (fun h6 => ?_) (fun h6 => ?_)
    · exfalso; omega
    · refine lv_aload_n hx hb dX9_image_9 rfl (lv_at hl 0 rfl) ?_
      refine tf_iconst hx hb dX9_image_10 ?_
      refine tf_calli (va_runV (As := [.int (Int32.ofInt ((-1)))]) (rest := []) ⟨hx, hb, hml, hown, hts⟩ (c_X9_refuse l g T a0 ha0 ((-1)) ⟨by omega, by omega⟩) (cwV 1 hts gv_X9_75 rfl rfl rfl hd_X9_refuse ⟨Nat.le_trans (by decide) hR1, Nat.le_trans (by decide) hR2⟩) (tf_preV hk hW ha0 (ci := 9) rfl rfl trivial) rfl rfl hl.1 rfl (lv_room (Nat.le_of_ble_eq_true rfl)) dX9_image_11 ⟨Nat.zero_le _, Nat.zero_le _⟩) hW (by decide) (fun z7 H7 locs7 hW hF7 hp7 => ?_)
      obtain ⟨hp7_0, hp7_1, hp7_2⟩ := hp7
      exact tf_reti (z := z7) hx hb hr hlocks hQ hW (show (-1) ≤ (z7) ∧ (z7) ≤ (-1) by omega) dX9_image_14

abbrev M_n0_X9_image : List (Nat × Nat) := [(1, 0), (2, 0), (9, 0), (10, 0), (14, 0), (15, 0), (16, 0), (17, 0), (18, 0), (19, 0), (32, 8), (32, 9), (32, 11), (35, 4), (36, 2), (36, 6), (36, 10), (38, 4), (39, 13), (64, 0), (64, 1), (64, 2), (64, 3), (67, 0), (67, 1), (67, 2), (67, 3), (67, 4), (67, 5), (67, 6), (67, 7), (67, 8), (67, 9), (67, 10), (67, 11), (69, 0), (69, 1), (69, 2), (69, 3), (69, 4), (72, 0), (72, 1), (72, 2), (72, 3), (72, 4)]
set_option maxHeartbeats 4000000 in
set_option maxRecDepth 100000 in
theorem c_n0_X9_image (l : Launch) (g : tf_G) (T : tf_T) (a0 : Nat) (ha0 : T a0 = some (39, 0)) (x1 : Int) (hp1 : 0 ≤ x1 ∧ x1 ≤ 0) (sq : Nat) (hsq : T sq = some (31, 0)) (im : Nat) (him : T im = some (15, 2)) (lp : Nat) (hlp : T lp = some (5, 4)) (lh : Nat) (hlh : T lh = some (6, 4)) (yr : Nat) (hyr : T yr = some (7, 40)) (wh : Nat) (hwh : T wh = some (8, 4)) (gl : Int → Int) (gh : Int → Int) (gy : Int → Int) (gw : Int → Int) (vo : Value) : Met l yX9_image (cd_X9_image :: wsL_law) ({ frames := 3, cells := 22, slots := 1176, locals := 123 }) (tf_P g T [.ref a0, .int (Int32.ofInt x1)] (fun H => tf_s H a0 (g.1.2 9 0) = some (.ref sq) ∧ tf_s H sq (g.1.2 3 3) = some (.ref lp) ∧ tf_s H sq (g.1.2 3 4) = some (.ref lh) ∧ tf_s H sq (g.1.2 3 5) = some (.ref yr) ∧ tf_s H sq (g.1.2 3 6) = some (.ref wh) ∧ tf_rw H lp = gl ∧ tf_rw H lh = gh ∧ tf_rw H yr = gy ∧ tf_rw H wh = gw ∧ tf_s H a0 (g.1.2 9 1) = some (.ref im) ∧ tf_s H im 0 = some .null ∧ tf_s H im 1 = some vo)) (tf_QI g M_n0_X9_image T (fun T z _ H => 0 ≤ z ∧ z ≤ 0 ∧ (∃ (ss slp slh syr swh : Nat), T ss = some (32, 0) ∧ T slp = some (16, 4) ∧ T slh = some (17, 4) ∧ T syr = some (18, 40) ∧ T swh = some (19, 4) ∧ tf_s H im 0 = some (.ref ss) ∧ tf_s H im 1 = some vo ∧ tf_s H ss (g.1.2 3 3) = some (.ref slp) ∧ tf_s H ss (g.1.2 3 4) = some (.ref slh) ∧ tf_s H ss (g.1.2 3 5) = some (.ref syr) ∧ tf_s H ss (g.1.2 3 6) = some (.ref swh) ∧ tf_rw H slp = gl ∧ tf_rw H slh = gh ∧ tf_rw H syr = gy ∧ tf_rw H swh = gw))) 22 1176 (fun q => tf_B g ≤ q) := by
  refine Met.ofW (cc := cX9_image) (maxL := 3) (ret := (some .int)) (by decide) rfl ?_
  intro p e s m args below meth c s₁ B hml hv
  obtain ⟨hargs, hk, hW0, hB, hpre⟩ := hv
  obtain ⟨he0, he1, he2, he3, he4, he5, he6, he7, he8, he9, he10, he11⟩ := hpre
  have hx := B.exec
  have hb := B.bytes
  have hr := B.returns
  have hts : ∀ w ∈ wsL_law, w.before args s = true := fun w h => atoms_spec (ws := cd_X9_image :: wsL_law) B.pre w (List.mem_cons_of_mem _ h)
  have hown : s.vm.findClass RX9 = some m.cls := findClass_of_methodNamed B.named
  have hlocks := B.notSynchronized
  have hK := hk.1
  have hW := tf_n.start (M := M_n0_X9_image) hW0 hB
  obtain ⟨Q, hQ⟩ : ∃ q, q = MQ below (tf_QI g M_n0_X9_image T (fun T z _ H => 0 ≤ z ∧ z ≤ 0 ∧ (∃ (ss slp slh syr swh : Nat), T ss = some (32, 0) ∧ T slp = some (16, 4) ∧ T slh = some (17, 4) ∧ T syr = some (18, 40) ∧ T swh = some (19, 4) ∧ tf_s H im 0 = some (.ref ss) ∧ tf_s H im 1 = some vo ∧ tf_s H ss (g.1.2 3 3) = some (.ref slp) ∧ tf_s H ss (g.1.2 3 4) = some (.ref slh) ∧ tf_s H ss (g.1.2 3 5) = some (.ref syr) ∧ tf_s H ss (g.1.2 3 6) = some (.ref swh) ∧ tf_rw H slp = gl ∧ tf_rw H slh = gh ∧ tf_rw H syr = gy ∧ tf_rw H swh = gw))) args s 22 1176 (fun q => tf_B g ≤ q) := ⟨_, rfl⟩
  rw [← hQ]
  obtain ⟨R, hR⟩ : ∃ q, q = (headSpec (cd_X9_image :: wsL_law) ({ frames := 3, cells := 22, slots := 1176, locals := 123 })).room := ⟨_, rfl⟩
  rw [← hR]
  have hR1 : 3 ≤ R.frames := by rw [hR]; exact Nat.le_refl _
  have hR2 : 123 ≤ R.locals := by rw [hR]; exact Nat.le_refl _
  have hR3 : 22 ≤ R.cells := by rw [hR]; exact Nat.le_refl _
  have hR4 : 1176 ≤ R.slots := by rw [hR]; exact Nat.le_refl _
  have hin := (name_of_methodNamed B.named B.method).1
  clear hR B
  refine tf_enter (As := [.ref a0, .int (Int32.ofInt x1)]) hargs (Nat.le_of_ble_eq_true rfl) (fun ls hl => ?_)
  have hl : lv_has ls 3 [(0, .ref a0), (1, .int (Int32.ofInt x1))] := hl
  refine lv_iload_n hx hb dX9_image_0 rfl (lv_at hl 1 rfl) ?_
  refine tf_iconst hx hb dX9_image_1 ?_
  refine tf_iconst hx hb dX9_image_2 ?_
  refine tf_calli (va_runS (As := [.int (Int32.ofInt x1), .int (Int32.ofInt 0), .int (Int32.ofInt 1)]) (rest := []) ⟨hx, hb, hml, hown, hts⟩ (c_X9_isWithin l g T (x1) ⟨by omega, by omega⟩ (0) ⟨by omega, by omega⟩ (1) ⟨by omega, by omega⟩) ⟨callB_of 3 hts (gw_ws cm_X9_isWithin) rfl rfl rfl (hts _ (tw1 (i := 2) rfl)) (hts _ (tw9 (i := 19) rfl)) hd_X9_isWithin.2 ⟨Nat.le_trans (by decide) hR1, Nat.le_trans (by decide) hR2⟩, hts _ (tw8 (i := 17) rfl)⟩ (tf_preS hk hW trivial) rfl rfl hl.1 rfl (lv_room (Nat.le_of_ble_eq_true rfl)) dX9_image_3 ⟨Nat.le_trans (by omega) hR3, Nat.le_trans (by omega) hR4⟩) hW (by decide) (fun z1 H1 locs1 hW hF1 hp1 => ?_)
  have hs2 := tf_keepF hF1 ha0 rfl rfl (by decide) he0
  have hs3 := tf_keepF hF1 hsq rfl rfl (by decide) he1
  have hs4 := tf_keepF hF1 hsq rfl rfl (by decide) he2
  have hs5 := tf_keepF hF1 hsq rfl rfl (by decide) he3
  have hs6 := tf_keepF hF1 hsq rfl rfl (by decide) he4
  have hs7 := tf_keepC hF1 hlp rfl (by decide) he5
  have hs8 := tf_keepC hF1 hlh rfl (by decide) he6
  have hs9 := tf_keepC hF1 hyr rfl (by decide) he7
  have hs10 := tf_keepC hF1 hwh rfl (by decide) he8
  have hs11 := tf_keepF hF1 ha0 rfl rfl (by decide) he9
  have hs12 := tf_keepS hF1 him rfl (by decide) he10
  have hs13 := tf_keepS hF1 him rfl (by decide) he11
  rcases hp1 with ⟨rfl, h14, h15⟩ | ⟨rfl, h16⟩
  · refine tf_if_ne (tgt := 15) hx hb ⟨by decide, by decide⟩ dX9_image_6 (by decide) (fun h17 => ?_) (fun h17 => ?_)
    · refine lv_aload_n hx hb dX9_image_15 rfl (lv_at hl 0 rfl) ?_
      refine tf_get hx hb hts inlX9 hown hK (ci := 9) rfl hW ha0 rfl 1 rfl (by decide) (hts _ fl_X9_16) dX9_image_16 (fun v18 hv18 hsv18 => ?_)
      obtain rfl : v18 = .ref im := Option.some.inj (hsv18.symm.trans hs11)
      refine lv_iload_n hx hb dX9_image_19 rfl (lv_at hl 1 rfl) ?_
      refine tf_aald (t0 := 5) hx hb hK hW him rfl rfl rfl (by omega) (by omega) (by rw [show (x1 : Int).toNat = 0 by omega]; rfl) dX9_image_20 (fun v19 hv19 hsv19 => ?_)
      rw [show (x1 : Int).toNat = 0 by omega] at hsv19
      obtain rfl : v19 = .null := Option.some.inj (hsv19.symm.trans hs12)
      refine tf_Nastore_n (lv' := [(2, .null), (0, .ref a0), (1, .int (Int32.ofInt x1))]) hx hb dX9_image_21 rfl hl (by decide) rfl (fun ls hl => ?_)
      refine tf_aloadN hx hb dX9_image_22 (lv_at hl 0 rfl) ?_
      refine lv_ifnonnullN hx hb dX9_image_23 ?_
      have hsz20 := hW.2.2.1.1
      refine tf_new (kr := 67) hx hb hts inlX3 tyX3 tyX3_ok hown (hts _ (tw1 (i := 12) rfl)) (hts _ (tw1 (i := 13) rfl)) (hts _ (tw1 (i := 14) rfl)) hK (ci := 3) rfl hW rfl ⟨rfl, by decide⟩ (Nat.le_trans (by omega) hR3) (Nat.le_trans (by omega) hR4) dX9_image_26 (fun ad20 H20 T hq20 hT20 had20 hE20 hW ho20 => ?_)
      have hsz20 := Nat.le_trans hsz20 (Nat.le_of_eq hq20)
      have hs21 := tf_keepQ hs2 (ho20 _ _ ha0)
      have hs22 := tf_keepQ hs3 (ho20 _ _ hsq)
      have hs23 := tf_keepQ hs4 (ho20 _ _ hsq)
      have hs24 := tf_keepQ hs5 (ho20 _ _ hsq)
      have hs25 := tf_keepQ hs6 (ho20 _ _ hsq)
      have hs26 := tf_keepCQ hs7 (ho20 _ _ hlp)
      have hs27 := tf_keepCQ hs8 (ho20 _ _ hlh)
      have hs28 := tf_keepCQ hs9 (ho20 _ _ hyr)
      have hs29 := tf_keepCQ hs10 (ho20 _ _ hwh)
      have hs30 := tf_keepQ hs11 (ho20 _ _ ha0)
      have hs31 := tf_keepQ hs12 (ho20 _ _ him)
      have hs32 := tf_keepQ hs13 (ho20 _ _ him)
      have ha0 := hE20 _ _ ha0
      have hsq := hE20 _ _ hsq
      have hlp := hE20 _ _ hlp
      have hlh := hE20 _ _ hlh
      have hyr := hE20 _ _ hyr
      have hwh := hE20 _ _ hwh
      have him := hE20 _ _ him
      refine lv_dup hx hb dX9_image_29 rfl ?_
      refine tf_callC (va_runIN (As := []) (rest := [.ref ad20]) ⟨hx, hb, hml, hown, hts⟩ (c_i1_X3_init l g T ad20 had20) ⟨va_cnB 0 hts (gw_ws cm_X3_init) rfl rfl rfl (hk.2.1 _ nw_0) (hts _ (tw1 (i := 14) rfl)) hd_X3_init.2 ⟨Nat.le_trans (by decide) hR1, Nat.le_trans (by decide) hR2⟩, rfl, hts _ (tw2 (i := 15) rfl)⟩ (tf_preS hk hW trivial) rfl rfl hl.1 rfl (lv_room (Nat.le_of_ble_eq_true rfl)) dX9_image_30 ⟨Nat.le_trans (by omega) hR3, Nat.le_trans (by omega) hR4⟩) hW (by decide) (tf_fresh hW0 hsz20) hsz20 had20 (fun H33 locs33 T hW hn33 hE33 hF33 => ?_)
      have hs34 := tf_keepF hF33 ha0 rfl rfl (by decide) hs21
      have hs35 := tf_keepF hF33 hsq rfl rfl (by decide) hs22
      have hs36 := tf_keepF hF33 hsq rfl rfl (by decide) hs23
      have hs37 := tf_keepF hF33 hsq rfl rfl (by decide) hs24
      have hs38 := tf_keepF hF33 hsq rfl rfl (by decide) hs25
      have hs39 := tf_keepC hF33 hlp rfl (by decide) hs26
      have hs40 := tf_keepC hF33 hlh rfl (by decide) hs27
      have hs41 := tf_keepC hF33 hyr rfl (by decide) hs28
      have hs42 := tf_keepC hF33 hwh rfl (by decide) hs29
      have hs43 := tf_keepF hF33 ha0 rfl rfl (by decide) hs30
      have hs44 := tf_keepS hF33 him rfl (by decide) hs31
      have hs45 := tf_keepS hF33 him rfl (by decide) hs32
      have ha0 := hE33 _ _ (tf_ne ha0 had20 (by decide)) ha0
      have hsq := hE33 _ _ (tf_ne hsq had20 (by decide)) hsq
      have hlp := hE33 _ _ (tf_ne hlp had20 (by decide)) hlp
      have hlh := hE33 _ _ (tf_ne hlh had20 (by decide)) hlh
      have hyr := hE33 _ _ (tf_ne hyr had20 (by decide)) hyr
      have hwh := hE33 _ _ (tf_ne hwh had20 (by decide)) hwh
      have him := hE33 _ _ (tf_ne him had20 (by decide)) him
      refine lv_astore_n (lv' := [(2, .ref ad20), (0, .ref a0), (1, .int (Int32.ofInt x1))]) hx hb dX9_image_33 rfl hl (by decide) rfl (fun ls hl => ?_)
      refine lv_aload_n hx hb dX9_image_34 rfl (lv_at hl 1 rfl) ?_
      refine tf_get hx hb hts inlX9 hown hK (ci := 9) rfl hW ha0 rfl 1 rfl (by decide) (hts _ fl_X9_16) dX9_image_35 (fun v46 hv46 hsv46 => ?_)
      obtain rfl : v46 = .ref im := Option.some.inj (hsv46.symm.trans hs43)
      refine lv_iload_n hx hb dX9_image_38 rfl (lv_at hl 2 rfl) ?_
      refine lv_aload_n hx hb dX9_image_39 rfl (lv_at hl 0 rfl) ?_
      refine tf_aast (t0 := 5) (ci := 3) hx hb hK hW him rfl rfl hn33 rfl rfl (by omega) (by omega) (by decide) (by rw [show (x1 : Int).toNat = 0 by omega]; rfl) dX9_image_40 (fun H47 locs47 hW hs47 ht47 hq47 => ?_)
      have hs48 := tf_keepQ hs34 (hq47 _ (tf_ne ha0 him (by decide)))
      have hs49 := tf_keepQ hs35 (hq47 _ (tf_ne hsq him (by decide)))
      have hs50 := tf_keepQ hs36 (hq47 _ (tf_ne hsq him (by decide)))
      have hs51 := tf_keepQ hs37 (hq47 _ (tf_ne hsq him (by decide)))
      have hs52 := tf_keepQ hs38 (hq47 _ (tf_ne hsq him (by decide)))
      have hs53 := tf_keepCQ hs39 (hq47 _ (tf_ne hlp him (by decide)))
      have hs54 := tf_keepCQ hs40 (hq47 _ (tf_ne hlh him (by decide)))
      have hs55 := tf_keepCQ hs41 (hq47 _ (tf_ne hyr him (by decide)))
      have hs56 := tf_keepCQ hs42 (hq47 _ (tf_ne hwh him (by decide)))
      have hs57 := tf_keepQ hs43 (hq47 _ (tf_ne ha0 him (by decide)))
      rw [show (x1 : Int).toNat = 0 by omega] at hs47 ht47
      have hs58 := (ht47 1 (by decide)).trans hs45
      refine lv_aload_n hx hb dX9_image_41 rfl (lv_at hl 0 rfl) ?_
      refine lv_aload_n hx hb dX9_image_42 rfl (lv_at hl 1 rfl) ?_
      refine tf_get hx hb hts inlX9 hown hK (ci := 9) rfl hW ha0 rfl 0 rfl (by decide) (hts _ fl_X9_10) dX9_image_43 (fun v59 hv59 hsv59 => ?_)
      obtain rfl : v59 = .ref sq := Option.some.inj (hsv59.symm.trans hs48)
      obtain ⟨pv60, hpv60, hok60⟩ := tf_peek hW hn33 (ci := 3) rfl 3 rfl
      obtain ⟨ad61, rfl, had61⟩ := tf_v1 hok60
      obtain ⟨pv62, hpv62, hok62⟩ := tf_peek hW hn33 (ci := 3) rfl 4 rfl
      obtain ⟨ad63, rfl, had63⟩ := tf_v1 hok62
      obtain ⟨pv64, hpv64, hok64⟩ := tf_peek hW hn33 (ci := 3) rfl 5 rfl
      obtain ⟨ad65, rfl, had65⟩ := tf_v1 hok64
      obtain ⟨pv66, hpv66, hok66⟩ := tf_peek hW hn33 (ci := 3) rfl 6 rfl
      obtain ⟨ad67, rfl, had67⟩ := tf_v1 hok66
      obtain ⟨r68, hr68⟩ := tf_rname hW ad61
      obtain ⟨r69, hr69⟩ := tf_rname hW ad63
      obtain ⟨r70, hr70⟩ := tf_rname hW ad65
      obtain ⟨r71, hr71⟩ := tf_rname hW ad67
      refine tf_callv (va_runV (As := [.ref sq]) (rest := []) ⟨hx, hb, hml, hown, hts⟩ (c_b1_X3_become l g T ad20 hn33 sq hsq ad61 had61 ad63 had63 ad65 had65 ad67 had67 lp hlp lh hlh yr hyr wh hwh r68 r69 r70 r71 gl gh gy gw) (cwV 1 hts gv_X9_355 rfl rfl rfl hd_X3_become ⟨Nat.le_trans (by decide) hR1, Nat.le_trans (by decide) hR2⟩) (tf_preV hk hW hn33 (ci := 3) rfl rfl ⟨hpv60, hpv62, hpv64, hpv66, hs49, hs50, hs51, hs52, hr68, hr69, hr70, hr71, hs53, hs54, hs55, hs56⟩) rfl rfl hl.1 rfl (lv_room (Nat.le_of_ble_eq_true rfl)) dX9_image_46 ⟨Nat.le_trans (by omega) hR3, Nat.le_trans (by omega) hR4⟩) hW (by decide) (fun H72 locs72 hW hF72 hp72 => ?_)
      have hs73 := tf_keepF hF72 ha0 rfl rfl (by decide) hs48
      have hs74 := tf_keepF hF72 hsq rfl rfl (by decide) hs49
      have hs75 := tf_keepF hF72 hsq rfl rfl (by decide) hs50
      have hs76 := tf_keepF hF72 hsq rfl rfl (by decide) hs51
      have hs77 := tf_keepF hF72 hsq rfl rfl (by decide) hs52
      have hs78 := tf_keepC hF72 hlp rfl (by decide) hs53
      have hs79 := tf_keepC hF72 hlh rfl (by decide) hs54
      have hs80 := tf_keepC hF72 hyr rfl (by decide) hs55
      have hs81 := tf_keepC hF72 hwh rfl (by decide) hs56
      have hs82 := tf_keepF hF72 ha0 rfl rfl (by decide) hs57
      have hs83 := tf_keepS hF72 him rfl (by decide) hs47
      have hs84 := tf_keepS hF72 him rfl (by decide) hs58
      have hs85 := tf_keepF hF72 hn33 rfl rfl (by decide) hpv60
      have hs86 := tf_keepF hF72 hn33 rfl rfl (by decide) hpv62
      have hs87 := tf_keepF hF72 hn33 rfl rfl (by decide) hpv64
      have hs88 := tf_keepF hF72 hn33 rfl rfl (by decide) hpv66
      obtain ⟨ho72_0, ho72_1, ho72_2, ho72_3⟩ := hp72
      refine lv_aload_n hx hb dX9_image_49 rfl (lv_at hl 1 rfl) ?_
      refine tf_iconst hx hb dX9_image_50 ?_
      refine tf_calli (va_runV (As := [.int (Int32.ofInt 0)]) (rest := []) ⟨hx, hb, hml, hown, hts⟩ (c_X9_accept l g T a0 ha0 (0) ⟨by omega, by omega⟩) (cwV 1 hts gv_X9_99 rfl rfl rfl hd_X9_accept ⟨Nat.le_trans (by decide) hR1, Nat.le_trans (by decide) hR2⟩) (tf_preV hk hW ha0 (ci := 9) rfl rfl trivial) rfl rfl hl.1 rfl (lv_room (Nat.le_of_ble_eq_true rfl)) dX9_image_51 ⟨Nat.le_trans (by omega) hR3, Nat.le_trans (by omega) hR4⟩) hW (by decide) (fun z89 H89 locs89 hW hF89 hp89 => ?_)
      have hs90 := tf_keepF hF89 ha0 rfl rfl (by decide) hs73
      have hs91 := tf_keepF hF89 hsq rfl rfl (by decide) hs74
      have hs92 := tf_keepF hF89 hsq rfl rfl (by decide) hs75
      have hs93 := tf_keepF hF89 hsq rfl rfl (by decide) hs76
      have hs94 := tf_keepF hF89 hsq rfl rfl (by decide) hs77
      have hs95 := tf_keepC hF89 hlp rfl (by decide) hs78
      have hs96 := tf_keepC hF89 hlh rfl (by decide) hs79
      have hs97 := tf_keepC hF89 hyr rfl (by decide) hs80
      have hs98 := tf_keepC hF89 hwh rfl (by decide) hs81
      have hs99 := tf_keepF hF89 ha0 rfl rfl (by decide) hs82
      have hs100 := tf_keepS hF89 him rfl (by decide) hs83
      have hs101 := tf_keepS hF89 him rfl (by decide) hs84
      have hs102 := tf_keepF hF89 hn33 rfl rfl (by decide) hs85
      have hs103 := tf_keepF hF89 hn33 rfl rfl (by decide) hs86
      have hs104 := tf_keepF hF89 hn33 rfl rfl (by decide) hs87
      have hs105 := tf_keepF hF89 hn33 rfl rfl (by decide) hs88
      have hs106 := tf_keepC hF89 had61 rfl (by decide) ho72_0
      have hs107 := tf_keepC hF89 had63 rfl (by decide) ho72_1
      have hs108 := tf_keepC hF89 had65 rfl (by decide) ho72_2
      have hs109 := tf_keepC hF89 had67 rfl (by decide) ho72_3
      obtain ⟨hp89_0, hp89_1, hp89_2⟩ := hp89
      refine W.widen (k := 22) (n := 1176) (by omega) (by omega) ?_
      exact tf_retI (z := z89) hx hb hr hlocks hQ hW ⟨by omega, by omega, ⟨ad20, ad61, ad63, ad65, ad67, hn33, had61, had63, had65, had67, hs100, hs101, hs102, hs103, hs104, hs105, hs106, hs107, hs108, hs109⟩⟩ dX9_image_54
    · exfalso; omega
  · refine tf_if_ne (tgt := 15) hx hb ⟨by decide, by decide⟩ dX9_image_6 (by decide) (fun h110 => ?_) (fun h110 => ?_)
    · exfalso; omega
    · exfalso; omega

abbrev M_s0_X9_image : List (Nat × Nat) := [(1, 0), (2, 0), (9, 0), (10, 0), (14, 0), (16, 0), (17, 0), (18, 0), (19, 0), (32, 8), (32, 9), (32, 11), (35, 4), (36, 2), (36, 6), (36, 10), (38, 4), (39, 13)]
set_option maxHeartbeats 4000000 in
set_option maxRecDepth 100000 in
theorem c_s0_X9_image (l : Launch) (g : tf_G) (T : tf_T) (a0 : Nat) (ha0 : T a0 = some (39, 0)) (x1 : Int) (hp1 : 0 ≤ x1 ∧ x1 ≤ 0) (sq : Nat) (hsq : T sq = some (31, 0)) (im : Nat) (him : T im = some (15, 2)) (lp : Nat) (hlp : T lp = some (5, 4)) (lh : Nat) (hlh : T lh = some (6, 4)) (yr : Nat) (hyr : T yr = some (7, 40)) (wh : Nat) (hwh : T wh = some (8, 4)) (ss : Nat) (hss : T ss = some (32, 0)) (slp : Nat) (hslp : T slp = some (16, 4)) (slh : Nat) (hslh : T slh = some (17, 4)) (syr : Nat) (hsyr : T syr = some (18, 40)) (swh : Nat) (hswh : T swh = some (19, 4)) (gl : Int → Int) (gh : Int → Int) (gy : Int → Int) (gw : Int → Int) (sgl : Int → Int) (sgh : Int → Int) (sgy : Int → Int) (sgw : Int → Int) : Met l yX9_image (cd_X9_image :: wsL_law) ({ frames := 3, cells := 0, slots := 0, locals := 123 }) (tf_P g T [.ref a0, .int (Int32.ofInt x1)] (fun H => tf_s H a0 (g.1.2 9 0) = some (.ref sq) ∧ tf_s H sq (g.1.2 3 3) = some (.ref lp) ∧ tf_s H sq (g.1.2 3 4) = some (.ref lh) ∧ tf_s H sq (g.1.2 3 5) = some (.ref yr) ∧ tf_s H sq (g.1.2 3 6) = some (.ref wh) ∧ tf_rw H lp = gl ∧ tf_rw H lh = gh ∧ tf_rw H yr = gy ∧ tf_rw H wh = gw ∧ tf_s H a0 (g.1.2 9 1) = some (.ref im) ∧ tf_s H im 0 = some (.ref ss) ∧ tf_s H ss (g.1.2 3 3) = some (.ref slp) ∧ tf_s H ss (g.1.2 3 4) = some (.ref slh) ∧ tf_s H ss (g.1.2 3 5) = some (.ref syr) ∧ tf_s H ss (g.1.2 3 6) = some (.ref swh) ∧ tf_rw H slp = sgl ∧ tf_rw H slh = sgh ∧ tf_rw H syr = sgy ∧ tf_rw H swh = sgw)) (tf_Qi g M_s0_X9_image T (fun z _ H => 0 ≤ z ∧ z ≤ 0 ∧ (tf_rw H slp = gl ∧ tf_rw H slh = gh ∧ tf_rw H syr = gy ∧ tf_rw H swh = gw))) 0 0 (fun q => tf_B g ≤ q) := by
  refine Met.ofW (cc := cX9_image) (maxL := 3) (ret := (some .int)) (by decide) rfl ?_
  intro p e s m args below meth c s₁ B hml hv
  obtain ⟨hargs, hk, hW0, hB, hpre⟩ := hv
  obtain ⟨he0, he1, he2, he3, he4, he5, he6, he7, he8, he9, he10, he11, he12, he13, he14, he15, he16, he17, he18⟩ := hpre
  have hx := B.exec
  have hb := B.bytes
  have hr := B.returns
  have hts : ∀ w ∈ wsL_law, w.before args s = true := fun w h => atoms_spec (ws := cd_X9_image :: wsL_law) B.pre w (List.mem_cons_of_mem _ h)
  have hown : s.vm.findClass RX9 = some m.cls := findClass_of_methodNamed B.named
  have hlocks := B.notSynchronized
  have hK := hk.1
  have hW := tf_n.start (M := M_s0_X9_image) hW0 hB
  obtain ⟨Q, hQ⟩ : ∃ q, q = MQ below (tf_Qi g M_s0_X9_image T (fun z _ H => 0 ≤ z ∧ z ≤ 0 ∧ (tf_rw H slp = gl ∧ tf_rw H slh = gh ∧ tf_rw H syr = gy ∧ tf_rw H swh = gw))) args s 0 0 (fun q => tf_B g ≤ q) := ⟨_, rfl⟩
  rw [← hQ]
  obtain ⟨R, hR⟩ : ∃ q, q = (headSpec (cd_X9_image :: wsL_law) ({ frames := 3, cells := 0, slots := 0, locals := 123 })).room := ⟨_, rfl⟩
  rw [← hR]
  have hR1 : 3 ≤ R.frames := by rw [hR]; exact Nat.le_refl _
  have hR2 : 123 ≤ R.locals := by rw [hR]; exact Nat.le_refl _
  have hR3 : 0 ≤ R.cells := by rw [hR]; exact Nat.le_refl _
  have hR4 : 0 ≤ R.slots := by rw [hR]; exact Nat.le_refl _
  have hin := (name_of_methodNamed B.named B.method).1
  clear hR B
  refine tf_enter (As := [.ref a0, .int (Int32.ofInt x1)]) hargs (Nat.le_of_ble_eq_true rfl) (fun ls hl => ?_)
  have hl : lv_has ls 3 [(0, .ref a0), (1, .int (Int32.ofInt x1))] := hl
  refine lv_iload_n hx hb dX9_image_0 rfl (lv_at hl 1 rfl) ?_
  refine tf_iconst hx hb dX9_image_1 ?_
  refine tf_iconst hx hb dX9_image_2 ?_
  refine tf_calli (va_runS (As := [.int (Int32.ofInt x1), .int (Int32.ofInt 0), .int (Int32.ofInt 1)]) (rest := []) ⟨hx, hb, hml, hown, hts⟩ (c_X9_isWithin l g T (x1) ⟨by omega, by omega⟩ (0) ⟨by omega, by omega⟩ (1) ⟨by omega, by omega⟩) ⟨callB_of 3 hts (gw_ws cm_X9_isWithin) rfl rfl rfl (hts _ (tw1 (i := 2) rfl)) (hts _ (tw9 (i := 19) rfl)) hd_X9_isWithin.2 ⟨Nat.le_trans (by decide) hR1, Nat.le_trans (by decide) hR2⟩, hts _ (tw8 (i := 17) rfl)⟩ (tf_preS hk hW trivial) rfl rfl hl.1 rfl (lv_room (Nat.le_of_ble_eq_true rfl)) dX9_image_3 ⟨Nat.zero_le _, Nat.zero_le _⟩) hW (by decide) (fun z1 H1 locs1 hW hF1 hp1 => ?_)
  have hs2 := tf_keepF hF1 ha0 rfl rfl (by decide) he0
  have hs3 := tf_keepF hF1 hsq rfl rfl (by decide) he1
  have hs4 := tf_keepF hF1 hsq rfl rfl (by decide) he2
  have hs5 := tf_keepF hF1 hsq rfl rfl (by decide) he3
  have hs6 := tf_keepF hF1 hsq rfl rfl (by decide) he4
  have hs7 := tf_keepC hF1 hlp rfl (by decide) he5
  have hs8 := tf_keepC hF1 hlh rfl (by decide) he6
  have hs9 := tf_keepC hF1 hyr rfl (by decide) he7
  have hs10 := tf_keepC hF1 hwh rfl (by decide) he8
  have hs11 := tf_keepF hF1 ha0 rfl rfl (by decide) he9
  have hs12 := tf_keepS hF1 him rfl (by decide) he10
  have hs13 := tf_keepF hF1 hss rfl rfl (by decide) he11
  have hs14 := tf_keepF hF1 hss rfl rfl (by decide) he12
  have hs15 := tf_keepF hF1 hss rfl rfl (by decide) he13
  have hs16 := tf_keepF hF1 hss rfl rfl (by decide) he14
  have hs17 := tf_keepC hF1 hslp rfl (by decide) he15
  have hs18 := tf_keepC hF1 hslh rfl (by decide) he16
  have hs19 := tf_keepC hF1 hsyr rfl (by decide) he17
  have hs20 := tf_keepC hF1 hswh rfl (by decide) he18
  rcases hp1 with ⟨rfl, h21, h22⟩ | ⟨rfl, h23⟩
  · refine tf_if_ne (tgt := 15) hx hb ⟨by decide, by decide⟩ dX9_image_6 (by decide) (fun h24 => ?_) (fun h24 => ?_)
    · refine lv_aload_n hx hb dX9_image_15 rfl (lv_at hl 0 rfl) ?_
      refine tf_get hx hb hts inlX9 hown hK (ci := 9) rfl hW ha0 rfl 1 rfl (by decide) (hts _ fl_X9_16) dX9_image_16 (fun v25 hv25 hsv25 => ?_)
      obtain rfl : v25 = .ref im := Option.some.inj (hsv25.symm.trans hs11)
      refine lv_iload_n hx hb dX9_image_19 rfl (lv_at hl 1 rfl) ?_
      refine tf_aald (t0 := 5) hx hb hK hW him rfl rfl rfl (by omega) (by omega) (by rw [show (x1 : Int).toNat = 0 by omega]; rfl) dX9_image_20 (fun v26 hv26 hsv26 => ?_)
      rw [show (x1 : Int).toNat = 0 by omega] at hsv26
      obtain rfl : v26 = .ref ss := Option.some.inj (hsv26.symm.trans hs12)
      refine lv_astore_n (lv' := [(2, .ref ss), (0, .ref a0), (1, .int (Int32.ofInt x1))]) hx hb dX9_image_21 rfl hl (by decide) rfl (fun ls hl => ?_)
      refine lv_aload_n hx hb dX9_image_22 rfl (lv_at hl 0 rfl) ?_
      refine lv_ifnonnull (tgt := 41) hx hb dX9_image_23 (by decide) ?_
      refine lv_aload_n hx hb dX9_image_41 rfl (lv_at hl 0 rfl) ?_
      refine lv_aload_n hx hb dX9_image_42 rfl (lv_at hl 1 rfl) ?_
      refine tf_get hx hb hts inlX9 hown hK (ci := 9) rfl hW ha0 rfl 0 rfl (by decide) (hts _ fl_X9_10) dX9_image_43 (fun v27 hv27 hsv27 => ?_)
      obtain rfl : v27 = .ref sq := Option.some.inj (hsv27.symm.trans hs2)
      refine tf_callv (va_runV (As := [.ref sq]) (rest := []) ⟨hx, hb, hml, hown, hts⟩ (c_b1_X3_become l g T ss hss sq hsq slp hslp slh hslh syr hsyr swh hswh lp hlp lh hlh yr hyr wh hwh sgl sgh sgy sgw gl gh gy gw) (cwV 1 hts gv_X9_355 rfl rfl rfl hd_X3_become ⟨Nat.le_trans (by decide) hR1, Nat.le_trans (by decide) hR2⟩) (tf_preV hk hW hss (ci := 3) rfl rfl ⟨hs13, hs14, hs15, hs16, hs3, hs4, hs5, hs6, hs17, hs18, hs19, hs20, hs7, hs8, hs9, hs10⟩) rfl rfl hl.1 rfl (lv_room (Nat.le_of_ble_eq_true rfl)) dX9_image_46 ⟨Nat.zero_le _, Nat.zero_le _⟩) hW (by decide) (fun H28 locs28 hW hF28 hp28 => ?_)
      have hs29 := tf_keepF hF28 ha0 rfl rfl (by decide) hs2
      have hs30 := tf_keepF hF28 hsq rfl rfl (by decide) hs3
      have hs31 := tf_keepF hF28 hsq rfl rfl (by decide) hs4
      have hs32 := tf_keepF hF28 hsq rfl rfl (by decide) hs5
      have hs33 := tf_keepF hF28 hsq rfl rfl (by decide) hs6
      have hs34 := tf_keepC hF28 hlp rfl (by decide) hs7
      have hs35 := tf_keepC hF28 hlh rfl (by decide) hs8
      have hs36 := tf_keepC hF28 hyr rfl (by decide) hs9
      have hs37 := tf_keepC hF28 hwh rfl (by decide) hs10
      have hs38 := tf_keepF hF28 ha0 rfl rfl (by decide) hs11
      have hs39 := tf_keepS hF28 him rfl (by decide) hs12
      have hs40 := tf_keepF hF28 hss rfl rfl (by decide) hs13
      have hs41 := tf_keepF hF28 hss rfl rfl (by decide) hs14
      have hs42 := tf_keepF hF28 hss rfl rfl (by decide) hs15
      have hs43 := tf_keepF hF28 hss rfl rfl (by decide) hs16
      obtain ⟨ho28_0, ho28_1, ho28_2, ho28_3⟩ := hp28
      refine lv_aload_n hx hb dX9_image_49 rfl (lv_at hl 1 rfl) ?_
      refine tf_iconst hx hb dX9_image_50 ?_
      refine tf_calli (va_runV (As := [.int (Int32.ofInt 0)]) (rest := []) ⟨hx, hb, hml, hown, hts⟩ (c_X9_accept l g T a0 ha0 (0) ⟨by omega, by omega⟩) (cwV 1 hts gv_X9_99 rfl rfl rfl hd_X9_accept ⟨Nat.le_trans (by decide) hR1, Nat.le_trans (by decide) hR2⟩) (tf_preV hk hW ha0 (ci := 9) rfl rfl trivial) rfl rfl hl.1 rfl (lv_room (Nat.le_of_ble_eq_true rfl)) dX9_image_51 ⟨Nat.zero_le _, Nat.zero_le _⟩) hW (by decide) (fun z44 H44 locs44 hW hF44 hp44 => ?_)
      have hs45 := tf_keepF hF44 ha0 rfl rfl (by decide) hs29
      have hs46 := tf_keepF hF44 hsq rfl rfl (by decide) hs30
      have hs47 := tf_keepF hF44 hsq rfl rfl (by decide) hs31
      have hs48 := tf_keepF hF44 hsq rfl rfl (by decide) hs32
      have hs49 := tf_keepF hF44 hsq rfl rfl (by decide) hs33
      have hs50 := tf_keepC hF44 hlp rfl (by decide) hs34
      have hs51 := tf_keepC hF44 hlh rfl (by decide) hs35
      have hs52 := tf_keepC hF44 hyr rfl (by decide) hs36
      have hs53 := tf_keepC hF44 hwh rfl (by decide) hs37
      have hs54 := tf_keepF hF44 ha0 rfl rfl (by decide) hs38
      have hs55 := tf_keepS hF44 him rfl (by decide) hs39
      have hs56 := tf_keepF hF44 hss rfl rfl (by decide) hs40
      have hs57 := tf_keepF hF44 hss rfl rfl (by decide) hs41
      have hs58 := tf_keepF hF44 hss rfl rfl (by decide) hs42
      have hs59 := tf_keepF hF44 hss rfl rfl (by decide) hs43
      have hs60 := tf_keepC hF44 hslp rfl (by decide) ho28_0
      have hs61 := tf_keepC hF44 hslh rfl (by decide) ho28_1
      have hs62 := tf_keepC hF44 hsyr rfl (by decide) ho28_2
      have hs63 := tf_keepC hF44 hswh rfl (by decide) ho28_3
      obtain ⟨hp44_0, hp44_1, hp44_2⟩ := hp44
      exact tf_reti (z := z44) hx hb hr hlocks hQ hW ⟨by omega, by omega, ⟨hs60, hs61, hs62, hs63⟩⟩ dX9_image_54
    · exfalso; omega
  · refine tf_if_ne (tgt := 15) hx hb ⟨by decide, by decide⟩ dX9_image_6 (by decide) (fun h64 => ?_) (fun h64 => ?_)
    · exfalso; omega
    · exfalso; omega

abbrev M_n1_X9_image : List (Nat × Nat) := [(1, 0), (2, 0), (9, 0), (10, 0), (14, 0), (15, 0), (20, 0), (21, 0), (22, 0), (23, 0), (33, 8), (33, 9), (33, 11), (35, 4), (36, 2), (36, 6), (36, 10), (38, 4), (39, 13), (64, 0), (64, 1), (64, 2), (64, 3), (67, 0), (67, 1), (67, 2), (67, 3), (67, 4), (67, 5), (67, 6), (67, 7), (67, 8), (67, 9), (67, 10), (67, 11), (69, 0), (69, 1), (69, 2), (69, 3), (69, 4), (72, 0), (72, 1), (72, 2), (72, 3), (72, 4)]
set_option maxHeartbeats 4000000 in
set_option maxRecDepth 100000 in
theorem c_n1_X9_image (l : Launch) (g : tf_G) (T : tf_T) (a0 : Nat) (ha0 : T a0 = some (39, 0)) (x1 : Int) (hp1 : 1 ≤ x1 ∧ x1 ≤ 1) (sq : Nat) (hsq : T sq = some (31, 0)) (im : Nat) (him : T im = some (15, 2)) (lp : Nat) (hlp : T lp = some (5, 4)) (lh : Nat) (hlh : T lh = some (6, 4)) (yr : Nat) (hyr : T yr = some (7, 40)) (wh : Nat) (hwh : T wh = some (8, 4)) (gl : Int → Int) (gh : Int → Int) (gy : Int → Int) (gw : Int → Int) (vo : Value) : Met l yX9_image (cd_X9_image :: wsL_law) ({ frames := 3, cells := 22, slots := 1176, locals := 123 }) (tf_P g T [.ref a0, .int (Int32.ofInt x1)] (fun H => tf_s H a0 (g.1.2 9 0) = some (.ref sq) ∧ tf_s H sq (g.1.2 3 3) = some (.ref lp) ∧ tf_s H sq (g.1.2 3 4) = some (.ref lh) ∧ tf_s H sq (g.1.2 3 5) = some (.ref yr) ∧ tf_s H sq (g.1.2 3 6) = some (.ref wh) ∧ tf_rw H lp = gl ∧ tf_rw H lh = gh ∧ tf_rw H yr = gy ∧ tf_rw H wh = gw ∧ tf_s H a0 (g.1.2 9 1) = some (.ref im) ∧ tf_s H im 1 = some .null ∧ tf_s H im 0 = some vo)) (tf_QI g M_n1_X9_image T (fun T z _ H => 0 ≤ z ∧ z ≤ 0 ∧ (∃ (ss slp slh syr swh : Nat), T ss = some (33, 0) ∧ T slp = some (20, 4) ∧ T slh = some (21, 4) ∧ T syr = some (22, 40) ∧ T swh = some (23, 4) ∧ tf_s H im 1 = some (.ref ss) ∧ tf_s H im 0 = some vo ∧ tf_s H ss (g.1.2 3 3) = some (.ref slp) ∧ tf_s H ss (g.1.2 3 4) = some (.ref slh) ∧ tf_s H ss (g.1.2 3 5) = some (.ref syr) ∧ tf_s H ss (g.1.2 3 6) = some (.ref swh) ∧ tf_rw H slp = gl ∧ tf_rw H slh = gh ∧ tf_rw H syr = gy ∧ tf_rw H swh = gw))) 22 1176 (fun q => tf_B g ≤ q) := by
  refine Met.ofW (cc := cX9_image) (maxL := 3) (ret := (some .int)) (by decide) rfl ?_
  intro p e s m args below meth c s₁ B hml hv
  obtain ⟨hargs, hk, hW0, hB, hpre⟩ := hv
  obtain ⟨he0, he1, he2, he3, he4, he5, he6, he7, he8, he9, he10, he11⟩ := hpre
  have hx := B.exec
  have hb := B.bytes
  have hr := B.returns
  have hts : ∀ w ∈ wsL_law, w.before args s = true := fun w h => atoms_spec (ws := cd_X9_image :: wsL_law) B.pre w (List.mem_cons_of_mem _ h)
  have hown : s.vm.findClass RX9 = some m.cls := findClass_of_methodNamed B.named
  have hlocks := B.notSynchronized
  have hK := hk.1
  have hW := tf_n.start (M := M_n1_X9_image) hW0 hB
  obtain ⟨Q, hQ⟩ : ∃ q, q = MQ below (tf_QI g M_n1_X9_image T (fun T z _ H => 0 ≤ z ∧ z ≤ 0 ∧ (∃ (ss slp slh syr swh : Nat), T ss = some (33, 0) ∧ T slp = some (20, 4) ∧ T slh = some (21, 4) ∧ T syr = some (22, 40) ∧ T swh = some (23, 4) ∧ tf_s H im 1 = some (.ref ss) ∧ tf_s H im 0 = some vo ∧ tf_s H ss (g.1.2 3 3) = some (.ref slp) ∧ tf_s H ss (g.1.2 3 4) = some (.ref slh) ∧ tf_s H ss (g.1.2 3 5) = some (.ref syr) ∧ tf_s H ss (g.1.2 3 6) = some (.ref swh) ∧ tf_rw H slp = gl ∧ tf_rw H slh = gh ∧ tf_rw H syr = gy ∧ tf_rw H swh = gw))) args s 22 1176 (fun q => tf_B g ≤ q) := ⟨_, rfl⟩
  rw [← hQ]
  obtain ⟨R, hR⟩ : ∃ q, q = (headSpec (cd_X9_image :: wsL_law) ({ frames := 3, cells := 22, slots := 1176, locals := 123 })).room := ⟨_, rfl⟩
  rw [← hR]
  have hR1 : 3 ≤ R.frames := by rw [hR]; exact Nat.le_refl _
  have hR2 : 123 ≤ R.locals := by rw [hR]; exact Nat.le_refl _
  have hR3 : 22 ≤ R.cells := by rw [hR]; exact Nat.le_refl _
  have hR4 : 1176 ≤ R.slots := by rw [hR]; exact Nat.le_refl _
  have hin := (name_of_methodNamed B.named B.method).1
  clear hR B
  refine tf_enter (As := [.ref a0, .int (Int32.ofInt x1)]) hargs (Nat.le_of_ble_eq_true rfl) (fun ls hl => ?_)
  have hl : lv_has ls 3 [(0, .ref a0), (1, .int (Int32.ofInt x1))] := hl
  refine lv_iload_n hx hb dX9_image_0 rfl (lv_at hl 1 rfl) ?_
  refine tf_iconst hx hb dX9_image_1 ?_
  refine tf_iconst hx hb dX9_image_2 ?_
  refine tf_calli (va_runS (As := [.int (Int32.ofInt x1), .int (Int32.ofInt 0), .int (Int32.ofInt 1)]) (rest := []) ⟨hx, hb, hml, hown, hts⟩ (c_X9_isWithin l g T (x1) ⟨by omega, by omega⟩ (0) ⟨by omega, by omega⟩ (1) ⟨by omega, by omega⟩) ⟨callB_of 3 hts (gw_ws cm_X9_isWithin) rfl rfl rfl (hts _ (tw1 (i := 2) rfl)) (hts _ (tw9 (i := 19) rfl)) hd_X9_isWithin.2 ⟨Nat.le_trans (by decide) hR1, Nat.le_trans (by decide) hR2⟩, hts _ (tw8 (i := 17) rfl)⟩ (tf_preS hk hW trivial) rfl rfl hl.1 rfl (lv_room (Nat.le_of_ble_eq_true rfl)) dX9_image_3 ⟨Nat.le_trans (by omega) hR3, Nat.le_trans (by omega) hR4⟩) hW (by decide) (fun z1 H1 locs1 hW hF1 hp1 => ?_)
  have hs2 := tf_keepF hF1 ha0 rfl rfl (by decide) he0
  have hs3 := tf_keepF hF1 hsq rfl rfl (by decide) he1
  have hs4 := tf_keepF hF1 hsq rfl rfl (by decide) he2
  have hs5 := tf_keepF hF1 hsq rfl rfl (by decide) he3
  have hs6 := tf_keepF hF1 hsq rfl rfl (by decide) he4
  have hs7 := tf_keepC hF1 hlp rfl (by decide) he5
  have hs8 := tf_keepC hF1 hlh rfl (by decide) he6
  have hs9 := tf_keepC hF1 hyr rfl (by decide) he7
  have hs10 := tf_keepC hF1 hwh rfl (by decide) he8
  have hs11 := tf_keepF hF1 ha0 rfl rfl (by decide) he9
  have hs12 := tf_keepS hF1 him rfl (by decide) he10
  have hs13 := tf_keepS hF1 him rfl (by decide) he11
  rcases hp1 with ⟨rfl, h14, h15⟩ | ⟨rfl, h16⟩
  · refine tf_if_ne (tgt := 15) hx hb ⟨by decide, by decide⟩ dX9_image_6 (by decide) (fun h17 => ?_) (fun h17 => ?_)
    · refine lv_aload_n hx hb dX9_image_15 rfl (lv_at hl 0 rfl) ?_
      refine tf_get hx hb hts inlX9 hown hK (ci := 9) rfl hW ha0 rfl 1 rfl (by decide) (hts _ fl_X9_16) dX9_image_16 (fun v18 hv18 hsv18 => ?_)
      obtain rfl : v18 = .ref im := Option.some.inj (hsv18.symm.trans hs11)
      refine lv_iload_n hx hb dX9_image_19 rfl (lv_at hl 1 rfl) ?_
      refine tf_aald (t0 := 5) hx hb hK hW him rfl rfl rfl (by omega) (by omega) (by rw [show (x1 : Int).toNat = 1 by omega]; rfl) dX9_image_20 (fun v19 hv19 hsv19 => ?_)
      rw [show (x1 : Int).toNat = 1 by omega] at hsv19
      obtain rfl : v19 = .null := Option.some.inj (hsv19.symm.trans hs12)
      refine tf_Nastore_n (lv' := [(2, .null), (0, .ref a0), (1, .int (Int32.ofInt x1))]) hx hb dX9_image_21 rfl hl (by decide) rfl (fun ls hl => ?_)
      refine tf_aloadN hx hb dX9_image_22 (lv_at hl 0 rfl) ?_
      refine lv_ifnonnullN hx hb dX9_image_23 ?_
      have hsz20 := hW.2.2.1.1
      refine tf_new (kr := 67) hx hb hts inlX3 tyX3 tyX3_ok hown (hts _ (tw1 (i := 12) rfl)) (hts _ (tw1 (i := 13) rfl)) (hts _ (tw1 (i := 14) rfl)) hK (ci := 3) rfl hW rfl ⟨rfl, by decide⟩ (Nat.le_trans (by omega) hR3) (Nat.le_trans (by omega) hR4) dX9_image_26 (fun ad20 H20 T hq20 hT20 had20 hE20 hW ho20 => ?_)
      have hsz20 := Nat.le_trans hsz20 (Nat.le_of_eq hq20)
      have hs21 := tf_keepQ hs2 (ho20 _ _ ha0)
      have hs22 := tf_keepQ hs3 (ho20 _ _ hsq)
      have hs23 := tf_keepQ hs4 (ho20 _ _ hsq)
      have hs24 := tf_keepQ hs5 (ho20 _ _ hsq)
      have hs25 := tf_keepQ hs6 (ho20 _ _ hsq)
      have hs26 := tf_keepCQ hs7 (ho20 _ _ hlp)
      have hs27 := tf_keepCQ hs8 (ho20 _ _ hlh)
      have hs28 := tf_keepCQ hs9 (ho20 _ _ hyr)
      have hs29 := tf_keepCQ hs10 (ho20 _ _ hwh)
      have hs30 := tf_keepQ hs11 (ho20 _ _ ha0)
      have hs31 := tf_keepQ hs12 (ho20 _ _ him)
      have hs32 := tf_keepQ hs13 (ho20 _ _ him)
      have ha0 := hE20 _ _ ha0
      have hsq := hE20 _ _ hsq
      have hlp := hE20 _ _ hlp
      have hlh := hE20 _ _ hlh
      have hyr := hE20 _ _ hyr
      have hwh := hE20 _ _ hwh
      have him := hE20 _ _ him
      refine lv_dup hx hb dX9_image_29 rfl ?_
      refine tf_callC (va_runIN (As := []) (rest := [.ref ad20]) ⟨hx, hb, hml, hown, hts⟩ (c_i2_X3_init l g T ad20 had20) ⟨va_cnB 0 hts (gw_ws cm_X3_init) rfl rfl rfl (hk.2.1 _ nw_0) (hts _ (tw1 (i := 14) rfl)) hd_X3_init.2 ⟨Nat.le_trans (by decide) hR1, Nat.le_trans (by decide) hR2⟩, rfl, hts _ (tw2 (i := 15) rfl)⟩ (tf_preS hk hW trivial) rfl rfl hl.1 rfl (lv_room (Nat.le_of_ble_eq_true rfl)) dX9_image_30 ⟨Nat.le_trans (by omega) hR3, Nat.le_trans (by omega) hR4⟩) hW (by decide) (tf_fresh hW0 hsz20) hsz20 had20 (fun H33 locs33 T hW hn33 hE33 hF33 => ?_)
      have hs34 := tf_keepF hF33 ha0 rfl rfl (by decide) hs21
      have hs35 := tf_keepF hF33 hsq rfl rfl (by decide) hs22
      have hs36 := tf_keepF hF33 hsq rfl rfl (by decide) hs23
      have hs37 := tf_keepF hF33 hsq rfl rfl (by decide) hs24
      have hs38 := tf_keepF hF33 hsq rfl rfl (by decide) hs25
      have hs39 := tf_keepC hF33 hlp rfl (by decide) hs26
      have hs40 := tf_keepC hF33 hlh rfl (by decide) hs27
      have hs41 := tf_keepC hF33 hyr rfl (by decide) hs28
      have hs42 := tf_keepC hF33 hwh rfl (by decide) hs29
      have hs43 := tf_keepF hF33 ha0 rfl rfl (by decide) hs30
      have hs44 := tf_keepS hF33 him rfl (by decide) hs31
      have hs45 := tf_keepS hF33 him rfl (by decide) hs32
      have ha0 := hE33 _ _ (tf_ne ha0 had20 (by decide)) ha0
      have hsq := hE33 _ _ (tf_ne hsq had20 (by decide)) hsq
      have hlp := hE33 _ _ (tf_ne hlp had20 (by decide)) hlp
      have hlh := hE33 _ _ (tf_ne hlh had20 (by decide)) hlh
      have hyr := hE33 _ _ (tf_ne hyr had20 (by decide)) hyr
      have hwh := hE33 _ _ (tf_ne hwh had20 (by decide)) hwh
      have him := hE33 _ _ (tf_ne him had20 (by decide)) him
      refine lv_astore_n (lv' := [(2, .ref ad20), (0, .ref a0), (1, .int (Int32.ofInt x1))]) hx hb dX9_image_33 rfl hl (by decide) rfl (fun ls hl => ?_)
      refine lv_aload_n hx hb dX9_image_34 rfl (lv_at hl 1 rfl) ?_
      refine tf_get hx hb hts inlX9 hown hK (ci := 9) rfl hW ha0 rfl 1 rfl (by decide) (hts _ fl_X9_16) dX9_image_35 (fun v46 hv46 hsv46 => ?_)
      obtain rfl : v46 = .ref im := Option.some.inj (hsv46.symm.trans hs43)
      refine lv_iload_n hx hb dX9_image_38 rfl (lv_at hl 2 rfl) ?_
      refine lv_aload_n hx hb dX9_image_39 rfl (lv_at hl 0 rfl) ?_
      refine tf_aast (t0 := 5) (ci := 3) hx hb hK hW him rfl rfl hn33 rfl rfl (by omega) (by omega) (by decide) (by rw [show (x1 : Int).toNat = 1 by omega]; rfl) dX9_image_40 (fun H47 locs47 hW hs47 ht47 hq47 => ?_)
      have hs48 := tf_keepQ hs34 (hq47 _ (tf_ne ha0 him (by decide)))
      have hs49 := tf_keepQ hs35 (hq47 _ (tf_ne hsq him (by decide)))
      have hs50 := tf_keepQ hs36 (hq47 _ (tf_ne hsq him (by decide)))
      have hs51 := tf_keepQ hs37 (hq47 _ (tf_ne hsq him (by decide)))
      have hs52 := tf_keepQ hs38 (hq47 _ (tf_ne hsq him (by decide)))
      have hs53 := tf_keepCQ hs39 (hq47 _ (tf_ne hlp him (by decide)))
      have hs54 := tf_keepCQ hs40 (hq47 _ (tf_ne hlh him (by decide)))
      have hs55 := tf_keepCQ hs41 (hq47 _ (tf_ne hyr him (by decide)))
      have hs56 := tf_keepCQ hs42 (hq47 _ (tf_ne hwh him (by decide)))
      have hs57 := tf_keepQ hs43 (hq47 _ (tf_ne ha0 him (by decide)))
      rw [show (x1 : Int).toNat = 1 by omega] at hs47 ht47
      have hs58 := (ht47 0 (by decide)).trans hs45
      refine lv_aload_n hx hb dX9_image_41 rfl (lv_at hl 0 rfl) ?_
      refine lv_aload_n hx hb dX9_image_42 rfl (lv_at hl 1 rfl) ?_
      refine tf_get hx hb hts inlX9 hown hK (ci := 9) rfl hW ha0 rfl 0 rfl (by decide) (hts _ fl_X9_10) dX9_image_43 (fun v59 hv59 hsv59 => ?_)
      obtain rfl : v59 = .ref sq := Option.some.inj (hsv59.symm.trans hs48)
      obtain ⟨pv60, hpv60, hok60⟩ := tf_peek hW hn33 (ci := 3) rfl 3 rfl
      obtain ⟨ad61, rfl, had61⟩ := tf_v1 hok60
      obtain ⟨pv62, hpv62, hok62⟩ := tf_peek hW hn33 (ci := 3) rfl 4 rfl
      obtain ⟨ad63, rfl, had63⟩ := tf_v1 hok62
      obtain ⟨pv64, hpv64, hok64⟩ := tf_peek hW hn33 (ci := 3) rfl 5 rfl
      obtain ⟨ad65, rfl, had65⟩ := tf_v1 hok64
      obtain ⟨pv66, hpv66, hok66⟩ := tf_peek hW hn33 (ci := 3) rfl 6 rfl
      obtain ⟨ad67, rfl, had67⟩ := tf_v1 hok66
      obtain ⟨r68, hr68⟩ := tf_rname hW ad61
      obtain ⟨r69, hr69⟩ := tf_rname hW ad63
      obtain ⟨r70, hr70⟩ := tf_rname hW ad65
      obtain ⟨r71, hr71⟩ := tf_rname hW ad67
      refine tf_callv (va_runV (As := [.ref sq]) (rest := []) ⟨hx, hb, hml, hown, hts⟩ (c_b2_X3_become l g T ad20 hn33 sq hsq ad61 had61 ad63 had63 ad65 had65 ad67 had67 lp hlp lh hlh yr hyr wh hwh r68 r69 r70 r71 gl gh gy gw) (cwV 1 hts gv_X9_355 rfl rfl rfl hd_X3_become ⟨Nat.le_trans (by decide) hR1, Nat.le_trans (by decide) hR2⟩) (tf_preV hk hW hn33 (ci := 3) rfl rfl ⟨hpv60, hpv62, hpv64, hpv66, hs49, hs50, hs51, hs52, hr68, hr69, hr70, hr71, hs53, hs54, hs55, hs56⟩) rfl rfl hl.1 rfl (lv_room (Nat.le_of_ble_eq_true rfl)) dX9_image_46 ⟨Nat.le_trans (by omega) hR3, Nat.le_trans (by omega) hR4⟩) hW (by decide) (fun H72 locs72 hW hF72 hp72 => ?_)
      have hs73 := tf_keepF hF72 ha0 rfl rfl (by decide) hs48
      have hs74 := tf_keepF hF72 hsq rfl rfl (by decide) hs49
      have hs75 := tf_keepF hF72 hsq rfl rfl (by decide) hs50
      have hs76 := tf_keepF hF72 hsq rfl rfl (by decide) hs51
      have hs77 := tf_keepF hF72 hsq rfl rfl (by decide) hs52
      have hs78 := tf_keepC hF72 hlp rfl (by decide) hs53
      have hs79 := tf_keepC hF72 hlh rfl (by decide) hs54
      have hs80 := tf_keepC hF72 hyr rfl (by decide) hs55
      have hs81 := tf_keepC hF72 hwh rfl (by decide) hs56
      have hs82 := tf_keepF hF72 ha0 rfl rfl (by decide) hs57
      have hs83 := tf_keepS hF72 him rfl (by decide) hs47
      have hs84 := tf_keepS hF72 him rfl (by decide) hs58
      have hs85 := tf_keepF hF72 hn33 rfl rfl (by decide) hpv60
      have hs86 := tf_keepF hF72 hn33 rfl rfl (by decide) hpv62
      have hs87 := tf_keepF hF72 hn33 rfl rfl (by decide) hpv64
      have hs88 := tf_keepF hF72 hn33 rfl rfl (by decide) hpv66
      obtain ⟨ho72_0, ho72_1, ho72_2, ho72_3⟩ := hp72
      refine lv_aload_n hx hb dX9_image_49 rfl (lv_at hl 1 rfl) ?_
      refine tf_iconst hx hb dX9_image_50 ?_
      refine tf_calli (va_runV (As := [.int (Int32.ofInt 0)]) (rest := []) ⟨hx, hb, hml, hown, hts⟩ (c_X9_accept l g T a0 ha0 (0) ⟨by omega, by omega⟩) (cwV 1 hts gv_X9_99 rfl rfl rfl hd_X9_accept ⟨Nat.le_trans (by decide) hR1, Nat.le_trans (by decide) hR2⟩) (tf_preV hk hW ha0 (ci := 9) rfl rfl trivial) rfl rfl hl.1 rfl (lv_room (Nat.le_of_ble_eq_true rfl)) dX9_image_51 ⟨Nat.le_trans (by omega) hR3, Nat.le_trans (by omega) hR4⟩) hW (by decide) (fun z89 H89 locs89 hW hF89 hp89 => ?_)
      have hs90 := tf_keepF hF89 ha0 rfl rfl (by decide) hs73
      have hs91 := tf_keepF hF89 hsq rfl rfl (by decide) hs74
      have hs92 := tf_keepF hF89 hsq rfl rfl (by decide) hs75
      have hs93 := tf_keepF hF89 hsq rfl rfl (by decide) hs76
      have hs94 := tf_keepF hF89 hsq rfl rfl (by decide) hs77
      have hs95 := tf_keepC hF89 hlp rfl (by decide) hs78
      have hs96 := tf_keepC hF89 hlh rfl (by decide) hs79
      have hs97 := tf_keepC hF89 hyr rfl (by decide) hs80
      have hs98 := tf_keepC hF89 hwh rfl (by decide) hs81
      have hs99 := tf_keepF hF89 ha0 rfl rfl (by decide) hs82
      have hs100 := tf_keepS hF89 him rfl (by decide) hs83
      have hs101 := tf_keepS hF89 him rfl (by decide) hs84
      have hs102 := tf_keepF hF89 hn33 rfl rfl (by decide) hs85
      have hs103 := tf_keepF hF89 hn33 rfl rfl (by decide) hs86
      have hs104 := tf_keepF hF89 hn33 rfl rfl (by decide) hs87
      have hs105 := tf_keepF hF89 hn33 rfl rfl (by decide) hs88
      have hs106 := tf_keepC hF89 had61 rfl (by decide) ho72_0
      have hs107 := tf_keepC hF89 had63 rfl (by decide) ho72_1
      have hs108 := tf_keepC hF89 had65 rfl (by decide) ho72_2
      have hs109 := tf_keepC hF89 had67 rfl (by decide) ho72_3
      obtain ⟨hp89_0, hp89_1, hp89_2⟩ := hp89
      refine W.widen (k := 22) (n := 1176) (by omega) (by omega) ?_
      exact tf_retI (z := z89) hx hb hr hlocks hQ hW ⟨by omega, by omega, ⟨ad20, ad61, ad63, ad65, ad67, hn33, had61, had63, had65, had67, hs100, hs101, hs102, hs103, hs104, hs105, hs106, hs107, hs108, hs109⟩⟩ dX9_image_54
    · exfalso; omega
  · refine tf_if_ne (tgt := 15) hx hb ⟨by decide, by decide⟩ dX9_image_6 (by decide) (fun h110 => ?_) (fun h110 => ?_)
    · exfalso; omega
    · exfalso; omega

abbrev M_s1_X9_image : List (Nat × Nat) := [(1, 0), (2, 0), (9, 0), (10, 0), (14, 0), (20, 0), (21, 0), (22, 0), (23, 0), (33, 8), (33, 9), (33, 11), (35, 4), (36, 2), (36, 6), (36, 10), (38, 4), (39, 13)]
set_option maxHeartbeats 4000000 in
set_option maxRecDepth 100000 in
theorem c_s1_X9_image (l : Launch) (g : tf_G) (T : tf_T) (a0 : Nat) (ha0 : T a0 = some (39, 0)) (x1 : Int) (hp1 : 1 ≤ x1 ∧ x1 ≤ 1) (sq : Nat) (hsq : T sq = some (31, 0)) (im : Nat) (him : T im = some (15, 2)) (lp : Nat) (hlp : T lp = some (5, 4)) (lh : Nat) (hlh : T lh = some (6, 4)) (yr : Nat) (hyr : T yr = some (7, 40)) (wh : Nat) (hwh : T wh = some (8, 4)) (ss : Nat) (hss : T ss = some (33, 0)) (slp : Nat) (hslp : T slp = some (20, 4)) (slh : Nat) (hslh : T slh = some (21, 4)) (syr : Nat) (hsyr : T syr = some (22, 40)) (swh : Nat) (hswh : T swh = some (23, 4)) (gl : Int → Int) (gh : Int → Int) (gy : Int → Int) (gw : Int → Int) (sgl : Int → Int) (sgh : Int → Int) (sgy : Int → Int) (sgw : Int → Int) : Met l yX9_image (cd_X9_image :: wsL_law) ({ frames := 3, cells := 0, slots := 0, locals := 123 }) (tf_P g T [.ref a0, .int (Int32.ofInt x1)] (fun H => tf_s H a0 (g.1.2 9 0) = some (.ref sq) ∧ tf_s H sq (g.1.2 3 3) = some (.ref lp) ∧ tf_s H sq (g.1.2 3 4) = some (.ref lh) ∧ tf_s H sq (g.1.2 3 5) = some (.ref yr) ∧ tf_s H sq (g.1.2 3 6) = some (.ref wh) ∧ tf_rw H lp = gl ∧ tf_rw H lh = gh ∧ tf_rw H yr = gy ∧ tf_rw H wh = gw ∧ tf_s H a0 (g.1.2 9 1) = some (.ref im) ∧ tf_s H im 1 = some (.ref ss) ∧ tf_s H ss (g.1.2 3 3) = some (.ref slp) ∧ tf_s H ss (g.1.2 3 4) = some (.ref slh) ∧ tf_s H ss (g.1.2 3 5) = some (.ref syr) ∧ tf_s H ss (g.1.2 3 6) = some (.ref swh) ∧ tf_rw H slp = sgl ∧ tf_rw H slh = sgh ∧ tf_rw H syr = sgy ∧ tf_rw H swh = sgw)) (tf_Qi g M_s1_X9_image T (fun z _ H => 0 ≤ z ∧ z ≤ 0 ∧ (tf_rw H slp = gl ∧ tf_rw H slh = gh ∧ tf_rw H syr = gy ∧ tf_rw H swh = gw))) 0 0 (fun q => tf_B g ≤ q) := by
  refine Met.ofW (cc := cX9_image) (maxL := 3) (ret := (some .int)) (by decide) rfl ?_
  intro p e s m args below meth c s₁ B hml hv
  obtain ⟨hargs, hk, hW0, hB, hpre⟩ := hv
  obtain ⟨he0, he1, he2, he3, he4, he5, he6, he7, he8, he9, he10, he11, he12, he13, he14, he15, he16, he17, he18⟩ := hpre
  have hx := B.exec
  have hb := B.bytes
  have hr := B.returns
  have hts : ∀ w ∈ wsL_law, w.before args s = true := fun w h => atoms_spec (ws := cd_X9_image :: wsL_law) B.pre w (List.mem_cons_of_mem _ h)
  have hown : s.vm.findClass RX9 = some m.cls := findClass_of_methodNamed B.named
  have hlocks := B.notSynchronized
  have hK := hk.1
  have hW := tf_n.start (M := M_s1_X9_image) hW0 hB
  obtain ⟨Q, hQ⟩ : ∃ q, q = MQ below (tf_Qi g M_s1_X9_image T (fun z _ H => 0 ≤ z ∧ z ≤ 0 ∧ (tf_rw H slp = gl ∧ tf_rw H slh = gh ∧ tf_rw H syr = gy ∧ tf_rw H swh = gw))) args s 0 0 (fun q => tf_B g ≤ q) := ⟨_, rfl⟩
  rw [← hQ]
  obtain ⟨R, hR⟩ : ∃ q, q = (headSpec (cd_X9_image :: wsL_law) ({ frames := 3, cells := 0, slots := 0, locals := 123 })).room := ⟨_, rfl⟩
  rw [← hR]
  have hR1 : 3 ≤ R.frames := by rw [hR]; exact Nat.le_refl _
  have hR2 : 123 ≤ R.locals := by rw [hR]; exact Nat.le_refl _
  have hR3 : 0 ≤ R.cells := by rw [hR]; exact Nat.le_refl _
  have hR4 : 0 ≤ R.slots := by rw [hR]; exact Nat.le_refl _
  have hin := (name_of_methodNamed B.named B.method).1
  clear hR B
  refine tf_enter (As := [.ref a0, .int (Int32.ofInt x1)]) hargs (Nat.le_of_ble_eq_true rfl) (fun ls hl => ?_)
  have hl : lv_has ls 3 [(0, .ref a0), (1, .int (Int32.ofInt x1))] := hl
  refine lv_iload_n hx hb dX9_image_0 rfl (lv_at hl 1 rfl) ?_
  refine tf_iconst hx hb dX9_image_1 ?_
  refine tf_iconst hx hb dX9_image_2 ?_
  refine tf_calli (va_runS (As := [.int (Int32.ofInt x1), .int (Int32.ofInt 0), .int (Int32.ofInt 1)]) (rest := []) ⟨hx, hb, hml, hown, hts⟩ (c_X9_isWithin l g T (x1) ⟨by omega, by omega⟩ (0) ⟨by omega, by omega⟩ (1) ⟨by omega, by omega⟩) ⟨callB_of 3 hts (gw_ws cm_X9_isWithin) rfl rfl rfl (hts _ (tw1 (i := 2) rfl)) (hts _ (tw9 (i := 19) rfl)) hd_X9_isWithin.2 ⟨Nat.le_trans (by decide) hR1, Nat.le_trans (by decide) hR2⟩, hts _ (tw8 (i := 17) rfl)⟩ (tf_preS hk hW trivial) rfl rfl hl.1 rfl (lv_room (Nat.le_of_ble_eq_true rfl)) dX9_image_3 ⟨Nat.zero_le _, Nat.zero_le _⟩) hW (by decide) (fun z1 H1 locs1 hW hF1 hp1 => ?_)
  have hs2 := tf_keepF hF1 ha0 rfl rfl (by decide) he0
  have hs3 := tf_keepF hF1 hsq rfl rfl (by decide) he1
  have hs4 := tf_keepF hF1 hsq rfl rfl (by decide) he2
  have hs5 := tf_keepF hF1 hsq rfl rfl (by decide) he3
  have hs6 := tf_keepF hF1 hsq rfl rfl (by decide) he4
  have hs7 := tf_keepC hF1 hlp rfl (by decide) he5
  have hs8 := tf_keepC hF1 hlh rfl (by decide) he6
  have hs9 := tf_keepC hF1 hyr rfl (by decide) he7
  have hs10 := tf_keepC hF1 hwh rfl (by decide) he8
  have hs11 := tf_keepF hF1 ha0 rfl rfl (by decide) he9
  have hs12 := tf_keepS hF1 him rfl (by decide) he10
  have hs13 := tf_keepF hF1 hss rfl rfl (by decide) he11
  have hs14 := tf_keepF hF1 hss rfl rfl (by decide) he12
  have hs15 := tf_keepF hF1 hss rfl rfl (by decide) he13
  have hs16 := tf_keepF hF1 hss rfl rfl (by decide) he14
  have hs17 := tf_keepC hF1 hslp rfl (by decide) he15
  have hs18 := tf_keepC hF1 hslh rfl (by decide) he16
  have hs19 := tf_keepC hF1 hsyr rfl (by decide) he17
  have hs20 := tf_keepC hF1 hswh rfl (by decide) he18
  rcases hp1 with ⟨rfl, h21, h22⟩ | ⟨rfl, h23⟩
  · refine tf_if_ne (tgt := 15) hx hb ⟨by decide, by decide⟩ dX9_image_6 (by decide) (fun h24 => ?_) (fun h24 => ?_)
    · refine lv_aload_n hx hb dX9_image_15 rfl (lv_at hl 0 rfl) ?_
      refine tf_get hx hb hts inlX9 hown hK (ci := 9) rfl hW ha0 rfl 1 rfl (by decide) (hts _ fl_X9_16) dX9_image_16 (fun v25 hv25 hsv25 => ?_)
      obtain rfl : v25 = .ref im := Option.some.inj (hsv25.symm.trans hs11)
      refine lv_iload_n hx hb dX9_image_19 rfl (lv_at hl 1 rfl) ?_
      refine tf_aald (t0 := 5) hx hb hK hW him rfl rfl rfl (by omega) (by omega) (by rw [show (x1 : Int).toNat = 1 by omega]; rfl) dX9_image_20 (fun v26 hv26 hsv26 => ?_)
      rw [show (x1 : Int).toNat = 1 by omega] at hsv26
      obtain rfl : v26 = .ref ss := Option.some.inj (hsv26.symm.trans hs12)
      refine lv_astore_n (lv' := [(2, .ref ss), (0, .ref a0), (1, .int (Int32.ofInt x1))]) hx hb dX9_image_21 rfl hl (by decide) rfl (fun ls hl => ?_)
      refine lv_aload_n hx hb dX9_image_22 rfl (lv_at hl 0 rfl) ?_
      refine lv_ifnonnull (tgt := 41) hx hb dX9_image_23 (by decide) ?_
      refine lv_aload_n hx hb dX9_image_41 rfl (lv_at hl 0 rfl) ?_
      refine lv_aload_n hx hb dX9_image_42 rfl (lv_at hl 1 rfl) ?_
      refine tf_get hx hb hts inlX9 hown hK (ci := 9) rfl hW ha0 rfl 0 rfl (by decide) (hts _ fl_X9_10) dX9_image_43 (fun v27 hv27 hsv27 => ?_)
      obtain rfl : v27 = .ref sq := Option.some.inj (hsv27.symm.trans hs2)
      refine tf_callv (va_runV (As := [.ref sq]) (rest := []) ⟨hx, hb, hml, hown, hts⟩ (c_b2_X3_become l g T ss hss sq hsq slp hslp slh hslh syr hsyr swh hswh lp hlp lh hlh yr hyr wh hwh sgl sgh sgy sgw gl gh gy gw) (cwV 1 hts gv_X9_355 rfl rfl rfl hd_X3_become ⟨Nat.le_trans (by decide) hR1, Nat.le_trans (by decide) hR2⟩) (tf_preV hk hW hss (ci := 3) rfl rfl ⟨hs13, hs14, hs15, hs16, hs3, hs4, hs5, hs6, hs17, hs18, hs19, hs20, hs7, hs8, hs9, hs10⟩) rfl rfl hl.1 rfl (lv_room (Nat.le_of_ble_eq_true rfl)) dX9_image_46 ⟨Nat.zero_le _, Nat.zero_le _⟩) hW (by decide) (fun H28 locs28 hW hF28 hp28 => ?_)
      have hs29 := tf_keepF hF28 ha0 rfl rfl (by decide) hs2
      have hs30 := tf_keepF hF28 hsq rfl rfl (by decide) hs3
      have hs31 := tf_keepF hF28 hsq rfl rfl (by decide) hs4
      have hs32 := tf_keepF hF28 hsq rfl rfl (by decide) hs5
      have hs33 := tf_keepF hF28 hsq rfl rfl (by decide) hs6
      have hs34 := tf_keepC hF28 hlp rfl (by decide) hs7
      have hs35 := tf_keepC hF28 hlh rfl (by decide) hs8
      have hs36 := tf_keepC hF28 hyr rfl (by decide) hs9
      have hs37 := tf_keepC hF28 hwh rfl (by decide) hs10
      have hs38 := tf_keepF hF28 ha0 rfl rfl (by decide) hs11
      have hs39 := tf_keepS hF28 him rfl (by decide) hs12
      have hs40 := tf_keepF hF28 hss rfl rfl (by decide) hs13
      have hs41 := tf_keepF hF28 hss rfl rfl (by decide) hs14
      have hs42 := tf_keepF hF28 hss rfl rfl (by decide) hs15
      have hs43 := tf_keepF hF28 hss rfl rfl (by decide) hs16
      obtain ⟨ho28_0, ho28_1, ho28_2, ho28_3⟩ := hp28
      refine lv_aload_n hx hb dX9_image_49 rfl (lv_at hl 1 rfl) ?_
      refine tf_iconst hx hb dX9_image_50 ?_
      refine tf_calli (va_runV (As := [.int (Int32.ofInt 0)]) (rest := []) ⟨hx, hb, hml, hown, hts⟩ (c_X9_accept l g T a0 ha0 (0) ⟨by omega, by omega⟩) (cwV 1 hts gv_X9_99 rfl rfl rfl hd_X9_accept ⟨Nat.le_trans (by decide) hR1, Nat.le_trans (by decide) hR2⟩) (tf_preV hk hW ha0 (ci := 9) rfl rfl trivial) rfl rfl hl.1 rfl (lv_room (Nat.le_of_ble_eq_true rfl)) dX9_image_51 ⟨Nat.zero_le _, Nat.zero_le _⟩) hW (by decide) (fun z44 H44 locs44 hW hF44 hp44 => ?_)
      have hs45 := tf_keepF hF44 ha0 rfl rfl (by decide) hs29
      have hs46 := tf_keepF hF44 hsq rfl rfl (by decide) hs30
      have hs47 := tf_keepF hF44 hsq rfl rfl (by decide) hs31
      have hs48 := tf_keepF hF44 hsq rfl rfl (by decide) hs32
      have hs49 := tf_keepF hF44 hsq rfl rfl (by decide) hs33
      have hs50 := tf_keepC hF44 hlp rfl (by decide) hs34
      have hs51 := tf_keepC hF44 hlh rfl (by decide) hs35
      have hs52 := tf_keepC hF44 hyr rfl (by decide) hs36
      have hs53 := tf_keepC hF44 hwh rfl (by decide) hs37
      have hs54 := tf_keepF hF44 ha0 rfl rfl (by decide) hs38
      have hs55 := tf_keepS hF44 him rfl (by decide) hs39
      have hs56 := tf_keepF hF44 hss rfl rfl (by decide) hs40
      have hs57 := tf_keepF hF44 hss rfl rfl (by decide) hs41
      have hs58 := tf_keepF hF44 hss rfl rfl (by decide) hs42
      have hs59 := tf_keepF hF44 hss rfl rfl (by decide) hs43
      have hs60 := tf_keepC hF44 hslp rfl (by decide) ho28_0
      have hs61 := tf_keepC hF44 hslh rfl (by decide) ho28_1
      have hs62 := tf_keepC hF44 hsyr rfl (by decide) ho28_2
      have hs63 := tf_keepC hF44 hswh rfl (by decide) ho28_3
      obtain ⟨hp44_0, hp44_1, hp44_2⟩ := hp44
      exact tf_reti (z := z44) hx hb hr hlocks hQ hW ⟨by omega, by omega, ⟨hs60, hs61, hs62, hs63⟩⟩ dX9_image_54
    · exfalso; omega
  · refine tf_if_ne (tgt := 15) hx hb ⟨by decide, by decide⟩ dX9_image_6 (by decide) (fun h64 => ?_) (fun h64 => ?_)
    · exfalso; omega
    · exfalso; omega

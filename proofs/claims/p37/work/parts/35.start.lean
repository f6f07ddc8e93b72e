set_option maxHeartbeats 4000000 in
set_option maxRecDepth 100000 in
theorem whole_start {p : Program} {e : Env} {s : State} {m : MethodId} {below : List Frame} {meth : Method} {c : Code} (l : Launch) {b L : Nat} {xs : Nat → Int32} (hL : L ≤ 3072) (C0 : lw_At p s m meth c b L xs) : W p l e room_1 s m #[Value.ref b] below meth c s.heap [] 0 0 (lw_Z below #[Value.ref b] s) (entryFrame m ([Value.ref b] : List Value).toArray 4) := by
  obtain ⟨hx, hb, hr, hml, hown0, htb, hX0, hbl, hlocks, hgv⟩ := id C0
  have hown : s.vm.findClass RL = some m.cls := hown0
  have hts : ∀ w ∈ wsL_law, w.before #[Value.ref b] s = true := fun w h => htb w (in_all w h)
  obtain ⟨g, hk, hBs⟩ := lw_k htb hgv
  have hX : va_X b L (fun j => Int32.ofInt ((fun i : Int => (xs i.toNat).toInt) (j : Int))) s s.heap := by
    obtain ⟨scr, h1, h2, h3, h4, h5⟩ := hX0
    refine ⟨scr, h1, h2, h3, h4, fun j hj => ?_⟩
    rw [h5 j hj]
    show some (Value.int (xs j)) = some (Value.int (Int32.ofInt (xs ((j : Int).toNat)).toInt))
    rw [Int32.ofInt_toInt, Int.toNat_natCast]
  have hsx : ∀ j : Int, tf_r ((fun i : Int => (xs i.toNat).toInt) j) := fun j => ⟨Int32.le_toInt _, by have := Int32.toInt_lt (xs j.toNat); show (xs j.toNat).toInt ≤ 2147483647; omega⟩
  have E : lw_E p s m c b L g (fun i : Int => (xs i.toNat).toInt) := ⟨hx, hb, hml, hown, hts, hbl, hk, hBs, hsx, hX, hL⟩
  have hR1 := lw_R1
  have hR2 := lw_R2
  have hR3 := lw_R3
  have hR4 := lw_R4
  have hK := hk.1
  have hW0 : tf_w tf_kt g (fun _ => none) s.heap := ⟨fun a k n h => (by cases h), fun a k n q h => (by cases h)⟩
  have hW : tf_n tf_kt g M_law (fun _ => none) s.heap (fun _ => none) s.heap [] := tf_n.start hW0 (Nat.le_of_eq hBs)
  have hE : tf_E g (fun _ => none) := trivial
  obtain ⟨T, hTe⟩ : ∃ T : tf_T, T = fun _ => none := ⟨_, rfl⟩
  have hW : tf_n tf_kt g M_law (fun _ => none) s.heap T s.heap [] := hTe ▸ hW
  have hE : tf_E g T := trivial
  refine tf_enter (As := [.ref b]) rfl (Nat.le_of_ble_eq_true rfl) (fun ls hl => ?_)
  have hl : lv_has ls 4 [(0, .ref b)] := hl
  have hsz1 := hW.2.2.1.1
  refine tf_newD (kr := 73) hx hb hts inlX9 tyX9 tyX9_ok hown (hts _ (tw1 (i := 0) rfl)) (hts _ (tw1 (i := 1) rfl)) (hts _ (tw1 (i := 2) rfl)) hK (ci := 9) rfl hW rfl ⟨rfl, by decide⟩ (Nat.le_trans (by omega) hR3) (Nat.le_trans (by omega) hR4) dL_law_0 (fun ad1 H1 T hq1 hT1 had1 hE1 hW ho1 hD1 => ?_)
  have hsz1 := Nat.le_trans hsz1 (Nat.le_of_eq hq1)
  refine lv_dup hx hb dL_law_3 rfl ?_
  refine tf_callCp (va_runI (As := []) (rest := [.ref ad1]) ⟨hx, hb, hml, hown, hts⟩ (c_X9_init l g T ad1 had1) ⟨callB_of 0 hts (gw_ws cm_X9_init) rfl rfl rfl (hts _ (tw1 (i := 2) rfl)) (hts _ (tw1 (i := 6) rfl)) hd_X9_init.2 ⟨Nat.le_trans (by decide) hR1, Nat.le_trans (by decide) hR2⟩, rfl, hts _ (tw1 (i := 7) rfl)⟩ (tf_preS hk hW trivial) rfl rfl hl.1 rfl (lv_room (Nat.le_of_ble_eq_true rfl)) dL_law_4 ⟨Nat.le_trans (by omega) hR3, Nat.le_trans (by omega) hR4⟩) hW (by decide) (tf_fresh hW0 hsz1) hsz1 had1 (fun H2 locs2 T hW hn2 hE2 hF2 hP2 => ?_)
  obtain ⟨hP2_0, hP2_1, hP2_2, hP2_3, hP2_4, hP2_5, hP2_6, hP2_7, hP2_8, hP2_9, hP2_10⟩ := hP2
  obtain ⟨pv2_3_0, hpf2_3_0, hok2_3_0⟩ := tf_peek hW hn2 (ci := 9) rfl 0 rfl
  obtain ⟨im2_3_0, rfl, him2_3_0⟩ := tf_v1 hok2_3_0
  obtain ⟨pv2_3_1, hpf2_3_1, hok2_3_1⟩ := tf_peek hW him2_3_0 (ci := 3) rfl 3 rfl
  obtain ⟨im2_3_1, rfl, him2_3_1⟩ := tf_v1 hok2_3_1
  rw [tf_fr_eq hpf2_3_0, tf_fr_eq hpf2_3_1] at hP2_3
  obtain ⟨rc2_3, hrc2_3⟩ := tf_rname hW im2_3_1
  rw [hrc2_3] at hP2_3
  obtain ⟨pv2_4_1, hpf2_4_1, hok2_4_1⟩ := tf_peek hW him2_3_0 (ci := 3) rfl 4 rfl
  obtain ⟨im2_4_1, rfl, him2_4_1⟩ := tf_v1 hok2_4_1
  rw [tf_fr_eq hpf2_3_0, tf_fr_eq hpf2_4_1] at hP2_4
  obtain ⟨rc2_4, hrc2_4⟩ := tf_rname hW im2_4_1
  rw [hrc2_4] at hP2_4
  obtain ⟨pv2_5_1, hpf2_5_1, hok2_5_1⟩ := tf_peek hW him2_3_0 (ci := 3) rfl 5 rfl
  obtain ⟨im2_5_1, rfl, him2_5_1⟩ := tf_v1 hok2_5_1
  rw [tf_fr_eq hpf2_3_0, tf_fr_eq hpf2_5_1] at hP2_5
  obtain ⟨rc2_5, hrc2_5⟩ := tf_rname hW im2_5_1
  rw [hrc2_5] at hP2_5
  obtain ⟨pv2_6_1, hpf2_6_1, hok2_6_1⟩ := tf_peek hW him2_3_0 (ci := 3) rfl 6 rfl
  obtain ⟨im2_6_1, rfl, him2_6_1⟩ := tf_v1 hok2_6_1
  rw [tf_fr_eq hpf2_3_0, tf_fr_eq hpf2_6_1] at hP2_6
  obtain ⟨rc2_6, hrc2_6⟩ := tf_rname hW im2_6_1
  rw [hrc2_6] at hP2_6
  obtain ⟨pv2_7_0, hpf2_7_0, hok2_7_0⟩ := tf_peek hW hn2 (ci := 9) rfl 6 rfl
  obtain ⟨im2_7_0, rfl, him2_7_0⟩ := tf_v1 hok2_7_0
  rw [tf_fr_eq hpf2_7_0] at hP2_7
  obtain ⟨rc2_7, hrc2_7⟩ := tf_rname hW im2_7_0
  rw [hrc2_7] at hP2_7
  obtain ⟨pv2_8_0, hpf2_8_0, hok2_8_0⟩ := tf_peek hW hn2 (ci := 9) rfl 10 rfl
  obtain ⟨im2_8_0, rfl, him2_8_0⟩ := tf_v1 hok2_8_0
  rw [tf_fr_eq hpf2_8_0] at hP2_8
  obtain ⟨rc2_8, hrc2_8⟩ := tf_rname hW im2_8_0
  rw [hrc2_8] at hP2_8
  obtain ⟨pv2_9_0, hpf2_9_0, hok2_9_0⟩ := tf_peek hW hn2 (ci := 9) rfl 1 rfl
  obtain ⟨im2_9_0, rfl, him2_9_0⟩ := tf_v1 hok2_9_0
  rw [tf_fr_eq hpf2_9_0] at hP2_9
  rw [tf_fr_eq hpf2_9_0] at hP2_10
  refine lv_astore_n (lv' := [(1, .ref ad1), (0, .ref b)]) hx hb dL_law_7 rfl hl (by decide) rfl (fun ls hl => ?_)
  have hsz3 := hW.2.2.1.1
  refine tf_newD (kr := 74) hx hb hts inlX10 tyX10 tyX10_ok hown (hts _ (tw1 (i := 3) rfl)) (hts _ (tw1 (i := 4) rfl)) (hts _ (tw1 (i := 5) rfl)) hK (ci := 10) rfl hW rfl ⟨rfl, by decide⟩ (Nat.le_trans (by omega) hR3) (Nat.le_trans (by omega) hR4) dL_law_8 (fun ad3 H3 T hq3 hT3 had3 hE3 hW ho3 hD3 => ?_)
  have hsz3 := Nat.le_trans hsz3 (Nat.le_of_eq hq3)
  have hs4 := tf_keepQ hP2_0 (ho3 _ _ hn2)
  have hs5 := tf_keepQ hP2_1 (ho3 _ _ hn2)
  have hs6 := tf_keepQ hP2_2 (ho3 _ _ hn2)
  have hs7 := tf_keepQ hpf2_3_0 (ho3 _ _ hn2)
  have hs8 := tf_keepQ hpf2_3_1 (ho3 _ _ him2_3_0)
  have hs9 := tf_keepCQ hrc2_3 (ho3 _ _ him2_3_1)
  have hs10 := tf_keepQ hpf2_4_1 (ho3 _ _ him2_3_0)
  have hs11 := tf_keepCQ hrc2_4 (ho3 _ _ him2_4_1)
  have hs12 := tf_keepQ hpf2_5_1 (ho3 _ _ him2_3_0)
  have hs13 := tf_keepCQ hrc2_5 (ho3 _ _ him2_5_1)
  have hs14 := tf_keepQ hpf2_6_1 (ho3 _ _ him2_3_0)
  have hs15 := tf_keepCQ hrc2_6 (ho3 _ _ him2_6_1)
  have hs16 := tf_keepQ hpf2_7_0 (ho3 _ _ hn2)
  have hs17 := tf_keepCQ hrc2_7 (ho3 _ _ him2_7_0)
  have hs18 := tf_keepQ hpf2_8_0 (ho3 _ _ hn2)
  have hs19 := tf_keepCQ hrc2_8 (ho3 _ _ him2_8_0)
  have hs20 := tf_keepQ hpf2_9_0 (ho3 _ _ hn2)
  have hs21 := tf_keepQ hP2_9 (ho3 _ _ him2_9_0)
  have hs22 := tf_keepQ hP2_10 (ho3 _ _ him2_9_0)
  have hn2 := hE3 _ _ hn2
  have him2_3_0 := hE3 _ _ him2_3_0
  have him2_3_1 := hE3 _ _ him2_3_1
  have him2_4_1 := hE3 _ _ him2_4_1
  have him2_5_1 := hE3 _ _ him2_5_1
  have him2_6_1 := hE3 _ _ him2_6_1
  have him2_7_0 := hE3 _ _ him2_7_0
  have him2_8_0 := hE3 _ _ him2_8_0
  have him2_9_0 := hE3 _ _ him2_9_0
  have hz3_0 := (hD3 0 (by decide)).trans lw_d0
  have hz3_1 := (hD3 1 (by decide)).trans lw_d0
  have hz3_6 := (hD3 6 (by decide)).trans lw_d0
  have hz3_8 := (hD3 8 (by decide)).trans lw_d0
  have hz3_9 := (hD3 9 (by decide)).trans lw_d0
  have hz3_10 := (hD3 10 (by decide)).trans lw_d0
  have hz3_11 := (hD3 11 (by decide)).trans lw_d0
  have hz3_12 := (hD3 12 (by decide)).trans lw_dl
  have hz3_14 := (hD3 14 (by decide)).trans lw_dz
  have hz3_15 := (hD3 15 (by decide)).trans lw_d0
  have hz3_17 := (hD3 17 (by decide)).trans lw_d0
  have hz3_20 := (hD3 20 (by decide)).trans lw_d0
  have hz3_23 := (hD3 23 (by decide)).trans lw_d0
  have hz3_24 := (hD3 24 (by decide)).trans lw_d0
  have hz3_26 := (hD3 26 (by decide)).trans lw_d0
  have hz3_29 := (hD3 29 (by decide)).trans lw_dz
  have hz3_30 := (hD3 30 (by decide)).trans lw_dl
  have hz3_31 := (hD3 31 (by decide)).trans lw_dl
  have hz3_37 := (hD3 37 (by decide)).trans lw_d0
  have hz3_38 := (hD3 38 (by decide)).trans lw_d0
  have hz3_39 := (hD3 39 (by decide)).trans lw_d0
  have hz3_40 := (hD3 40 (by decide)).trans lw_d0
  have hz3_41 := (hD3 41 (by decide)).trans lw_d0
  have hz3_42 := (hD3 42 (by decide)).trans lw_d0
  have hz3_48 := (hD3 48 (by decide)).trans lw_dz
  have hz3_49 := (hD3 49 (by decide)).trans lw_dl
  refine lv_dup hx hb dL_law_11 rfl ?_
  refine tf_callCp (va_runI (As := []) (rest := [.ref ad3]) ⟨hx, hb, hml, hown, hts⟩ (c_X10_init l g T ad3 had3) ⟨callB_of 0 hts (gw_ws cm_X10_init) rfl rfl rfl (hts _ (tw1 (i := 5) rfl)) (hts _ (tw6 (i := 14) rfl)) hd_X10_init.2 ⟨Nat.le_trans (by decide) hR1, Nat.le_trans (by decide) hR2⟩, rfl, hts _ (tw6 (i := 15) rfl)⟩ (tf_preS hk hW ⟨hz3_0, hz3_1, hz3_6, hz3_8, hz3_9, hz3_10, hz3_11, hz3_12, hz3_14, hz3_15, hz3_17, hz3_20, hz3_23, hz3_24, hz3_26, hz3_29, hz3_30, hz3_31, hz3_37, hz3_38, hz3_39, hz3_40, hz3_41, hz3_42, hz3_48, hz3_49⟩) rfl rfl hl.1 rfl (lv_room (Nat.le_of_ble_eq_true rfl)) dL_law_12 ⟨Nat.le_trans (by omega) hR3, Nat.le_trans (by omega) hR4⟩) hW (by decide) (tf_fresh hW0 hsz3) hsz3 had3 (fun H23 locs23 T hW hn23 hE23 hF23 hP23 => ?_)
  have hs24 := tf_keepF hF23 hn2 rfl rfl (by decide) hs4
  have hs25 := tf_keepF hF23 hn2 rfl rfl (by decide) hs5
  have hs26 := tf_keepF hF23 hn2 rfl rfl (by decide) hs6
  have hs27 := tf_keepF hF23 hn2 rfl rfl (by decide) hs7
  have hs28 := tf_keepF hF23 him2_3_0 rfl rfl (by decide) hs8
  have hs29 := tf_keepC hF23 him2_3_1 rfl (by decide) hs9
  have hs30 := tf_keepF hF23 him2_3_0 rfl rfl (by decide) hs10
  have hs31 := tf_keepC hF23 him2_4_1 rfl (by decide) hs11
  have hs32 := tf_keepF hF23 him2_3_0 rfl rfl (by decide) hs12
  have hs33 := tf_keepC hF23 him2_5_1 rfl (by decide) hs13
  have hs34 := tf_keepF hF23 him2_3_0 rfl rfl (by decide) hs14
  have hs35 := tf_keepC hF23 him2_6_1 rfl (by decide) hs15
  have hs36 := tf_keepF hF23 hn2 rfl rfl (by decide) hs16
  have hs37 := tf_keepC hF23 him2_7_0 rfl (by decide) hs17
  have hs38 := tf_keepF hF23 hn2 rfl rfl (by decide) hs18
  have hs39 := tf_keepC hF23 him2_8_0 rfl (by decide) hs19
  have hs40 := tf_keepF hF23 hn2 rfl rfl (by decide) hs20
  have hs41 := tf_keepS hF23 him2_9_0 rfl (by decide) hs21
  have hs42 := tf_keepS hF23 him2_9_0 rfl (by decide) hs22
  have hn2 := hE23 _ _ (tf_ne hn2 had3 (by decide)) hn2
  have him2_3_0 := hE23 _ _ (tf_ne him2_3_0 had3 (by decide)) him2_3_0
  have him2_3_1 := hE23 _ _ (tf_ne him2_3_1 had3 (by decide)) him2_3_1
  have him2_4_1 := hE23 _ _ (tf_ne him2_4_1 had3 (by decide)) him2_4_1
  have him2_5_1 := hE23 _ _ (tf_ne him2_5_1 had3 (by decide)) him2_5_1
  have him2_6_1 := hE23 _ _ (tf_ne him2_6_1 had3 (by decide)) him2_6_1
  have him2_7_0 := hE23 _ _ (tf_ne him2_7_0 had3 (by decide)) him2_7_0
  have him2_8_0 := hE23 _ _ (tf_ne him2_8_0 had3 (by decide)) him2_8_0
  have him2_9_0 := hE23 _ _ (tf_ne him2_9_0 had3 (by decide)) him2_9_0
  obtain ⟨hP23_0, hP23_1, hP23_2, hP23_3, hP23_4, hP23_5, hP23_6, hP23_7⟩ := hP23
  obtain ⟨pv23_3_0, hpf23_3_0, hok23_3_0⟩ := tf_peek hW hn23 (ci := 10) rfl 3 rfl
  obtain ⟨im23_3_0, rfl, him23_3_0⟩ := tf_v1 hok23_3_0
  rw [tf_fr_eq hpf23_3_0] at hP23_3
  obtain ⟨rc23_3, hrc23_3⟩ := tf_rname hW im23_3_0
  rw [hrc23_3] at hP23_3
  obtain ⟨pv23_4_0, hpf23_4_0, hok23_4_0⟩ := tf_peek hW hn23 (ci := 10) rfl 4 rfl
  obtain ⟨im23_4_0, rfl, him23_4_0⟩ := tf_v1 hok23_4_0
  rw [tf_fr_eq hpf23_4_0] at hP23_4
  obtain ⟨rc23_4, hrc23_4⟩ := tf_rname hW im23_4_0
  rw [hrc23_4] at hP23_4
  obtain ⟨pv23_5_0, hpf23_5_0, hok23_5_0⟩ := tf_peek hW hn23 (ci := 10) rfl 5 rfl
  obtain ⟨im23_5_0, rfl, him23_5_0⟩ := tf_v1 hok23_5_0
  rw [tf_fr_eq hpf23_5_0] at hP23_5
  obtain ⟨rc23_5, hrc23_5⟩ := tf_rname hW im23_5_0
  rw [hrc23_5] at hP23_5
  obtain ⟨pv23_6_0, hpf23_6_0, hok23_6_0⟩ := tf_peek hW hn23 (ci := 10) rfl 7 rfl
  obtain ⟨im23_6_0, rfl, him23_6_0⟩ := tf_v1 hok23_6_0
  rw [tf_fr_eq hpf23_6_0] at hP23_6
  obtain ⟨rc23_6, hrc23_6⟩ := tf_rname hW im23_6_0
  rw [hrc23_6] at hP23_6
  obtain ⟨pv23_7_0, hpf23_7_0, hok23_7_0⟩ := tf_peek hW hn23 (ci := 10) rfl 47 rfl
  obtain ⟨im23_7_0, rfl, him23_7_0⟩ := tf_v1 hok23_7_0
  rw [tf_fr_eq hpf23_7_0] at hP23_7
  obtain ⟨rc23_7, hrc23_7⟩ := tf_rname hW im23_7_0
  rw [hrc23_7] at hP23_7
  refine lv_astore_n (lv' := [(2, .ref ad3), (1, .ref ad1), (0, .ref b)]) hx hb dL_law_15 rfl hl (by decide) rfl (fun ls hl => ?_)
  refine tf_iconst hx hb dL_law_16 ?_
  refine lv_istore_n (lv' := [(3, .int (Int32.ofInt 0)), (2, .ref ad3), (1, .ref ad1), (0, .ref b)]) hx hb dL_law_17 rfl hl (by decide) rfl (fun ls hl => ?_)
  have hRL := tf_RL_0 hP2_3 hP2_4 hP2_5 hP2_6 hP23_3
  have hDD : ∀ h, 0 ≤ h → h < 24 → rc2_8 h = rc23_7 h := fun h _ _ => by rw [hP2_8, hP23_7]
  have hTP : rc2_7 = rc23_6 := hP2_7.trans hP23_6.symm
  have hI0 : tf_IS1 g T _ im2_9_0 (rc23_5 0) (tf_qk rc23_4 0) := Or.inl ⟨by rw [hP23_5], hs41⟩
  have hI1 : tf_IS2 g T _ im2_9_0 (rc23_5 1) (tf_qk rc23_4 1) := Or.inl ⟨by rw [hP23_5], hs42⟩
  refine W.widen (k := 100 + 30 * 0) (n := 30000 + 1200 * 0) (by omega) (by omega) ?_
  exact law_loop hr hlocks E ad1 ad3 3100 0 0 (by omega) (by omega) _ _ _ hW hn2 hn23 ⟨im2_3_0, im2_9_0, im2_7_0, im2_8_0, im2_3_1, im2_4_1, im2_5_1, im2_6_1, im23_3_0, im23_4_0, im23_5_0, im23_6_0, im23_7_0, (0), (0), (0), rc2_3, rc2_4, rc2_5, rc2_6, rc2_7, rc2_8, rc23_3, rc23_4, rc23_5, rc23_6, rc23_7, him2_3_0, him2_9_0, him2_7_0, him2_8_0, him2_3_1, him2_4_1, him2_5_1, him2_6_1, him23_3_0, him23_4_0, him23_5_0, him23_6_0, him23_7_0, ⟨by omega, by omega⟩, ⟨by omega, by omega⟩, ⟨by omega, by omega⟩, hs27, hs40, hs36, hs24, hs25, hs38, hs26, hs28, hs30, hs32, hs34, hs29, hs31, hs33, hs35, hs37, hs39, hpf23_3_0, hpf23_4_0, hpf23_5_0, tf_eqv hP23_1 (by omega), hpf23_6_0, tf_eqv hP23_0 (by omega), hpf23_7_0, tf_eqv hP23_2 (by omega), hrc23_3, hrc23_4, hrc23_5, hrc23_6, hrc23_7, hRL, hDD, hTP, hI0, hI1⟩ _ (lv_sub hl [0, 1, 2, 3] rfl)

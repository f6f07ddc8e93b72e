set_option maxHeartbeats 4000000 in
set_option maxRecDepth 100000 in
theorem whole_start {p : Program} {e : Env} {s : State} {m : MethodId} {below : List Frame} {meth : Method} {c : Code} (l : Launch) {b L : Nat} {xs : Nat → Int32} (hL : L ≤ 3072) (C0 : lw_At p s m meth c b L xs) : W p l e room_1 s m #[Value.ref b] below meth c s.heap [] 0 0 (lw_Z below #[Value.ref b] s) (entryFrame m ([Value.ref b] : List Value).toArray 4) := by
  obtain ⟨hx, hb, hr, hml, hown0, htb, hX0, hbl, hlocks, hgv⟩ := id C0
  have hown : s.vm.findClass RL = some m.cls := hown0
  have hts : ∀ w ∈ wsL_law, w.before #[Value.ref b] s = true := fun w h => htb w (in_all w h)
  obtain ⟨g, hk, hBs⟩ := lw_k htb hgv
  have hX : va_X b L (fun j => Int32.ofInt ((fun i : Int => (xs i.toNat).toInt) (j : Int))) s s.heap := by
    obtain ⟨scr, h1, h2, h3, h4, h5⟩ := hX0
    refine ⟨scr, h1, h2, h3, h4, fun j hj => ?_⟩
    rw [h5 j hj]
    show some (Value.int (xs j)) = some (Value.int (Int32.ofInt (xs ((j : Int).toNat)).toInt))
    rw [Int32.ofInt_toInt, Int.toNat_natCast]
  have hsx : ∀ j : Int, tf_r ((fun i : Int => (xs i.toNat).toInt) j) := fun j => ⟨Int32.le_toInt _, by have := Int32.toInt_lt (xs j.toNat); show (xs j.toNat).toInt ≤ 2147483647; omega⟩
  have E : lw_E p s m c b L g (fun i : Int => (xs i.toNat).toInt) := ⟨hx, hb, hml, hown, hts, hbl, hk, hBs, hsx, hX, hL⟩
  have hR1 := lw_R1
  have hR2 := lw_R2
  have hR3 := lw_R3
  have hR4 := lw_R4
  have hK := hk.1
  have hW0 : tf_w tf_kt g (fun _ => none) s.heap := ⟨fun a k n h => (by cases h), fun a k n q h => (by cases h)⟩
  have hW : tf_n tf_kt g M_law (fun _ => none) s.heap (fun _ => none) s.heap [] := tf_n.start hW0 (Nat.le_of_eq hBs)
  have hE : tf_E g (fun _ => none) := trivial
  obtain ⟨T, hTe⟩ : ∃ T : tf_T, T = fun _ => none := ⟨_, rfl⟩
  have hW : tf_n tf_kt g M_law (fun _ => none) s.heap T s.heap [] := hTe ▸ hW
  have hE : tf_E g T := trivial
  refine tf_enter (As := [.ref b]) rfl (Nat.le_of_ble_eq_true rfl) (fun ls hl => ?_)
  have hl : lv_has ls 4 [(0, .ref b)] := hl
  have hsz1 := hW.2.2.1.1
  refine tf_newD (kr := 60) hx hb hts inlX9 tyX9 tyX9_ok hown (hts _ (tw1 (i := 0) rfl)) (hts _ (tw1 (i := 1) rfl)) (hts _ (tw1 (i := 2) rfl)) hK (ci := 9) rfl hW rfl ⟨rfl, by decide⟩ (Nat.le_trans (by omega) hR3) (Nat.le_trans (by omega) hR4) dL_law_0 (fun ad1 H1 T hq1 hT1 had1 hE1 hW ho1 hD1 => ?_)
  have hsz1 := Nat.le_trans hsz1 (Nat.le_of_eq hq1)
  refine lv_dup hx hb dL_law_3 rfl ?_
  refine tf_callCp (va_runI (As := []) (rest := [.ref ad1]) ⟨hx, hb, hml, hown, hts⟩ (f_X9_init l g T ad1 had1) ⟨callB_of 0 hts (gw_ws cm_X9_init) rfl rfl rfl (hts _ (tw1 (i := 2) rfl)) (hts _ (tw1 (i := 6) rfl)) hd_X9_init.2 ⟨Nat.le_trans (by decide) hR1, Nat.le_trans (by decide) hR2⟩, rfl, hts _ (tw1 (i := 7) rfl)⟩ (tf_preS hk hW trivial) rfl rfl hl.1 rfl (lv_room (Nat.le_of_ble_eq_true rfl)) dL_law_4 ⟨Nat.le_trans (by omega) hR3, Nat.le_trans (by omega) hR4⟩) hW (by decide) (tf_fresh hW0 hsz1) hsz1 had1 (fun H2 locs2 T hW hn2 hE2 hF2 hP2 => ?_)
  obtain ⟨hP2_0, hP2_1, hP2_2⟩ := hP2
  obtain ⟨pv2_2, hpf2_2, hok2_2⟩ := tf_peek hW hn2 (ci := 9) rfl 1 rfl
  obtain ⟨im2_2, rfl, him2_2⟩ := tf_v1 hok2_2
  obtain ⟨rc2_2, hrc2_2⟩ := tf_nname hW im2_2
  have hrz2_2 := hP2_2 _ hpf2_2
  rw [hrc2_2] at hrz2_2
  refine lv_astore_n (lv' := [(1, .ref ad1), (0, .ref b)]) hx hb dL_law_7 rfl hl (by decide) rfl (fun ls hl => ?_)
  have hsz3 := hW.2.2.1.1
  refine tf_newD (kr := 61) hx hb hts inlX10 tyX10 tyX10_ok hown (hts _ (tw1 (i := 3) rfl)) (hts _ (tw1 (i := 4) rfl)) (hts _ (tw1 (i := 5) rfl)) hK (ci := 10) rfl hW rfl ⟨rfl, by decide⟩ (Nat.le_trans (by omega) hR3) (Nat.le_trans (by omega) hR4) dL_law_8 (fun ad3 H3 T hq3 hT3 had3 hE3 hW ho3 hD3 => ?_)
  have hsz3 := Nat.le_trans hsz3 (Nat.le_of_eq hq3)
  have hs4 := tf_keepQ hP2_0 (ho3 _ _ hn2)
  have hs5 := tf_keepQ hP2_1 (ho3 _ _ hn2)
  have hs6 := tf_keepQ hpf2_2 (ho3 _ _ hn2)
  have hs7 := tf_keepNQ hrc2_2 (ho3 _ _ him2_2)
  have hn2 := hE3 _ _ hn2
  have him2_2 := hE3 _ _ him2_2
  have hz3_0 := (hD3 0 (by decide)).trans lw_d0
  have hz3_1 := (hD3 1 (by decide)).trans lw_d0
  have hz3_6 := (hD3 6 (by decide)).trans lw_d0
  have hz3_8 := (hD3 8 (by decide)).trans lw_d0
  have hz3_9 := (hD3 9 (by decide)).trans lw_d0
  have hz3_10 := (hD3 10 (by decide)).trans lw_d0
  have hz3_11 := (hD3 11 (by decide)).trans lw_d0
  have hz3_12 := (hD3 12 (by decide)).trans lw_dl
  have hz3_14 := (hD3 14 (by decide)).trans lw_dz
  have hz3_15 := (hD3 15 (by decide)).trans lw_d0
  have hz3_17 := (hD3 17 (by decide)).trans lw_d0
  have hz3_20 := (hD3 20 (by decide)).trans lw_d0
  have hz3_23 := (hD3 23 (by decide)).trans lw_d0
  have hz3_24 := (hD3 24 (by decide)).trans lw_d0
  have hz3_26 := (hD3 26 (by decide)).trans lw_d0
  have hz3_29 := (hD3 29 (by decide)).trans lw_dz
  have hz3_30 := (hD3 30 (by decide)).trans lw_dl
  have hz3_31 := (hD3 31 (by decide)).trans lw_dl
  have hz3_37 := (hD3 37 (by decide)).trans lw_d0
  have hz3_38 := (hD3 38 (by decide)).trans lw_d0
  have hz3_39 := (hD3 39 (by decide)).trans lw_d0
  have hz3_40 := (hD3 40 (by decide)).trans lw_d0
  have hz3_41 := (hD3 41 (by decide)).trans lw_d0
  have hz3_42 := (hD3 42 (by decide)).trans lw_d0
  have hz3_48 := (hD3 48 (by decide)).trans lw_dz
  have hz3_49 := (hD3 49 (by decide)).trans lw_dl
  refine lv_dup hx hb dL_law_11 rfl ?_
  refine tf_callCp (va_runI (As := []) (rest := [.ref ad3]) ⟨hx, hb, hml, hown, hts⟩ (f_X10_init l g T ad3 had3) ⟨callB_of 0 hts (gw_ws cm_X10_init) rfl rfl rfl (hts _ (tw1 (i := 5) rfl)) (hts _ (tw6 (i := 14) rfl)) hd_X10_init.2 ⟨Nat.le_trans (by decide) hR1, Nat.le_trans (by decide) hR2⟩, rfl, hts _ (tw6 (i := 15) rfl)⟩ (tf_preS hk hW ⟨hz3_0, hz3_1, hz3_6, hz3_8, hz3_9, hz3_10, hz3_11, hz3_12, hz3_14, hz3_15, hz3_17, hz3_20, hz3_23, hz3_24, hz3_26, hz3_29, hz3_30, hz3_31, hz3_37, hz3_38, hz3_39, hz3_40, hz3_41, hz3_42, hz3_48, hz3_49⟩) rfl rfl hl.1 rfl (lv_room (Nat.le_of_ble_eq_true rfl)) dL_law_12 ⟨Nat.le_trans (by omega) hR3, Nat.le_trans (by omega) hR4⟩) hW (by decide) (tf_fresh hW0 hsz3) hsz3 had3 (fun H8 locs8 T hW hn8 hE8 hF8 hP8 => ?_)
  have hs9 := tf_keepF hF8 hn2 rfl rfl (by decide) hs4
  have hs10 := tf_keepF hF8 hn2 rfl rfl (by decide) hs5
  have hs11 := tf_keepF hF8 hn2 rfl rfl (by decide) hs6
  have hs12 := tf_keepN hF8 him2_2 rfl (by decide) hs7
  have hn2 := hE8 _ _ (tf_ne hn2 had3 (by decide)) hn2
  have him2_2 := hE8 _ _ (tf_ne him2_2 had3 (by decide)) him2_2
  obtain ⟨hP8_0, hP8_1, hP8_2⟩ := hP8
  obtain ⟨pv8_2, hpf8_2, hok8_2⟩ := tf_peek hW hn8 (ci := 10) rfl 5 rfl
  obtain ⟨im8_2, rfl, him8_2⟩ := tf_v1 hok8_2
  obtain ⟨rc8_2, hrc8_2⟩ := tf_rname hW im8_2
  have hrz8_2 := hP8_2 _ hpf8_2
  rw [hrc8_2] at hrz8_2
  refine lv_astore_n (lv' := [(2, .ref ad3), (1, .ref ad1), (0, .ref b)]) hx hb dL_law_15 rfl hl (by decide) rfl (fun ls hl => ?_)
  refine tf_iconst hx hb dL_law_16 ?_
  refine lv_istore_n (lv' := [(3, .int (Int32.ofInt 0)), (2, .ref ad3), (1, .ref ad1), (0, .ref b)]) hx hb dL_law_17 rfl hl (by decide) rfl (fun ls hl => ?_)
  refine W.widen (k := 100 + 30 * 0) (n := 30000 + 1200 * 0) (by omega) (by omega) ?_
  exact law_loop hr hlocks E ad1 ad3 im2_2 im8_2 3100 0 0 (by omega) (by omega) _ _ _ hW hn2 hn8 (0) (0) ⟨by omega, by omega⟩ ⟨by omega, by omega⟩ hs9 hs10 (tf_eqv hP8_0 (by omega)) (tf_eqv hP8_1 (by omega)) him2_2 him8_2 rc2_2 rc8_2 (by omega) (by omega) hs11 hpf8_2 hs12 hrc8_2 _ (lv_sub hl [0, 1, 2, 3] rfl)

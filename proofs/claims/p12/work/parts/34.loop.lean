set_option maxHeartbeats 4000000 in
set_option maxRecDepth 100000 in
theorem law_loop {p : Program} {l : Launch} {e : Env} {s : State} {m : MethodId} {below : List Frame} {meth : Method} {c : Code} {b L : Nat} {g : tf_G} {sx : Int → Int} (hr : meth.sig.returnType = ret) (hlocks : meth.locks = false) (E : lw_E p s m c b L g sx) (ax am im kp : Nat) : ∀ (n jj : Nat) (ii : Int), ii = 6 * (jj : Int) ∧ ii ≤ 3078 → (3078 - ii + 1 ≤ (n : Int)) → ∀ (T : tf_T) (H : Heap) (locs : List Loc) (hW : tf_n tf_kt g M_law (fun _ => none) s.heap T H locs) (hax : T ax = some (26, 0)) (ham : T am = some (50, 0)) (tt uu : Int) (htt : 0 ≤ tt ∧ tt ≤ 400) (huu : tf_r uu) (hf0 : tf_s H ax (g.1.2 9 7) = some (.int (Int32.ofInt tt))) (hf1 : tf_s H ax (g.1.2 9 8) = some (.int (Int32.ofInt uu))) (hf2 : tf_s H am (g.1.2 10 8) = some (.int (Int32.ofInt tt))) (hf3 : tf_s H am (g.1.2 10 6) = some (.int (Int32.ofInt uu))) (him : T im = some (14, 2)) (hkp : T kp = some (30, 2)) (rn rk : Int → Int) (hr0 : rn 0 = rk 0) (hr1 : rn 1 = rk 1) (hf4 : tf_s H ax (g.1.2 9 1) = some (.ref im)) (hf5 : tf_s H am (g.1.2 10 5) = some (.ref kp)) (hf6 : tf_nl H im = rn) (hf7 : tf_rw H kp = rk) (ls : Array Slot) (hl : lv_has ls 4 [(3, .int (Int32.ofInt ii)), (2, .ref am), (1, .ref ax), (0, .ref b)]), W p l e room_1 s m #[Value.ref b] below meth c H locs (100 + 30 * jj) (30000 + 1200 * jj) (lw_Z below #[Value.ref b] s) (F0 m 18 ls []) := by
  intro n
  induction n with
  | zero =>
    intro jj ii hi hn
    exfalso; omega
  | succ n ih =>
    intro jj ii hi hn T H locs hW hax ham tt uu htt huu hf0 hf1 hf2 hf3 him hkp rn rk hr0 hr1 hf4 hf5 hf6 hf7 ls hl
    have hii : ii = 6 * (jj : Int) := hi.1
    obtain ⟨hx, hb, hml, hown, hts, hbl, hk, hBs, hsx, hX, hL⟩ := id E
    have hR1 := lw_R1
    have hR2 := lw_R2
    have hR3 := lw_R3
    have hR4 := lw_R4
    have hK := hk.1
    have hE : tf_E g T := trivial
    refine lv_iload_n hx hb dL_law_18 rfl (lv_at hl 0 rfl) ?_
    refine lv_aload_n hx hb dL_law_19 rfl (lv_at hl 3 rfl) ?_
    refine lw_sln hx hb hX hbl hBs hW dL_law_20 ?_
    refine tf_bipush hx hb dL_law_21 (by decide) ?_
    refine tf_isub hx hb dL_law_23 ?_
    refine tf_icmp_gt (tgt := 1504) hx hb ⟨by omega, by omega⟩ ⟨by omega, by omega⟩ dL_law_24 (by decide) (fun h1 => ?_) (fun h1 => ?_)
    · refine tf_iconst hx hb dL_law_1504 ?_
      refine va_forget (fun q hq => Nat.le_trans (Nat.le_of_eq hBs.symm) (hW.2.2.2.1 q hq)) ?_
      refine W.widen (k := 600000) (n := 7302250) (by omega) (by omega) ?_
      rw [show Int32.ofInt 1 = (1 : Int32) by decide]
      exact lw_ret hx hb hr hlocks dL_law_1505
    · have hnx : lw_nx p l e s m below meth c b g ax am im kp jj ii (lw_Z below #[Value.ref b] s) := by
        intro T H locs hW hax ham tt uu htt huu hf0 hf1 hf2 hf3 him hkp rn rk hr0 hr1 hf4 hf5 hf6 hf7 ls hl
        refine lv_iinc (v := Int32.ofInt (ii + 6)) (lv' := [(3, .int (Int32.ofInt (ii + 6))), (2, .ref am), (1, .ref ax), (0, .ref b)]) hx hb dL_law_1498 hl (k := 0) rfl (Int32.ofInt_add _ _).symm (by decide) rfl (fun ls hl => ?_)
        refine lv_goto (tgt := 18) hx hb dL_law_1501 (by decide) ?_
        refine W.widen (k := 100 + 30 * (jj + 1)) (n := 30000 + 1200 * (jj + 1)) (by omega) (by omega) ?_
        exact ih (jj + 1) (ii + 6) (by omega) (by omega) _ _ _ hW hax ham tt uu htt huu hf0 hf1 hf2 hf3 him hkp rn rk hr0 hr1 hf4 hf5 hf6 hf7 _ hl
      refine lv_aload_n hx hb dL_law_27 rfl (lv_at hl 3 rfl) ?_
      refine lv_iload_n hx hb dL_law_28 rfl (lv_at hl 0 rfl) ?_
      refine lw_sld (sx := sx) hx hb hX hbl hBs hL hW (by omega) (by omega) dL_law_29 ?_
      have hsx2 := hsx ii
      refine tf_bipush hx hb dL_law_30 (by decide) ?_
      refine tf_iand_mask hx hb 6 (by decide) (by decide +kernel) dL_law_32 (fun z3 hz3 kz3 => ?_)
      rcases (show z3 = 0 ∨ z3 = 1 ∨ z3 = 2 ∨ z3 = 3 ∨ z3 = 4 ∨ z3 = 5 ∨ z3 = 6 ∨ z3 = 7 ∨ z3 = 8 ∨ z3 = 9 ∨ z3 = 10 ∨ z3 = 11 ∨ z3 = 12 ∨ z3 = 13 ∨ z3 = 14 ∨ z3 = 15 ∨ z3 = 16 ∨ z3 = 17 ∨ z3 = 18 ∨ z3 = 19 ∨ z3 = 20 ∨ z3 = 21 ∨ z3 = 22 ∨ z3 = 23 ∨ z3 = 24 ∨ z3 = 25 ∨ z3 = 26 ∨ z3 = 27 ∨ z3 = 28 ∨ z3 = 29 ∨ z3 = 30 ∨ z3 = 31 ∨ z3 = 32 ∨ z3 = 33 ∨ z3 = 34 ∨ z3 = 35 ∨ z3 = 36 ∨ z3 = 37 ∨ z3 = 38 ∨ z3 = 39 ∨ z3 < 0 ∨ 39 < z3 by omega) with h4 | h4 | h4 | h4 | h4 | h4 | h4 | h4 | h4 | h4 | h4 | h4 | h4 | h4 | h4 | h4 | h4 | h4 | h4 | h4 | h4 | h4 | h4 | h4 | h4 | h4 | h4 | h4 | h4 | h4 | h4 | h4 | h4 | h4 | h4 | h4 | h4 | h4 | h4 | h4 | h4 | h4
      · refine tf_tableIn (tgt := 208) hx hb dL_law_33 h4 (by decide) (by decide) (by decide) rfl (by decide) ?_
        exact lc_208 E ax am im kp jj ii hii (by omega) hnx _ _ _ hW hax ham (tt) (uu) ⟨by omega, by omega⟩ ⟨by omega, by omega⟩ hf0 hf1 (tf_eqv hf2 (by omega)) (tf_eqv hf3 (by omega)) him hkp rn rk (by omega) (by omega) hf4 hf5 hf6 hf7 _ (lv_sub hl [0, 1, 2, 3] rfl)
      · refine tf_tableIn (tgt := 271) hx hb dL_law_33 h4 (by decide) (by decide) (by decide) rfl (by decide) ?_
        exact lc_271 E ax am im kp jj ii hii (by omega) hnx _ _ _ hW hax ham (tt) (uu) ⟨by omega, by omega⟩ ⟨by omega, by omega⟩ hf0 hf1 (tf_eqv hf2 (by omega)) (tf_eqv hf3 (by omega)) him hkp rn rk (by omega) (by omega) hf4 hf5 hf6 hf7 _ (lv_sub hl [0, 1, 2, 3] rfl)
      · refine tf_tableIn (tgt := 304) hx hb dL_law_33 h4 (by decide) (by decide) (by decide) rfl (by decide) ?_
        exact lc_304 E ax am im kp jj ii hii (by omega) hnx _ _ _ hW hax ham (tt) (uu) ⟨by omega, by omega⟩ ⟨by omega, by omega⟩ hf0 hf1 (tf_eqv hf2 (by omega)) (tf_eqv hf3 (by omega)) him hkp rn rk (by omega) (by omega) hf4 hf5 hf6 hf7 _ (lv_sub hl [0, 1, 2, 3] rfl)
      · refine tf_tableIn (tgt := 327) hx hb dL_law_33 h4 (by decide) (by decide) (by decide) rfl (by decide) ?_
        exact lc_327 E ax am im kp jj ii hii (by omega) hnx _ _ _ hW hax ham (tt) (uu) ⟨by omega, by omega⟩ ⟨by omega, by omega⟩ hf0 hf1 (tf_eqv hf2 (by omega)) (tf_eqv hf3 (by omega)) him hkp rn rk (by omega) (by omega) hf4 hf5 hf6 hf7 _ (lv_sub hl [0, 1, 2, 3] rfl)
      · refine tf_tableIn (tgt := 370) hx hb dL_law_33 h4 (by decide) (by decide) (by decide) rfl (by decide) ?_
        exact lc_370 E ax am im kp jj ii hii (by omega) hnx _ _ _ hW hax ham (tt) (uu) ⟨by omega, by omega⟩ ⟨by omega, by omega⟩ hf0 hf1 (tf_eqv hf2 (by omega)) (tf_eqv hf3 (by omega)) him hkp rn rk (by omega) (by omega) hf4 hf5 hf6 hf7 _ (lv_sub hl [0, 1, 2, 3] rfl)
      · refine tf_tableIn (tgt := 403) hx hb dL_law_33 h4 (by decide) (by decide) (by decide) rfl (by decide) ?_
        exact lc_403 E ax am im kp jj ii hii (by omega) hnx _ _ _ hW hax ham (tt) (uu) ⟨by omega, by omega⟩ ⟨by omega, by omega⟩ hf0 hf1 (tf_eqv hf2 (by omega)) (tf_eqv hf3 (by omega)) him hkp rn rk (by omega) (by omega) hf4 hf5 hf6 hf7 _ (lv_sub hl [0, 1, 2, 3] rfl)
      · refine tf_tableIn (tgt := 446) hx hb dL_law_33 h4 (by decide) (by decide) (by decide) rfl (by decide) ?_
        exact lc_446 E ax am im kp jj ii hii (by omega) hnx _ _ _ hW hax ham (tt) (uu) ⟨by omega, by omega⟩ ⟨by omega, by omega⟩ hf0 hf1 (tf_eqv hf2 (by omega)) (tf_eqv hf3 (by omega)) him hkp rn rk (by omega) (by omega) hf4 hf5 hf6 hf7 _ (lv_sub hl [0, 1, 2, 3] rfl)
      · refine tf_tableIn (tgt := 489) hx hb dL_law_33 h4 (by decide) (by decide) (by decide) rfl (by decide) ?_
        exact lc_489 E ax am im kp jj ii hii (by omega) hnx _ _ _ hW hax ham (tt) (uu) ⟨by omega, by omega⟩ ⟨by omega, by omega⟩ hf0 hf1 (tf_eqv hf2 (by omega)) (tf_eqv hf3 (by omega)) him hkp rn rk (by omega) (by omega) hf4 hf5 hf6 hf7 _ (lv_sub hl [0, 1, 2, 3] rfl)
      · refine tf_tableIn (tgt := 552) hx hb dL_law_33 h4 (by decide) (by decide) (by decide) rfl (by decide) ?_
        exact lc_552 E ax am im kp jj ii hii (by omega) hnx _ _ _ hW hax ham (tt) (uu) ⟨by omega, by omega⟩ ⟨by omega, by omega⟩ hf0 hf1 (tf_eqv hf2 (by omega)) (tf_eqv hf3 (by omega)) him hkp rn rk (by omega) (by omega) hf4 hf5 hf6 hf7 _ (lv_sub hl [0, 1, 2, 3] rfl)
      · refine tf_tableIn (tgt := 575) hx hb dL_law_33 h4 (by decide) (by decide) (by decide) rfl (by decide) ?_
        exact lc_575 E ax am im kp jj ii hii (by omega) hnx _ _ _ hW hax ham (tt) (uu) ⟨by omega, by omega⟩ ⟨by omega, by omega⟩ hf0 hf1 (tf_eqv hf2 (by omega)) (tf_eqv hf3 (by omega)) him hkp rn rk (by omega) (by omega) hf4 hf5 hf6 hf7 _ (lv_sub hl [0, 1, 2, 3] rfl)
      · refine tf_tableIn (tgt := 588) hx hb dL_law_33 h4 (by decide) (by decide) (by decide) rfl (by decide) ?_
        exact lc_588 E ax am im kp jj ii hii (by omega) hnx _ _ _ hW hax ham (tt) (uu) ⟨by omega, by omega⟩ ⟨by omega, by omega⟩ hf0 hf1 (tf_eqv hf2 (by omega)) (tf_eqv hf3 (by omega)) him hkp rn rk (by omega) (by omega) hf4 hf5 hf6 hf7 _ (lv_sub hl [0, 1, 2, 3] rfl)
      · refine tf_tableIn (tgt := 601) hx hb dL_law_33 h4 (by decide) (by decide) (by decide) rfl (by decide) ?_
        exact lc_601 E ax am im kp jj ii hii (by omega) hnx _ _ _ hW hax ham (tt) (uu) ⟨by omega, by omega⟩ ⟨by omega, by omega⟩ hf0 hf1 (tf_eqv hf2 (by omega)) (tf_eqv hf3 (by omega)) him hkp rn rk (by omega) (by omega) hf4 hf5 hf6 hf7 _ (lv_sub hl [0, 1, 2, 3] rfl)
      · refine tf_tableIn (tgt := 614) hx hb dL_law_33 h4 (by decide) (by decide) (by decide) rfl (by decide) ?_
        exact lc_614 E ax am im kp jj ii hii (by omega) hnx _ _ _ hW hax ham (tt) (uu) ⟨by omega, by omega⟩ ⟨by omega, by omega⟩ hf0 hf1 (tf_eqv hf2 (by omega)) (tf_eqv hf3 (by omega)) him hkp rn rk (by omega) (by omega) hf4 hf5 hf6 hf7 _ (lv_sub hl [0, 1, 2, 3] rfl)
      · refine tf_tableIn (tgt := 627) hx hb dL_law_33 h4 (by decide) (by decide) (by decide) rfl (by decide) ?_
        exact lc_627 E ax am im kp jj ii hii (by omega) hnx _ _ _ hW hax ham (tt) (uu) ⟨by omega, by omega⟩ ⟨by omega, by omega⟩ hf0 hf1 (tf_eqv hf2 (by omega)) (tf_eqv hf3 (by omega)) him hkp rn rk (by omega) (by omega) hf4 hf5 hf6 hf7 _ (lv_sub hl [0, 1, 2, 3] rfl)
      · refine tf_tableIn (tgt := 650) hx hb dL_law_33 h4 (by decide) (by decide) (by decide) rfl (by decide) ?_
        exact lc_650 E ax am im kp jj ii hii (by omega) hnx _ _ _ hW hax ham (tt) (uu) ⟨by omega, by omega⟩ ⟨by omega, by omega⟩ hf0 hf1 (tf_eqv hf2 (by omega)) (tf_eqv hf3 (by omega)) him hkp rn rk (by omega) (by omega) hf4 hf5 hf6 hf7 _ (lv_sub hl [0, 1, 2, 3] rfl)
      · refine tf_tableIn (tgt := 693) hx hb dL_law_33 h4 (by decide) (by decide) (by decide) rfl (by decide) ?_
        exact lc_693 E ax am im kp jj ii hii (by omega) hnx _ _ _ hW hax ham (tt) (uu) ⟨by omega, by omega⟩ ⟨by omega, by omega⟩ hf0 hf1 (tf_eqv hf2 (by omega)) (tf_eqv hf3 (by omega)) him hkp rn rk (by omega) (by omega) hf4 hf5 hf6 hf7 _ (lv_sub hl [0, 1, 2, 3] rfl)
      · refine tf_tableIn (tgt := 726) hx hb dL_law_33 h4 (by decide) (by decide) (by decide) rfl (by decide) ?_
        exact lc_726 E ax am im kp jj ii hii (by omega) hnx _ _ _ hW hax ham (tt) (uu) ⟨by omega, by omega⟩ ⟨by omega, by omega⟩ hf0 hf1 (tf_eqv hf2 (by omega)) (tf_eqv hf3 (by omega)) him hkp rn rk (by omega) (by omega) hf4 hf5 hf6 hf7 _ (lv_sub hl [0, 1, 2, 3] rfl)
      · refine tf_tableIn (tgt := 749) hx hb dL_law_33 h4 (by decide) (by decide) (by decide) rfl (by decide) ?_
        exact lc_749 E ax am im kp jj ii hii (by omega) hnx _ _ _ hW hax ham (tt) (uu) ⟨by omega, by omega⟩ ⟨by omega, by omega⟩ hf0 hf1 (tf_eqv hf2 (by omega)) (tf_eqv hf3 (by omega)) him hkp rn rk (by omega) (by omega) hf4 hf5 hf6 hf7 _ (lv_sub hl [0, 1, 2, 3] rfl)
      · refine tf_tableIn (tgt := 772) hx hb dL_law_33 h4 (by decide) (by decide) (by decide) rfl (by decide) ?_
        exact lc_772 E ax am im kp jj ii hii (by omega) hnx _ _ _ hW hax ham (tt) (uu) ⟨by omega, by omega⟩ ⟨by omega, by omega⟩ hf0 hf1 (tf_eqv hf2 (by omega)) (tf_eqv hf3 (by omega)) him hkp rn rk (by omega) (by omega) hf4 hf5 hf6 hf7 _ (lv_sub hl [0, 1, 2, 3] rfl)
      · refine tf_tableIn (tgt := 805) hx hb dL_law_33 h4 (by decide) (by decide) (by decide) rfl (by decide) ?_
        exact lc_805 E ax am im kp jj ii hii (by omega) hnx _ _ _ hW hax ham (tt) (uu) ⟨by omega, by omega⟩ ⟨by omega, by omega⟩ hf0 hf1 (tf_eqv hf2 (by omega)) (tf_eqv hf3 (by omega)) him hkp rn rk (by omega) (by omega) hf4 hf5 hf6 hf7 _ (lv_sub hl [0, 1, 2, 3] rfl)
      · refine tf_tableIn (tgt := 828) hx hb dL_law_33 h4 (by decide) (by decide) (by decide) rfl (by decide) ?_
        exact lc_828 E ax am im kp jj ii hii (by omega) hnx _ _ _ hW hax ham (tt) (uu) ⟨by omega, by omega⟩ ⟨by omega, by omega⟩ hf0 hf1 (tf_eqv hf2 (by omega)) (tf_eqv hf3 (by omega)) him hkp rn rk (by omega) (by omega) hf4 hf5 hf6 hf7 _ (lv_sub hl [0, 1, 2, 3] rfl)
      · refine tf_tableIn (tgt := 851) hx hb dL_law_33 h4 (by decide) (by decide) (by decide) rfl (by decide) ?_
        exact lc_851 E ax am im kp jj ii hii (by omega) hnx _ _ _ hW hax ham (tt) (uu) ⟨by omega, by omega⟩ ⟨by omega, by omega⟩ hf0 hf1 (tf_eqv hf2 (by omega)) (tf_eqv hf3 (by omega)) him hkp rn rk (by omega) (by omega) hf4 hf5 hf6 hf7 _ (lv_sub hl [0, 1, 2, 3] rfl)
      · refine tf_tableIn (tgt := 914) hx hb dL_law_33 h4 (by decide) (by decide) (by decide) rfl (by decide) ?_
        exact lc_914 E ax am im kp jj ii hii (by omega) hnx _ _ _ hW hax ham (tt) (uu) ⟨by omega, by omega⟩ ⟨by omega, by omega⟩ hf0 hf1 (tf_eqv hf2 (by omega)) (tf_eqv hf3 (by omega)) him hkp rn rk (by omega) (by omega) hf4 hf5 hf6 hf7 _ (lv_sub hl [0, 1, 2, 3] rfl)
      · refine tf_tableIn (tgt := 967) hx hb dL_law_33 h4 (by decide) (by decide) (by decide) rfl (by decide) ?_
        exact lc_967 E ax am im kp jj ii hii (by omega) hnx _ _ _ hW hax ham (tt) (uu) ⟨by omega, by omega⟩ ⟨by omega, by omega⟩ hf0 hf1 (tf_eqv hf2 (by omega)) (tf_eqv hf3 (by omega)) him hkp rn rk (by omega) (by omega) hf4 hf5 hf6 hf7 _ (lv_sub hl [0, 1, 2, 3] rfl)
      · refine tf_tableIn (tgt := 1020) hx hb dL_law_33 h4 (by decide) (by decide) (by decide) rfl (by decide) ?_
        exact lc_1020 E ax am im kp jj ii hii (by omega) hnx _ _ _ hW hax ham (tt) (uu) ⟨by omega, by omega⟩ ⟨by omega, by omega⟩ hf0 hf1 (tf_eqv hf2 (by omega)) (tf_eqv hf3 (by omega)) him hkp rn rk (by omega) (by omega) hf4 hf5 hf6 hf7 _ (lv_sub hl [0, 1, 2, 3] rfl)
      · refine tf_tableIn (tgt := 1053) hx hb dL_law_33 h4 (by decide) (by decide) (by decide) rfl (by decide) ?_
        exact lc_1053 E ax am im kp jj ii hii (by omega) hnx _ _ _ hW hax ham (tt) (uu) ⟨by omega, by omega⟩ ⟨by omega, by omega⟩ hf0 hf1 (tf_eqv hf2 (by omega)) (tf_eqv hf3 (by omega)) him hkp rn rk (by omega) (by omega) hf4 hf5 hf6 hf7 _ (lv_sub hl [0, 1, 2, 3] rfl)
      · refine tf_tableIn (tgt := 1106) hx hb dL_law_33 h4 (by decide) (by decide) (by decide) rfl (by decide) ?_
        exact lc_1106 E ax am im kp jj ii hii (by omega) hnx _ _ _ hW hax ham (tt) (uu) ⟨by omega, by omega⟩ ⟨by omega, by omega⟩ hf0 hf1 (tf_eqv hf2 (by omega)) (tf_eqv hf3 (by omega)) him hkp rn rk (by omega) (by omega) hf4 hf5 hf6 hf7 _ (lv_sub hl [0, 1, 2, 3] rfl)
      · refine tf_tableIn (tgt := 1129) hx hb dL_law_33 h4 (by decide) (by decide) (by decide) rfl (by decide) ?_
        exact lc_1129 E ax am im kp jj ii hii (by omega) hnx _ _ _ hW hax ham (tt) (uu) ⟨by omega, by omega⟩ ⟨by omega, by omega⟩ hf0 hf1 (tf_eqv hf2 (by omega)) (tf_eqv hf3 (by omega)) him hkp rn rk (by omega) (by omega) hf4 hf5 hf6 hf7 _ (lv_sub hl [0, 1, 2, 3] rfl)
      · refine tf_tableIn (tgt := 1162) hx hb dL_law_33 h4 (by decide) (by decide) (by decide) rfl (by decide) ?_
        exact lc_1162 E ax am im kp jj ii hii (by omega) hnx _ _ _ hW hax ham (tt) (uu) ⟨by omega, by omega⟩ ⟨by omega, by omega⟩ hf0 hf1 (tf_eqv hf2 (by omega)) (tf_eqv hf3 (by omega)) him hkp rn rk (by omega) (by omega) hf4 hf5 hf6 hf7 _ (lv_sub hl [0, 1, 2, 3] rfl)
      · refine tf_tableIn (tgt := 1185) hx hb dL_law_33 h4 (by decide) (by decide) (by decide) rfl (by decide) ?_
        exact lc_1185 E ax am im kp jj ii hii (by omega) hnx _ _ _ hW hax ham (tt) (uu) ⟨by omega, by omega⟩ ⟨by omega, by omega⟩ hf0 hf1 (tf_eqv hf2 (by omega)) (tf_eqv hf3 (by omega)) him hkp rn rk (by omega) (by omega) hf4 hf5 hf6 hf7 _ (lv_sub hl [0, 1, 2, 3] rfl)
      · refine tf_tableIn (tgt := 1208) hx hb dL_law_33 h4 (by decide) (by decide) (by decide) rfl (by decide) ?_
        exact lc_1208 E ax am im kp jj ii hii (by omega) hnx _ _ _ hW hax ham (tt) (uu) ⟨by omega, by omega⟩ ⟨by omega, by omega⟩ hf0 hf1 (tf_eqv hf2 (by omega)) (tf_eqv hf3 (by omega)) him hkp rn rk (by omega) (by omega) hf4 hf5 hf6 hf7 _ (lv_sub hl [0, 1, 2, 3] rfl)
      · refine tf_tableIn (tgt := 1231) hx hb dL_law_33 h4 (by decide) (by decide) (by decide) rfl (by decide) ?_
        exact lc_1231 E ax am im kp jj ii hii (by omega) hnx _ _ _ hW hax ham (tt) (uu) ⟨by omega, by omega⟩ ⟨by omega, by omega⟩ hf0 hf1 (tf_eqv hf2 (by omega)) (tf_eqv hf3 (by omega)) him hkp rn rk (by omega) (by omega) hf4 hf5 hf6 hf7 _ (lv_sub hl [0, 1, 2, 3] rfl)
      · refine tf_tableIn (tgt := 1254) hx hb dL_law_33 h4 (by decide) (by decide) (by decide) rfl (by decide) ?_
        exact lc_1254 E ax am im kp jj ii hii (by omega) hnx _ _ _ hW hax ham (tt) (uu) ⟨by omega, by omega⟩ ⟨by omega, by omega⟩ hf0 hf1 (tf_eqv hf2 (by omega)) (tf_eqv hf3 (by omega)) him hkp rn rk (by omega) (by omega) hf4 hf5 hf6 hf7 _ (lv_sub hl [0, 1, 2, 3] rfl)
      · refine tf_tableIn (tgt := 1297) hx hb dL_law_33 h4 (by decide) (by decide) (by decide) rfl (by decide) ?_
        exact lc_1297 E ax am im kp jj ii hii (by omega) hnx _ _ _ hW hax ham (tt) (uu) ⟨by omega, by omega⟩ ⟨by omega, by omega⟩ hf0 hf1 (tf_eqv hf2 (by omega)) (tf_eqv hf3 (by omega)) him hkp rn rk (by omega) (by omega) hf4 hf5 hf6 hf7 _ (lv_sub hl [0, 1, 2, 3] rfl)
      · refine tf_tableIn (tgt := 1360) hx hb dL_law_33 h4 (by decide) (by decide) (by decide) rfl (by decide) ?_
        exact lc_1360 E ax am im kp jj ii hii (by omega) hnx _ _ _ hW hax ham (tt) (uu) ⟨by omega, by omega⟩ ⟨by omega, by omega⟩ hf0 hf1 (tf_eqv hf2 (by omega)) (tf_eqv hf3 (by omega)) him hkp rn rk (by omega) (by omega) hf4 hf5 hf6 hf7 _ (lv_sub hl [0, 1, 2, 3] rfl)
      · refine tf_tableIn (tgt := 1383) hx hb dL_law_33 h4 (by decide) (by decide) (by decide) rfl (by decide) ?_
        exact lc_1383 E ax am im kp jj ii hii (by omega) hnx _ _ _ hW hax ham (tt) (uu) ⟨by omega, by omega⟩ ⟨by omega, by omega⟩ hf0 hf1 (tf_eqv hf2 (by omega)) (tf_eqv hf3 (by omega)) him hkp rn rk (by omega) (by omega) hf4 hf5 hf6 hf7 _ (lv_sub hl [0, 1, 2, 3] rfl)
      · refine tf_tableIn (tgt := 1416) hx hb dL_law_33 h4 (by decide) (by decide) (by decide) rfl (by decide) ?_
        exact lc_1416 E ax am im kp jj ii hii (by omega) hnx _ _ _ hW hax ham (tt) (uu) ⟨by omega, by omega⟩ ⟨by omega, by omega⟩ hf0 hf1 (tf_eqv hf2 (by omega)) (tf_eqv hf3 (by omega)) him hkp rn rk (by omega) (by omega) hf4 hf5 hf6 hf7 _ (lv_sub hl [0, 1, 2, 3] rfl)
      · refine tf_tableIn (tgt := 1439) hx hb dL_law_33 h4 (by decide) (by decide) (by decide) rfl (by decide) ?_
        exact lc_1439 E ax am im kp jj ii hii (by omega) hnx _ _ _ hW hax ham (tt) (uu) ⟨by omega, by omega⟩ ⟨by omega, by omega⟩ hf0 hf1 (tf_eqv hf2 (by omega)) (tf_eqv hf3 (by omega)) him hkp rn rk (by omega) (by omega) hf4 hf5 hf6 hf7 _ (lv_sub hl [0, 1, 2, 3] rfl)
      · refine tf_tableIn (tgt := 1462) hx hb dL_law_33 h4 (by decide) (by decide) (by decide) rfl (by decide) ?_
        exact lc_1462 E ax am im kp jj ii hii (by omega) hnx _ _ _ hW hax ham (tt) (uu) ⟨by omega, by omega⟩ ⟨by omega, by omega⟩ hf0 hf1 (tf_eqv hf2 (by omega)) (tf_eqv hf3 (by omega)) him hkp rn rk (by omega) (by omega) hf4 hf5 hf6 hf7 _ (lv_sub hl [0, 1, 2, 3] rfl)
      · refine tf_tableIn (tgt := 1485) hx hb dL_law_33 h4 (by decide) (by decide) (by decide) rfl (by decide) ?_
        exact lc_1485 E ax am im kp jj ii hii (by omega) hnx _ _ _ hW hax ham (tt) (uu) ⟨by omega, by omega⟩ ⟨by omega, by omega⟩ hf0 hf1 (tf_eqv hf2 (by omega)) (tf_eqv hf3 (by omega)) him hkp rn rk (by omega) (by omega) hf4 hf5 hf6 hf7 _ (lv_sub hl [0, 1, 2, 3] rfl)
      · exfalso; omega
      · refine tf_tableOut (tgt := 1498) hx hb dL_law_33 ⟨by omega, by omega⟩ (by omega) (by decide) ?_
        refine W.widen (k := 130 + 30 * jj) (n := 31200 + 1200 * jj) (by omega) (by omega) ?_
        exact hnx _ _ _ hW hax ham (tt) (uu) ⟨by omega, by omega⟩ ⟨by omega, by omega⟩ hf0 hf1 (tf_eqv hf2 (by omega)) (tf_eqv hf3 (by omega)) him hkp rn rk (by omega) (by omega) hf4 hf5 hf6 hf7 _ (lv_sub hl [0, 1, 2, 3] rfl)

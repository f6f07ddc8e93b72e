set_option maxHeartbeats 4000000 in
set_option maxRecDepth 100000 in
theorem f_X9_feedOne (l : Launch) (g : tf_G) (T : tf_T) (a0 : Nat) (ha0 : T a0 = some (26, 0)) (x1 : Int) (hp1 : (-2147483648) ≤ x1 ∧ x1 ≤ 2147483647) (t0 : Int) (ht0 : 0 ≤ t0 ∧ t0 ≤ 396) : Met l yX9_feedOne (cd_X9_feedOne :: wsL_law) ({ frames := 1, cells := 0, slots := 0, locals := 24 }) (tf_P g T [.ref a0, .int (Int32.ofInt x1)] (fun H => tf_s H a0 (g.1.2 9 7) = some (.int (Int32.ofInt t0)))) (tf_Qv g M_X9_feedOne T (fun _ H => tf_s H a0 (g.1.2 9 7) = some (.int (Int32.ofInt (t0 + 4))))) 0 0 (fun q => tf_B g ≤ q) := by
  refine Met.ofW (cc := cX9_feedOne) (maxL := 3) (ret := none) (by decide) rfl ?_
  intro p e s m args below meth c s₁ B hml hv
  obtain ⟨hargs, hk, hW0, hB, hpre⟩ := hv
  have he0 := hpre
  have hx := B.exec
  have hb := B.bytes
  have hr := B.returns
  have hts : ∀ w ∈ wsL_law, w.before args s = true := fun w h => atoms_spec (ws := cd_X9_feedOne :: wsL_law) B.pre w (List.mem_cons_of_mem _ h)
  have hown : s.vm.findClass RX9 = some m.cls := findClass_of_methodNamed B.named
  have hlocks := B.notSynchronized
  have hK := hk.1
  have hW := tf_n.start (M := M_X9_feedOne) hW0 hB
  obtain ⟨Q, hQ⟩ : ∃ q, q = MQ below (tf_Qv g M_X9_feedOne T (fun _ H => tf_s H a0 (g.1.2 9 7) = some (.int (Int32.ofInt (t0 + 4))))) args s 0 0 (fun q => tf_B g ≤ q) := ⟨_, rfl⟩
  rw [← hQ]
  obtain ⟨R, hR⟩ : ∃ q, q = (headSpec (cd_X9_feedOne :: wsL_law) ({ frames := 1, cells := 0, slots := 0, locals := 24 })).room := ⟨_, rfl⟩
  rw [← hR]
  have hR1 : 1 ≤ R.frames := by rw [hR]; exact Nat.le_refl _
  have hR2 : 24 ≤ R.locals := by rw [hR]; exact Nat.le_refl _
  have hR3 : 0 ≤ R.cells := by rw [hR]; exact Nat.le_refl _
  have hR4 : 0 ≤ R.slots := by rw [hR]; exact Nat.le_refl _
  have hin := (name_of_methodNamed B.named B.method).1
  clear hR B
  refine tf_enter (As := [.ref a0, .int (Int32.ofInt x1)]) hargs (Nat.le_of_ble_eq_true rfl) (fun ls hl => ?_)
  have hl : lv_has ls 3 [(0, .ref a0), (1, .int (Int32.ofInt x1))] := hl
  refine tf_bipush hx hb dX9_feedOne_0 (by decide) ?_
  refine lv_istore_n (lv' := [(2, .int (Int32.ofInt 24)), (0, .ref a0), (1, .int (Int32.ofInt x1))]) hx hb dX9_feedOne_2 rfl hl (by decide) rfl (fun ls hl => ?_)
  refine lv_iload_n hx hb dX9_feedOne_3 rfl (lv_at hl 0 rfl) ?_
  refine tf_if_lt (tgt := 49) hx hb ⟨by decide, by decide⟩ dX9_feedOne_4 (by decide) (fun h1 => ?_) (fun h1 => ?_)
  · exfalso; omega
  · refine lv_aload_n hx hb dX9_feedOne_7 rfl (lv_at hl 1 rfl) ?_
    refine tf_get hx hb hts inlX9 hown hK (ci := 9) rfl hW ha0 rfl 7 rfl (by decide) (hts _ fl_X9_48) dX9_feedOne_8 (fun v2 hv2 hsv2 => ?_)
    obtain rfl : v2 = .int (Int32.ofInt t0) := Option.some.inj (hsv2.symm.trans he0)
    refine tf_sipush hx hb dX9_feedOne_11 (by decide) ?_
    refine tf_icmp_ge (tgt := 49) hx hb ⟨by omega, by omega⟩ ⟨by decide, by decide⟩ dX9_feedOne_14 (by decide) (fun h3 => ?_) (fun h3 => ?_)
    · exfalso; omega
    · refine lv_aload_n hx hb dX9_feedOne_17 rfl (lv_at hl 1 rfl) ?_
      refine tf_get hx hb hts inlX9 hown hK (ci := 9) rfl hW ha0 rfl 6 rfl (by decide) (hts _ fl_X9_45) dX9_feedOne_18 (fun v4 hv4 hsv4 => ?_)
      obtain ⟨ad5, rfl, had5⟩ := tf_v1 hv4
      refine lv_aload_n hx hb dX9_feedOne_21 rfl (lv_at hl 1 rfl) ?_
      refine tf_get hx hb hts inlX9 hown hK (ci := 9) rfl hW ha0 rfl 7 rfl (by decide) (hts _ fl_X9_48) dX9_feedOne_22 (fun v6 hv6 hsv6 => ?_)
      obtain rfl : v6 = .int (Int32.ofInt t0) := Option.some.inj (hsv6.symm.trans he0)
      refine lv_iload_n hx hb dX9_feedOne_25 rfl (lv_at hl 2 rfl) ?_
      refine lv_iload_n hx hb dX9_feedOne_26 rfl (lv_at hl 0 rfl) ?_
      refine tf_iushr_any hx hb dX9_feedOne_27 (fun z7 hz7 => ?_)
      refine tf_sipush hx hb dX9_feedOne_28 (by decide) ?_
      refine tf_iand_mask hx hb 8 (by decide) (by decide +kernel) dX9_feedOne_31 (fun z8 hz8 kz8 => ?_)
      refine tf_iast (t0 := 0) hx hb hK hW had5 rfl rfl (by omega) (by omega) (by decide) (tf_u0 (by omega) (by omega)) dX9_feedOne_32 (fun H9 locs9 hW hs9 ht9 hq9 => ?_)
      have hs10 := tf_keepQ he0 (hq9 _ (tf_ne ha0 had5 (by decide)))
      have hs11 := tf_keepQ hsv4 (hq9 _ (tf_ne ha0 had5 (by decide)))
      refine lv_aload_n hx hb dX9_feedOne_33 rfl (lv_at hl 1 rfl) ?_
      refine lv_dup hx hb dX9_feedOne_34 rfl ?_
      refine tf_get hx hb hts inlX9 hown hK (ci := 9) rfl hW ha0 rfl 7 rfl (by decide) (hts _ fl_X9_48) dX9_feedOne_35 (fun v12 hv12 hsv12 => ?_)
      obtain rfl : v12 = .int (Int32.ofInt t0) := Option.some.inj (hsv12.symm.trans hs10)
      refine tf_iconst hx hb dX9_feedOne_38 ?_
      refine tf_iadd hx hb dX9_feedOne_39 ?_
      refine tf_put hx hb hts inlX9 tyX9 tyX9_ok nmX9 hown hK (ci := 9) rfl hW ha0 rfl rfl 7 rfl (by decide) (by decide) (hts _ fl_X9_48) rfl (tf_u0 (by omega) (by omega)) rfl rfl dX9_feedOne_40 (fun H13 locs13 hW hs13 ht13 hq13 => ?_)
      have hs14 := (ht13 6 (by decide) (by decide)).trans hs11
      refine lv_iinc (v := Int32.ofInt ((24 + (-8)))) (lv' := [(2, .int (Int32.ofInt ((24 + (-8))))), (0, .ref a0), (1, .int (Int32.ofInt x1))]) hx hb dX9_feedOne_43 hl (k := 0) rfl (Int32.ofInt_add _ _).symm (by decide) rfl (fun ls hl => ?_)
      refine lv_goto (tgt := 3) hx hb dX9_feedOne_46 (by decide) ?_
      refine lv_iload_n hx hb dX9_feedOne_3 rfl (lv_at hl 0 rfl) ?_
      refine tf_if_lt (tgt := 49) hx hb ⟨by decide, by decide⟩ dX9_feedOne_4 (by decide) (fun h15 => ?_) (fun h15 => ?_)
      · exfalso; omega
      · refine lv_aload_n hx hb dX9_feedOne_7 rfl (lv_at hl 1 rfl) ?_
        refine tf_get hx hb hts inlX9 hown hK (ci := 9) rfl hW ha0 rfl 7 rfl (by decide) (hts _ fl_X9_48) dX9_feedOne_8 (fun v16 hv16 hsv16 => ?_)
        obtain rfl : v16 = .int (Int32.ofInt ((t0 + 1))) := Option.some.inj (hsv16.symm.trans hs13)
        refine tf_sipush hx hb dX9_feedOne_11 (by decide) ?_
        refine tf_icmp_ge (tgt := 49) hx hb ⟨by omega, by omega⟩ ⟨by decide, by decide⟩ dX9_feedOne_14 (by decide) (fun h17 => ?_) (fun h17 => ?_)
        · exfalso; omega
        · refine lv_aload_n hx hb dX9_feedOne_17 rfl (lv_at hl 1 rfl) ?_
          refine tf_get hx hb hts inlX9 hown hK (ci := 9) rfl hW ha0 rfl 6 rfl (by decide) (hts _ fl_X9_45) dX9_feedOne_18 (fun v18 hv18 hsv18 => ?_)
          obtain rfl : v18 = .ref ad5 := Option.some.inj (hsv18.symm.trans hs14)
          refine lv_aload_n hx hb dX9_feedOne_21 rfl (lv_at hl 1 rfl) ?_
          refine tf_get hx hb hts inlX9 hown hK (ci := 9) rfl hW ha0 rfl 7 rfl (by decide) (hts _ fl_X9_48) dX9_feedOne_22 (fun v19 hv19 hsv19 => ?_)
          obtain rfl : v19 = .int (Int32.ofInt ((t0 + 1))) := Option.some.inj (hsv19.symm.trans hs13)
          refine lv_iload_n hx hb dX9_feedOne_25 rfl (lv_at hl 2 rfl) ?_
          refine lv_iload_n hx hb dX9_feedOne_26 rfl (lv_at hl 0 rfl) ?_
          refine tf_iushr_any hx hb dX9_feedOne_27 (fun z20 hz20 => ?_)
          refine tf_sipush hx hb dX9_feedOne_28 (by decide) ?_
          refine tf_iand_mask hx hb 8 (by decide) (by decide +kernel) dX9_feedOne_31 (fun z21 hz21 kz21 => ?_)
          refine tf_iast (t0 := 0) hx hb hK hW had5 rfl rfl (by omega) (by omega) (by decide) (tf_u0 (by omega) (by omega)) dX9_feedOne_32 (fun H22 locs22 hW hs22 ht22 hq22 => ?_)
          have hs23 := tf_keepQ hs14 (hq22 _ (tf_ne ha0 had5 (by decide)))
          have hs24 := tf_keepQ hs13 (hq22 _ (tf_ne ha0 had5 (by decide)))
          refine lv_aload_n hx hb dX9_feedOne_33 rfl (lv_at hl 1 rfl) ?_
          refine lv_dup hx hb dX9_feedOne_34 rfl ?_
          refine tf_get hx hb hts inlX9 hown hK (ci := 9) rfl hW ha0 rfl 7 rfl (by decide) (hts _ fl_X9_48) dX9_feedOne_35 (fun v25 hv25 hsv25 => ?_)
          obtain rfl : v25 = .int (Int32.ofInt ((t0 + 1))) := Option.some.inj (hsv25.symm.trans hs24)
          refine tf_iconst hx hb dX9_feedOne_38 ?_
          refine tf_iadd hx hb dX9_feedOne_39 ?_
          refine tf_put hx hb hts inlX9 tyX9 tyX9_ok nmX9 hown hK (ci := 9) rfl hW ha0 rfl rfl 7 rfl (by decide) (by decide) (hts _ fl_X9_48) rfl (tf_u0 (by omega) (by omega)) rfl rfl dX9_feedOne_40 (fun H26 locs26 hW hs26 ht26 hq26 => ?_)
          have hs27 := (ht26 6 (by decide) (by decide)).trans hs23
          refine lv_iinc (v := Int32.ofInt (((24 + (-8)) + (-8)))) (lv' := [(2, .int (Int32.ofInt (((24 + (-8)) + (-8))))), (0, .ref a0), (1, .int (Int32.ofInt x1))]) hx hb dX9_feedOne_43 hl (k := 0) rfl (Int32.ofInt_add _ _).symm (by decide) rfl (fun ls hl => ?_)
          refine lv_goto (tgt := 3) hx hb dX9_feedOne_46 (by decide) ?_
          refine lv_iload_n hx hb dX9_feedOne_3 rfl (lv_at hl 0 rfl) ?_
          refine tf_if_lt (tgt := 49) hx hb ⟨by decide, by decide⟩ dX9_feedOne_4 (by decide) (fun h28 => ?_) (fun h28 => ?_)
          · exfalso; omega
          · refine lv_aload_n hx hb dX9_feedOne_7 rfl (lv_at hl 1 rfl) ?_
            refine tf_get hx hb hts inlX9 hown hK (ci := 9) rfl hW ha0 rfl 7 rfl (by decide) (hts _ fl_X9_48) dX9_feedOne_8 (fun v29 hv29 hsv29 => ?_)
            obtain rfl : v29 = .int (Int32.ofInt (((t0 + 1) + 1))) := Option.some.inj (hsv29.symm.trans hs26)
            refine tf_sipush hx hb dX9_feedOne_11 (by decide) ?_
            refine tf_icmp_ge (tgt := 49) hx hb ⟨by omega, by omega⟩ ⟨by decide, by decide⟩ dX9_feedOne_14 (by decide) (fun h30 => ?_) (fun h30 => ?_)
            · exfalso; omega
            · refine lv_aload_n hx hb dX9_feedOne_17 rfl (lv_at hl 1 rfl) ?_
              refine tf_get hx hb hts inlX9 hown hK (ci := 9) rfl hW ha0 rfl 6 rfl (by decide) (hts _ fl_X9_45) dX9_feedOne_18 (fun v31 hv31 hsv31 => ?_)
              obtain rfl : v31 = .ref ad5 := Option.some.inj (hsv31.symm.trans hs27)
              refine lv_aload_n hx hb dX9_feedOne_21 rfl (lv_at hl 1 rfl) ?_
              refine tf_get hx hb hts inlX9 hown hK (ci := 9) rfl hW ha0 rfl 7 rfl (by decide) (hts _ fl_X9_48) dX9_feedOne_22 (fun v32 hv32 hsv32 => ?_)
              obtain rfl : v32 = .int (Int32.ofInt (((t0 + 1) + 1))) := Option.some.inj (hsv32.symm.trans hs26)
              refine lv_iload_n hx hb dX9_feedOne_25 rfl (lv_at hl 2 rfl) ?_
              refine lv_iload_n hx hb dX9_feedOne_26 rfl (lv_at hl 0 rfl) ?_
              refine tf_iushr_any hx hb dX9_feedOne_27 (fun z33 hz33 => ?_)
              refine tf_sipush hx hb dX9_feedOne_28 (by decide) ?_
              refine tf_iand_mask hx hb 8 (by decide) (by decide +kernel) dX9_feedOne_31 (fun z34 hz34 kz34 => ?_)
              refine tf_iast (t0 := 0) hx hb hK hW had5 rfl rfl (by omega) (by omega) (by decide) (tf_u0 (by omega) (by omega)) dX9_feedOne_32 (fun H35 locs35 hW hs35 ht35 hq35 => ?_)
              have hs36 := tf_keepQ hs27 (hq35 _ (tf_ne ha0 had5 (by decide)))
              have hs37 := tf_keepQ hs26 (hq35 _ (tf_ne ha0 had5 (by decide)))
              refine lv_aload_n hx hb dX9_feedOne_33 rfl (lv_at hl 1 rfl) ?_
              refine lv_dup hx hb dX9_feedOne_34 rfl ?_
              refine tf_get hx hb hts inlX9 hown hK (ci := 9) rfl hW ha0 rfl 7 rfl (by decide) (hts _ fl_X9_48) dX9_feedOne_35 (fun v38 hv38 hsv38 => ?_)
              obtain rfl : v38 = .int (Int32.ofInt (((t0 + 1) + 1))) := Option.some.inj (hsv38.symm.trans hs37)
              refine tf_iconst hx hb dX9_feedOne_38 ?_
              refine tf_iadd hx hb dX9_feedOne_39 ?_
              refine tf_put hx hb hts inlX9 tyX9 tyX9_ok nmX9 hown hK (ci := 9) rfl hW ha0 rfl rfl 7 rfl (by decide) (by decide) (hts _ fl_X9_48) rfl (tf_u0 (by omega) (by omega)) rfl rfl dX9_feedOne_40 (fun H39 locs39 hW hs39 ht39 hq39 => ?_)
              have hs40 := (ht39 6 (by decide) (by decide)).trans hs36
              refine lv_iinc (v := Int32.ofInt ((((24 + (-8)) + (-8)) + (-8)))) (lv' := [(2, .int (Int32.ofInt ((((24 + (-8)) + (-8)) + (-8))))), (0, .ref a0), (1, .int (Int32.ofInt x1))]) hx hb dX9_feedOne_43 hl (k := 0) rfl (Int32.ofInt_add _ _).symm (by decide) rfl (fun ls hl => ?_)
              refine lv_goto (tgt := 3) hx hb dX9_feedOne_46 (by decide) ?_
              refine lv_iload_n hx hb dX9_feedOne_3 rfl (lv_at hl 0 rfl) ?_
              refine tf_if_lt (tgt := 49) hx hb ⟨by decide, by decide⟩ dX9_feedOne_4 (by decide) (fun h41 => ?_) (fun h41 => ?_)
              · exfalso; omega
              · refine lv_aload_n hx hb dX9_feedOne_7 rfl (lv_at hl 1 rfl) ?_
                refine tf_get hx hb hts inlX9 hown hK (ci := 9) rfl hW ha0 rfl 7 rfl (by decide) (hts _ fl_X9_48) dX9_feedOne_8 (fun v42 hv42 hsv42 => ?_)
                obtain rfl : v42 = .int (Int32.ofInt ((((t0 + 1) + 1) + 1))) := Option.some.inj (hsv42.symm.trans hs39)
                refine tf_sipush hx hb dX9_feedOne_11 (by decide) ?_
                refine tf_icmp_ge (tgt := 49) hx hb ⟨by omega, by omega⟩ ⟨by decide, by decide⟩ dX9_feedOne_14 (by decide) (fun h43 => ?_) (fun h43 => ?_)
                · exfalso; omega
                · refine lv_aload_n hx hb dX9_feedOne_17 rfl (lv_at hl 1 rfl) ?_
                  refine tf_get hx hb hts inlX9 hown hK (ci := 9) rfl hW ha0 rfl 6 rfl (by decide) (hts _ fl_X9_45) dX9_feedOne_18 (fun v44 hv44 hsv44 => ?_)
                  obtain rfl : v44 = .ref ad5 := Option.some.inj (hsv44.symm.trans hs40)
                  refine lv_aload_n hx hb dX9_feedOne_21 rfl (lv_at hl 1 rfl) ?_
                  refine tf_get hx hb hts inlX9 hown hK (ci := 9) rfl hW ha0 rfl 7 rfl (by decide) (hts _ fl_X9_48) dX9_feedOne_22 (fun v45 hv45 hsv45 => ?_)
                  obtain rfl : v45 = .int (Int32.ofInt ((((t0 + 1) + 1) + 1))) := Option.some.inj (hsv45.symm.trans hs39)
                  refine lv_iload_n hx hb dX9_feedOne_25 rfl (lv_at hl 2 rfl) ?_
                  refine lv_iload_n hx hb dX9_feedOne_26 rfl (lv_at hl 0 rfl) ?_
                  refine tf_iushr_any hx hb dX9_feedOne_27 (fun z46 hz46 => ?_)
                  refine tf_sipush hx hb dX9_feedOne_28 (by decide) ?_
                  refine tf_iand_mask hx hb 8 (by decide) (by decide +kernel) dX9_feedOne_31 (fun z47 hz47 kz47 => ?_)
                  refine tf_iast (t0 := 0) hx hb hK hW had5 rfl rfl (by omega) (by omega) (by decide) (tf_u0 (by omega) (by omega)) dX9_feedOne_32 (fun H48 locs48 hW hs48 ht48 hq48 => ?_)
                  have hs49 := tf_keepQ hs40 (hq48 _ (tf_ne ha0 had5 (by decide)))
                  have hs50 := tf_keepQ hs39 (hq48 _ (tf_ne ha0 had5 (by decide)))
                  refine lv_aload_n hx hb dX9_feedOne_33 rfl (lv_at hl 1 rfl) ?_
                  refine lv_dup hx hb dX9_feedOne_34 rfl ?_
                  refine tf_get hx hb hts inlX9 hown hK (ci := 9) rfl hW ha0 rfl 7 rfl (by decide) (hts _ fl_X9_48) dX9_feedOne_35 (fun v51 hv51 hsv51 => ?_)
                  obtain rfl : v51 = .int (Int32.ofInt ((((t0 + 1) + 1) + 1))) := Option.some.inj (hsv51.symm.trans hs50)
                  refine tf_iconst hx hb dX9_feedOne_38 ?_
                  refine tf_iadd hx hb dX9_feedOne_39 ?_
                  refine tf_put hx hb hts inlX9 tyX9 tyX9_ok nmX9 hown hK (ci := 9) rfl hW ha0 rfl rfl 7 rfl (by decide) (by decide) (hts _ fl_X9_48) rfl (tf_u0 (by omega) (by omega)) rfl rfl dX9_feedOne_40 (fun H52 locs52 hW hs52 ht52 hq52 => ?_)
                  have hs53 := (ht52 6 (by decide) (by decide)).trans hs49
                  refine lv_iinc (v := Int32.ofInt (((((24 + (-8)) + (-8)) + (-8)) + (-8)))) (lv' := [(2, .int (Int32.ofInt (((((24 + (-8)) + (-8)) + (-8)) + (-8))))), (0, .ref a0), (1, .int (Int32.ofInt x1))]) hx hb dX9_feedOne_43 hl (k := 0) rfl (Int32.ofInt_add _ _).symm (by decide) rfl (fun ls hl => ?_)
                  refine lv_goto (tgt := 3) hx hb dX9_feedOne_46 (by decide) ?_
                  refine lv_iload_n hx hb dX9_feedOne_3 rfl (lv_at hl 0 rfl) ?_
                  refine tf_if_lt (tgt := 49) hx hb ⟨by decide, by decide⟩ dX9_feedOne_4 (by decide) (fun h54 => ?_) (fun h54 => ?_)
                  · exact tf_retv hx hb hr hlocks hQ hW (tf_eqv hs52 (by omega)) dX9_feedOne_49
                  · exfalso; omega

set_option maxHeartbeats 4000000 in
set_option maxRecDepth 100000 in
theorem f_X9_feed (l : Launch) (g : tf_G) (T : tf_T) (a0 : Nat) (ha0 : T a0 = some (26, 0)) (x1 : Int) (hp1 : (-2147483648) ≤ x1 ∧ x1 ≤ 2147483647) (x2 : Int) (hp2 : (-2147483648) ≤ x2 ∧ x2 ≤ 2147483647) (x3 : Int) (hp3 : (-2147483648) ≤ x3 ∧ x3 ≤ 2147483647) (x4 : Int) (hp4 : (-2147483648) ≤ x4 ∧ x4 ≤ 2147483647) (x5 : Int) (hp5 : (-2147483648) ≤ x5 ∧ x5 ≤ 2147483647) (t0 : Int) (ht0 : 0 ≤ t0 ∧ t0 ≤ 400) : Met l yX9_feed (cd_X9_feed :: wsL_law) ({ frames := 2, cells := 0, slots := 0, locals := 46 }) (tf_P g T [.ref a0, .int (Int32.ofInt x1), .int (Int32.ofInt x2), .int (Int32.ofInt x3), .int (Int32.ofInt x4), .int (Int32.ofInt x5)] (fun H => tf_s H a0 (g.1.2 9 7) = some (.int (Int32.ofInt t0)))) (tf_Qi g M_X9_feed T (fun z _ H => (-2147483648) ≤ z ∧ z ≤ 2147483647 ∧ (∃ (t1 : Int) , tf_s H a0 (g.1.2 9 7) = some (.int (Int32.ofInt t1)) ∧ (0 ≤ t1 ∧ t1 ≤ 400) ∧ ((400 < t0 + 20 ∧ z = -1 ∧ t1 = t0) ∨ (t0 + 20 ≤ 400 ∧ z = t0 + 20 ∧ t1 = t0 + 20))))) 0 0 (fun q => tf_B g ≤ q) := by
  refine Met.ofW (cc := cX9_feed) (maxL := 6) (ret := (some .int)) (by decide) rfl ?_
  intro p e s m args below meth c s₁ B hml hv
  obtain ⟨hargs, hk, hW0, hB, hpre⟩ := hv
  have he0 := hpre
  have hx := B.exec
  have hb := B.bytes
  have hr := B.returns
  have hts : ∀ w ∈ wsL_law, w.before args s = true := fun w h => atoms_spec (ws := cd_X9_feed :: wsL_law) B.pre w (List.mem_cons_of_mem _ h)
  have hown : s.vm.findClass RX9 = some m.cls := findClass_of_methodNamed B.named
  have hlocks := B.notSynchronized
  have hK := hk.1
  have hW := tf_n.start (M := M_X9_feed) hW0 hB
  obtain ⟨Q, hQ⟩ : ∃ q, q = MQ below (tf_Qi g M_X9_feed T (fun z _ H => (-2147483648) ≤ z ∧ z ≤ 2147483647 ∧ (∃ (t1 : Int) , tf_s H a0 (g.1.2 9 7) = some (.int (Int32.ofInt t1)) ∧ (0 ≤ t1 ∧ t1 ≤ 400) ∧ ((400 < t0 + 20 ∧ z = -1 ∧ t1 = t0) ∨ (t0 + 20 ≤ 400 ∧ z = t0 + 20 ∧ t1 = t0 + 20))))) args s 0 0 (fun q => tf_B g ≤ q) := ⟨_, rfl⟩
  rw [← hQ]
  obtain ⟨R, hR⟩ : ∃ q, q = (headSpec (cd_X9_feed :: wsL_law) ({ frames := 2, cells := 0, slots := 0, locals := 46 })).room := ⟨_, rfl⟩
  rw [← hR]
  have hR1 : 2 ≤ R.frames := by rw [hR]; exact Nat.le_refl _
  have hR2 : 46 ≤ R.locals := by rw [hR]; exact Nat.le_refl _
  have hR3 : 0 ≤ R.cells := by rw [hR]; exact Nat.le_refl _
  have hR4 : 0 ≤ R.slots := by rw [hR]; exact Nat.le_refl _
  have hin := (name_of_methodNamed B.named B.method).1
  clear hR B
  refine tf_enter (As := [.ref a0, .int (Int32.ofInt x1), .int (Int32.ofInt x2), .int (Int32.ofInt x3), .int (Int32.ofInt x4), .int (Int32.ofInt x5)]) hargs (Nat.le_of_ble_eq_true rfl) (fun ls hl => ?_)
  have hl : lv_has ls 6 [(0, .ref a0), (1, .int (Int32.ofInt x1)), (2, .int (Int32.ofInt x2)), (3, .int (Int32.ofInt x3)), (4, .int (Int32.ofInt x4)), (5, .int (Int32.ofInt x5))] := hl
  refine lv_aload_n hx hb dX9_feed_0 rfl (lv_at hl 0 rfl) ?_
  refine tf_get hx hb hts inlX9 hown hK (ci := 9) rfl hW ha0 rfl 7 rfl (by decide) (hts _ fl_X9_48) dX9_feed_1 (fun v1 hv1 hsv1 => ?_)
  obtain rfl : v1 = .int (Int32.ofInt t0) := Option.some.inj (hsv1.symm.trans he0)
  refine tf_bipush hx hb dX9_feed_4 (by decide) ?_
  refine tf_iadd hx hb dX9_feed_6 ?_
  refine tf_sipush hx hb dX9_feed_7 (by decide) ?_
  refine tf_icmp_le (tgt := 15) hx hb ⟨by omega, by omega⟩ ⟨by decide, by decide⟩ dX9_feed_10 (by decide) (fun h2 => ?_) (fun h2 => ?_)
  · refine lv_aload_n hx hb dX9_feed_15 rfl (lv_at hl 0 rfl) ?_
    refine lv_iload_n hx hb dX9_feed_16 rfl (lv_at hl 1 rfl) ?_
    refine tf_callv (va_runV (As := [.int (Int32.ofInt x1)]) (rest := []) ⟨hx, hb, hml, hown, hts⟩ (f_X9_feedOne l g T a0 ha0 (x1) ⟨by omega, by omega⟩ (t0) ⟨by omega, by omega⟩) (cwV 1 hts gv_X9_150 rfl rfl rfl hd_X9_feedOne ⟨Nat.le_trans (by decide) hR1, Nat.le_trans (by decide) hR2⟩) (tf_preV hk hW ha0 (ci := 9) rfl rfl he0) rfl rfl hl.1 rfl (lv_room (Nat.le_of_ble_eq_true rfl)) dX9_feed_17 ⟨Nat.zero_le _, Nat.zero_le _⟩) hW (by decide) (fun H3 locs3 hW hF3 hp3 => ?_)
    have ho3_0 := hp3
    refine lv_aload_n hx hb dX9_feed_20 rfl (lv_at hl 0 rfl) ?_
    refine lv_iload_n hx hb dX9_feed_21 rfl (lv_at hl 2 rfl) ?_
    refine tf_callv (va_runV (As := [.int (Int32.ofInt x2)]) (rest := []) ⟨hx, hb, hml, hown, hts⟩ (f_X9_feedOne l g T a0 ha0 (x2) ⟨by omega, by omega⟩ ((t0 + 4)) ⟨by omega, by omega⟩) (cwV 1 hts gv_X9_150 rfl rfl rfl hd_X9_feedOne ⟨Nat.le_trans (by decide) hR1, Nat.le_trans (by decide) hR2⟩) (tf_preV hk hW ha0 (ci := 9) rfl rfl ho3_0) rfl rfl hl.1 rfl (lv_room (Nat.le_of_ble_eq_true rfl)) dX9_feed_22 ⟨Nat.zero_le _, Nat.zero_le _⟩) hW (by decide) (fun H4 locs4 hW hF4 hp4 => ?_)
    have ho4_0 := hp4
    refine lv_aload_n hx hb dX9_feed_25 rfl (lv_at hl 0 rfl) ?_
    refine lv_iload_n hx hb dX9_feed_26 rfl (lv_at hl 3 rfl) ?_
    refine tf_callv (va_runV (As := [.int (Int32.ofInt x3)]) (rest := []) ⟨hx, hb, hml, hown, hts⟩ (f_X9_feedOne l g T a0 ha0 (x3) ⟨by omega, by omega⟩ (((t0 + 4) + 4)) ⟨by omega, by omega⟩) (cwV 1 hts gv_X9_150 rfl rfl rfl hd_X9_feedOne ⟨Nat.le_trans (by decide) hR1, Nat.le_trans (by decide) hR2⟩) (tf_preV hk hW ha0 (ci := 9) rfl rfl ho4_0) rfl rfl hl.1 rfl (lv_room (Nat.le_of_ble_eq_true rfl)) dX9_feed_27 ⟨Nat.zero_le _, Nat.zero_le _⟩) hW (by decide) (fun H5 locs5 hW hF5 hp5 => ?_)
    have ho5_0 := hp5
    refine lv_aload_n hx hb dX9_feed_30 rfl (lv_at hl 0 rfl) ?_
    refine lv_iload hx hb dX9_feed_31 (lv_at hl 4 rfl) ?_
    refine tf_callv (va_runV (As := [.int (Int32.ofInt x4)]) (rest := []) ⟨hx, hb, hml, hown, hts⟩ (f_X9_feedOne l g T a0 ha0 (x4) ⟨by omega, by omega⟩ ((((t0 + 4) + 4) + 4)) ⟨by omega, by omega⟩) (cwV 1 hts gv_X9_150 rfl rfl rfl hd_X9_feedOne ⟨Nat.le_trans (by decide) hR1, Nat.le_trans (by decide) hR2⟩) (tf_preV hk hW ha0 (ci := 9) rfl rfl ho5_0) rfl rfl hl.1 rfl (lv_room (Nat.le_of_ble_eq_true rfl)) dX9_feed_33 ⟨Nat.zero_le _, Nat.zero_le _⟩) hW (by decide) (fun H6 locs6 hW hF6 hp6 => ?_)
    have ho6_0 := hp6
    refine lv_aload_n hx hb dX9_feed_36 rfl (lv_at hl 0 rfl) ?_
    refine lv_iload hx hb dX9_feed_37 (lv_at hl 5 rfl) ?_
    refine tf_callv (va_runV (As := [.int (Int32.ofInt x5)]) (rest := []) ⟨hx, hb, hml, hown, hts⟩ (f_X9_feedOne l g T a0 ha0 (x5) ⟨by omega, by omega⟩ (((((t0 + 4) + 4) + 4) + 4)) ⟨by omega, by omega⟩) (cwV 1 hts gv_X9_150 rfl rfl rfl hd_X9_feedOne ⟨Nat.le_trans (by decide) hR1, Nat.le_trans (by decide) hR2⟩) (tf_preV hk hW ha0 (ci := 9) rfl rfl ho6_0) rfl rfl hl.1 rfl (lv_room (Nat.le_of_ble_eq_true rfl)) dX9_feed_39 ⟨Nat.zero_le _, Nat.zero_le _⟩) hW (by decide) (fun H7 locs7 hW hF7 hp7 => ?_)
    have ho7_0 := hp7
    refine lv_aload_n hx hb dX9_feed_42 rfl (lv_at hl 0 rfl) ?_
    refine tf_get hx hb hts inlX9 hown hK (ci := 9) rfl hW ha0 rfl 7 rfl (by decide) (hts _ fl_X9_48) dX9_feed_43 (fun v8 hv8 hsv8 => ?_)
    obtain rfl : v8 = .int (Int32.ofInt ((((((t0 + 4) + 4) + 4) + 4) + 4))) := Option.some.inj (hsv8.symm.trans ho7_0)
    exact tf_reti (z := (((((t0 + 4) + 4) + 4) + 4) + 4)) hx hb hr hlocks hQ hW ⟨by omega, by omega, ⟨((((((t0 + 4) + 4) + 4) + 4) + 4)), ho7_0, ⟨by omega, by omega⟩, (by first | omega | assumption)⟩⟩ dX9_feed_46
  · refine tf_iconst hx hb dX9_feed_13 ?_
    exact tf_reti (z := (-1)) hx hb hr hlocks hQ hW ⟨by omega, by omega, ⟨(t0), he0, ⟨by omega, by omega⟩, (by first | omega | assumption)⟩⟩ dX9_feed_14

set_option maxHeartbeats 4000000 in
set_option maxRecDepth 100000 in
theorem f_X9_end (l : Launch) (g : tf_G) (T : tf_T) (a0 : Nat) (ha0 : T a0 = some (26, 0)) (x1 : Int) (hp1 : (-2147483648) ≤ x1 ∧ x1 ≤ 2147483647) (t0 : Int) (ht0 : 0 ≤ t0 ∧ t0 ≤ 400) : Met l yX9_end (cd_X9_end :: wsL_law) ({ frames := 2, cells := 0, slots := 0, locals := 46 }) (tf_P g T [.ref a0, .int (Int32.ofInt x1)] (fun H => tf_s H a0 (g.1.2 9 7) = some (.int (Int32.ofInt t0)))) (tf_Qi g M_X9_end T (fun z _ H => (-2147483648) ≤ z ∧ z ≤ 2147483647 ∧ (∃ (t1 : Int) , tf_s H a0 (g.1.2 9 7) = some (.int (Int32.ofInt t1)) ∧ (0 ≤ t1 ∧ t1 ≤ 400) ∧ ((0 ≤ x1 ∧ x1 ≤ t0 ∧ z = x1 ∧ t1 = x1) ∨ ((x1 < 0 ∨ t0 < x1) ∧ z = -1 ∧ t1 = t0))))) 0 0 (fun q => tf_B g ≤ q) := by
  refine Met.ofW (cc := cX9_end) (maxL := 2) (ret := (some .int)) (by decide) rfl ?_
  intro p e s m args below meth c s₁ B hml hv
  obtain ⟨hargs, hk, hW0, hB, hpre⟩ := hv
  have he0 := hpre
  have hx := B.exec
  have hb := B.bytes
  have hr := B.returns
  have hts : ∀ w ∈ wsL_law, w.before args s = true := fun w h => atoms_spec (ws := cd_X9_end :: wsL_law) B.pre w (List.mem_cons_of_mem _ h)
  have hown : s.vm.findClass RX9 = some m.cls := findClass_of_methodNamed B.named
  have hlocks := B.notSynchronized
  have hK := hk.1
  have hW := tf_n.start (M := M_X9_end) hW0 hB
  obtain ⟨Q, hQ⟩ : ∃ q, q = MQ below (tf_Qi g M_X9_end T (fun z _ H => (-2147483648) ≤ z ∧ z ≤ 2147483647 ∧ (∃ (t1 : Int) , tf_s H a0 (g.1.2 9 7) = some (.int (Int32.ofInt t1)) ∧ (0 ≤ t1 ∧ t1 ≤ 400) ∧ ((0 ≤ x1 ∧ x1 ≤ t0 ∧ z = x1 ∧ t1 = x1) ∨ ((x1 < 0 ∨ t0 < x1) ∧ z = -1 ∧ t1 = t0))))) args s 0 0 (fun q => tf_B g ≤ q) := ⟨_, rfl⟩
  rw [← hQ]
  obtain ⟨R, hR⟩ : ∃ q, q = (headSpec (cd_X9_end :: wsL_law) ({ frames := 2, cells := 0, slots := 0, locals := 46 })).room := ⟨_, rfl⟩
  rw [← hR]
  have hR1 : 2 ≤ R.frames := by rw [hR]; exact Nat.le_refl _
  have hR2 : 46 ≤ R.locals := by rw [hR]; exact Nat.le_refl _
  have hR3 : 0 ≤ R.cells := by rw [hR]; exact Nat.le_refl _
  have hR4 : 0 ≤ R.slots := by rw [hR]; exact Nat.le_refl _
  have hin := (name_of_methodNamed B.named B.method).1
  clear hR B
  refine tf_enter (As := [.ref a0, .int (Int32.ofInt x1)]) hargs (Nat.le_of_ble_eq_true rfl) (fun ls hl => ?_)
  have hl : lv_has ls 2 [(0, .ref a0), (1, .int (Int32.ofInt x1))] := hl
  refine lv_iload_n hx hb dX9_end_0 rfl (lv_at hl 1 rfl) ?_
  refine tf_iconst hx hb dX9_end_1 ?_
  refine lv_aload_n hx hb dX9_end_2 rfl (lv_at hl 0 rfl) ?_
  refine tf_get hx hb hts inlX9 hown hK (ci := 9) rfl hW ha0 rfl 7 rfl (by decide) (hts _ fl_X9_48) dX9_end_3 (fun v1 hv1 hsv1 => ?_)
  obtain rfl : v1 = .int (Int32.ofInt t0) := Option.some.inj (hsv1.symm.trans he0)
  refine tf_calli (va_runS (As := [.int (Int32.ofInt x1), .int (Int32.ofInt 0), .int (Int32.ofInt t0)]) (rest := []) ⟨hx, hb, hml, hown, hts⟩ (c_X9_isWithin l g T (x1) ⟨by omega, by omega⟩ (0) ⟨by omega, by omega⟩ (t0) ⟨by omega, by omega⟩) ⟨callB_of 3 hts (gw_ws cm_X9_isWithin) rfl rfl rfl (hts _ (tw1 (i := 2) rfl)) (hts _ (tw9 (i := 19) rfl)) hd_X9_isWithin.2 ⟨Nat.le_trans (by decide) hR1, Nat.le_trans (by decide) hR2⟩, hts _ (tw8 (i := 17) rfl)⟩ (tf_preS hk hW trivial) rfl rfl hl.1 rfl (lv_room (Nat.le_of_ble_eq_true rfl)) dX9_end_6 ⟨Nat.zero_le _, Nat.zero_le _⟩) hW (by decide) (fun z2 H2 locs2 hW hF2 hp2 => ?_)
  have hs3 := tf_keepF hF2 ha0 rfl rfl (by decide) he0
  rcases hp2 with ⟨rfl, h4, h5⟩ | ⟨rfl, h6⟩
  · refine tf_if_ne (tgt := 14) hx hb ⟨by decide, by decide⟩ dX9_end_9 (by decide) (fun h7 => ?_) (fun h7 => ?_)
    · refine lv_aload_n hx hb dX9_end_14 rfl (lv_at hl 0 rfl) ?_
      refine lv_iload_n hx hb dX9_end_15 rfl (lv_at hl 1 rfl) ?_
      refine tf_put hx hb hts inlX9 tyX9 tyX9_ok nmX9 hown hK (ci := 9) rfl hW ha0 rfl rfl 7 rfl (by decide) (by decide) (hts _ fl_X9_48) rfl (tf_u0 (by omega) (by omega)) rfl rfl dX9_end_16 (fun H8 locs8 hW hs8 ht8 hq8 => ?_)
      refine lv_iload_n hx hb dX9_end_19 rfl (lv_at hl 1 rfl) ?_
      exact tf_reti (z := x1) hx hb hr hlocks hQ hW ⟨by omega, by omega, ⟨(x1), hs8, ⟨by omega, by omega⟩, (by first | omega | assumption)⟩⟩ dX9_end_20
    · exfalso; omega
  · refine tf_if_ne (tgt := 14) hx hb ⟨by decide, by decide⟩ dX9_end_9 (by decide) (fun h9 => ?_) (fun h9 => ?_)
    · exfalso; omega
    · refine tf_iconst hx hb dX9_end_12 ?_
      exact tf_reti (z := (-1)) hx hb hr hlocks hQ hW ⟨by omega, by omega, ⟨(t0), hs3, ⟨by omega, by omega⟩, (by first | omega | assumption)⟩⟩ dX9_end_13

set_option maxHeartbeats 4000000 in
set_option maxRecDepth 100000 in
theorem f_X9_row (l : Launch) (g : tf_G) (T : tf_T) (a0 : Nat) (ha0 : T a0 = some (26, 0)) (t0 : Int) (ht0 : 0 ≤ t0 ∧ t0 ≤ 400) (u0 : Int) (hu0 : (-2147483648) ≤ u0 ∧ u0 ≤ 2147483647) : Met l yX9_row (cd_X9_row :: wsL_law) ({ frames := 3, cells := 0, slots := 0, locals := 68 }) (tf_P g T [.ref a0] (fun H => tf_s H a0 (g.1.2 9 7) = some (.int (Int32.ofInt t0)) ∧ tf_s H a0 (g.1.2 9 8) = some (.int (Int32.ofInt u0)))) (tf_Qi g M_X9_row T (fun z _ H => (-2147483648) ≤ z ∧ z ≤ 2147483647 ∧ (∃ (t1 u1 : Int) , tf_s H a0 (g.1.2 9 7) = some (.int (Int32.ofInt t1)) ∧ tf_s H a0 (g.1.2 9 8) = some (.int (Int32.ofInt u1)) ∧ (0 ≤ t1 ∧ t1 ≤ 400) ∧ ((-2147483648) ≤ u1 ∧ u1 ≤ 2147483647) ∧ ((t0 = 0 ∧ t1 = 0 ∧ u1 = u0) ∨ (t0 ≠ 0 ∧ t1 = 0 ∧ ((80 ≤ t0 ∧ u1 = t0 - 80) ∨ (t0 < 80 ∧ u1 = t0 % 2))))))) 0 0 (fun q => tf_B g ≤ q) := by
  refine Met.ofW (cc := cX9_row) (maxL := 4) (ret := (some .int)) (by decide) rfl ?_
  intro p e s m args below meth c s₁ B hml hv
  obtain ⟨hargs, hk, hW0, hB, hpre⟩ := hv
  obtain ⟨he0, he1⟩ := hpre
  have hx := B.exec
  have hb := B.bytes
  have hr := B.returns
  have hts : ∀ w ∈ wsL_law, w.before args s = true := fun w h => atoms_spec (ws := cd_X9_row :: wsL_law) B.pre w (List.mem_cons_of_mem _ h)
  have hown : s.vm.findClass RX9 = some m.cls := findClass_of_methodNamed B.named
  have hlocks := B.notSynchronized
  have hK := hk.1
  have hW := tf_n.start (M := M_X9_row) hW0 hB
  obtain ⟨Q, hQ⟩ : ∃ q, q = MQ below (tf_Qi g M_X9_row T (fun z _ H => (-2147483648) ≤ z ∧ z ≤ 2147483647 ∧ (∃ (t1 u1 : Int) , tf_s H a0 (g.1.2 9 7) = some (.int (Int32.ofInt t1)) ∧ tf_s H a0 (g.1.2 9 8) = some (.int (Int32.ofInt u1)) ∧ (0 ≤ t1 ∧ t1 ≤ 400) ∧ ((-2147483648) ≤ u1 ∧ u1 ≤ 2147483647) ∧ ((t0 = 0 ∧ t1 = 0 ∧ u1 = u0) ∨ (t0 ≠ 0 ∧ t1 = 0 ∧ ((80 ≤ t0 ∧ u1 = t0 - 80) ∨ (t0 < 80 ∧ u1 = t0 % 2))))))) args s 0 0 (fun q => tf_B g ≤ q) := ⟨_, rfl⟩
  rw [← hQ]
  obtain ⟨R, hR⟩ : ∃ q, q = (headSpec (cd_X9_row :: wsL_law) ({ frames := 3, cells := 0, slots := 0, locals := 68 })).room := ⟨_, rfl⟩
  rw [← hR]
  have hR1 : 3 ≤ R.frames := by rw [hR]; exact Nat.le_refl _
  have hR2 : 68 ≤ R.locals := by rw [hR]; exact Nat.le_refl _
  have hR3 : 0 ≤ R.cells := by rw [hR]; exact Nat.le_refl _
  have hR4 : 0 ≤ R.slots := by rw [hR]; exact Nat.le_refl _
  have hin := (name_of_methodNamed B.named B.method).1
  clear hR B
  have j_28 : ∀ (n_28 : Nat), ∀ (x1_28 : Int), 0 ≤ x1_28 ∧ x1_28 ≤ 40 → ∀ (x2_28 : Int), 0 ≤ x2_28 ∧ x2_28 ≤ 40 → ((x1_28 = 40 ∧ 80 ≤ t0) ∨ (x1_28 = t0 / 2 ∧ t0 < 82)) → (t0 ≠ 0) → (40 - x2_28 + 1 ≤ (n_28 : Int)) → ∀ (H : Heap) (locs : List Loc), tf_n tf_kt g M_X9_row T s.heap T H locs → tf_s H a0 (g.1.2 9 7) = some (.int (Int32.ofInt t0)) → ∀ (ls : Array Slot), lv_has ls 4 [(0, .ref a0), (1, .int (Int32.ofInt x1_28)), (2, .int (Int32.ofInt x2_28))] → W p l e R s m args below meth c H locs 0 0 Q (F0 m 28 ls []) := by
    intro n_28
    induction n_28 with
    | zero =>
      intro x1_28 hx1_28 x2_28 hx2_28 hi0_28 hi1_28 hm_28
      exfalso; omega
    | succ n_28 ih_28 =>
      intro x1_28 hx1_28 x2_28 hx2_28 hi0_28 hi1_28 hm_28 H locs hW hs7_28 ls hl
      refine lv_iload_n hx hb dX9_row_28 rfl (lv_at hl 2 rfl) ?_
      refine lv_iload_n hx hb dX9_row_29 rfl (lv_at hl 1 rfl) ?_
      refine tf_icmp_ge (tgt := 86) hx hb ⟨by omega, by omega⟩ ⟨by omega, by omega⟩ dX9_row_30 (by decide) (fun h1 => ?_) (fun h1 => ?_)
      · refine lv_aload_n hx hb dX9_row_86 rfl (lv_at hl 0 rfl) ?_
        refine lv_aload_n hx hb dX9_row_87 rfl (lv_at hl 0 rfl) ?_
        refine tf_get hx hb hts inlX9 hown hK (ci := 9) rfl hW ha0 rfl 7 rfl (by decide) (hts _ fl_X9_48) dX9_row_88 (fun v2 hv2 hsv2 => ?_)
        obtain rfl : v2 = .int (Int32.ofInt t0) := Option.some.inj (hsv2.symm.trans hs7_28)
        refine tf_iconst hx hb dX9_row_91 ?_
        refine lv_iload_n hx hb dX9_row_92 rfl (lv_at hl 1 rfl) ?_
        refine tf_imul hx hb dX9_row_93 ?_
        refine tf_isub hx hb dX9_row_94 ?_
        refine tf_put hx hb hts inlX9 tyX9 tyX9_ok nmX9 hown hK (ci := 9) rfl hW ha0 rfl rfl 8 rfl (by decide) (by decide) (hts _ fl_X9_52) rfl (tf_u0 (by omega) (by omega)) rfl rfl dX9_row_95 (fun H3 locs3 hW hs3 ht3 hq3 => ?_)
        have hs4 := (ht3 7 (by decide) (by decide)).trans hs7_28
        refine lv_aload_n hx hb dX9_row_98 rfl (lv_at hl 0 rfl) ?_
        refine tf_iconst hx hb dX9_row_99 ?_
        refine tf_put hx hb hts inlX9 tyX9 tyX9_ok nmX9 hown hK (ci := 9) rfl hW ha0 rfl rfl 7 rfl (by decide) (by decide) (hts _ fl_X9_48) rfl (tf_u0 (by omega) (by omega)) rfl rfl dX9_row_100 (fun H5 locs5 hW hs5 ht5 hq5 => ?_)
        have hs6 := (ht5 8 (by decide) (by decide)).trans hs3
        refine lv_aload_n hx hb dX9_row_103 rfl (lv_at hl 0 rfl) ?_
        refine lv_aload_n hx hb dX9_row_104 rfl (lv_at hl 0 rfl) ?_
        refine tf_get hx hb hts inlX9 hown hK (ci := 9) rfl hW ha0 rfl 0 rfl (by decide) (hts _ fl_X9_10) dX9_row_105 (fun v7 hv7 hsv7 => ?_)
        obtain ⟨ad8, rfl, had8⟩ := tf_v1 hv7
        refine tf_calli (va_runV (As := []) (rest := [.ref a0]) ⟨hx, hb, hml, hown, hts⟩ (c_X3_allHours l g T ad8 had8) (cwV 0 hts gv_X9_160 rfl rfl rfl hd_X3_allHours ⟨Nat.le_trans (by decide) hR1, Nat.le_trans (by decide) hR2⟩) (tf_preV hk hW had8 (ci := 3) rfl rfl trivial) rfl rfl hl.1 rfl (lv_room (Nat.le_of_ble_eq_true rfl)) dX9_row_108 ⟨Nat.zero_le _, Nat.zero_le _⟩) hW (by decide) (fun z9 H9 locs9 hW hF9 hp9 => ?_)
        have hs10 := tf_keepF hF9 ha0 rfl rfl (by decide) hs6
        have hs11 := tf_keepF hF9 ha0 rfl rfl (by decide) hs5
        obtain ⟨hp9_0, hp9_1⟩ := hp9
        refine tf_calli (va_runV (As := [.int (Int32.ofInt z9)]) (rest := []) ⟨hx, hb, hml, hown, hts⟩ (c_X9_accept l g T a0 ha0 (z9) ⟨by omega, by omega⟩) (cwV 1 hts gv_X9_99 rfl rfl rfl hd_X9_accept ⟨Nat.le_trans (by decide) hR1, Nat.le_trans (by decide) hR2⟩) (tf_preV hk hW ha0 (ci := 9) rfl rfl trivial) rfl rfl hl.1 rfl (lv_room (Nat.le_of_ble_eq_true rfl)) dX9_row_111 ⟨Nat.zero_le _, Nat.zero_le _⟩) hW (by decide) (fun z12 H12 locs12 hW hF12 hp12 => ?_)
        have hs13 := tf_keepF hF12 ha0 rfl rfl (by decide) hs10
        have hs14 := tf_keepF hF12 ha0 rfl rfl (by decide) hs11
        obtain ⟨hp12_0, hp12_1, hp12_2⟩ := hp12
        exact tf_reti (z := z12) hx hb hr hlocks hQ hW ⟨by omega, by omega, ⟨(0), ((t0 - (2 * x1_28))), hs14, hs13, ⟨by omega, by omega⟩, ⟨by omega, by omega⟩, (by first | omega | assumption)⟩⟩ dX9_row_114
      · refine lv_aload_n hx hb dX9_row_33 rfl (lv_at hl 0 rfl) ?_
        refine tf_get hx hb hts inlX9 hown hK (ci := 9) rfl hW ha0 rfl 6 rfl (by decide) (hts _ fl_X9_45) dX9_row_34 (fun v15 hv15 hsv15 => ?_)
        obtain ⟨ad16, rfl, had16⟩ := tf_v1 hv15
        refine tf_iconst hx hb dX9_row_37 ?_
        refine lv_iload_n hx hb dX9_row_38 rfl (lv_at hl 2 rfl) ?_
        refine tf_imul hx hb dX9_row_39 ?_
        refine tf_iald (t0 := 0) hx hb hK hW had16 rfl rfl (by omega) (by omega) dX9_row_40 (fun v17 hv17 hsv17 => ?_)
        obtain ⟨z18, rfl, hz18⟩ := tf_v0 hv17
        refine tf_sipush hx hb dX9_row_41 (by decide) ?_
        refine tf_imul hx hb dX9_row_44 ?_
        refine lv_aload_n hx hb dX9_row_45 rfl (lv_at hl 0 rfl) ?_
        refine tf_get hx hb hts inlX9 hown hK (ci := 9) rfl hW ha0 rfl 6 rfl (by decide) (hts _ fl_X9_45) dX9_row_46 (fun v19 hv19 hsv19 => ?_)
        obtain rfl : v19 = .ref ad16 := Option.some.inj (hsv19.symm.trans hsv15)
        refine tf_iconst hx hb dX9_row_49 ?_
        refine lv_iload_n hx hb dX9_row_50 rfl (lv_at hl 2 rfl) ?_
        refine tf_imul hx hb dX9_row_51 ?_
        refine tf_iconst hx hb dX9_row_52 ?_
        refine tf_iadd hx hb dX9_row_53 ?_
        refine tf_iald (t0 := 0) hx hb hK hW had16 rfl rfl (by omega) (by omega) dX9_row_54 (fun v20 hv20 hsv20 => ?_)
        obtain ⟨z21, rfl, hz21⟩ := tf_v0 hv20
        refine tf_iadd hx hb dX9_row_55 ?_
        refine lv_istore_n (lv' := [(3, .int (Int32.ofInt (((z18 * 256) + z21)))), (0, .ref a0), (1, .int (Int32.ofInt x1_28)), (2, .int (Int32.ofInt x2_28))]) hx hb dX9_row_56 rfl hl (by decide) rfl (fun ls hl => ?_)
        refine lv_aload_n hx hb dX9_row_57 rfl (lv_at hl 1 rfl) ?_
        refine tf_get hx hb hts inlX9 hown hK (ci := 9) rfl hW ha0 rfl 0 rfl (by decide) (hts _ fl_X9_10) dX9_row_58 (fun v22 hv22 hsv22 => ?_)
        obtain ⟨ad23, rfl, had23⟩ := tf_v1 hv22
        refine lv_iload_n hx hb dX9_row_61 rfl (lv_at hl 3 rfl) ?_
        refine tf_bipush hx hb dX9_row_62 (by decide) ?_
        refine tf_idiv hx hb ⟨by omega, by omega⟩ (by omega) ⟨by decide, by decide⟩ (by decide) dX9_row_64 ?_
        refine tf_name (fun z24 ez24 => ?_)
        refine lv_iload_n hx hb dX9_row_65 rfl (lv_at hl 3 rfl) ?_
        refine tf_bipush hx hb dX9_row_66 (by decide) ?_
        refine tf_irem hx hb ⟨by omega, by omega⟩ (by omega) ⟨by decide, by decide⟩ (by decide) dX9_row_68 ?_
        refine tf_name (fun z25 ez25 => ?_)
        refine lv_iload_n hx hb dX9_row_69 rfl (lv_at hl 0 rfl) ?_
        refine tf_sipush hx hb dX9_row_70 (by decide) ?_
        refine tf_mmin hx hb hml hl hown (hts _ (tw18 (i := 16) rfl)) (hts _ (tw18 (i := 17) rfl)) (hts _ (tw10 (i := 2) rfl)) (hts _ (tw18 (i := 18) rfl)) ⟨by omega, by omega⟩ ⟨by decide, by decide⟩ (Nat.le_of_ble_eq_true rfl) (Nat.le_trans (by decide) hR1) (Nat.le_trans (by decide) hR2) (Nat.zero_le _) (Nat.zero_le _) dX9_row_73 (fun z26 hz26 => ?_)
        refine tf_calli (va_runV (As := [.int (Int32.ofInt z24), .int (Int32.ofInt z25), .int (Int32.ofInt z26)]) (rest := []) ⟨hx, hb, hml, hown, hts⟩ (c_X3_setHours l g T ad23 had23 (z24) ⟨by omega, by omega⟩ (z25) ⟨by omega, by omega⟩ (z26) ⟨by omega, by omega⟩) (cwV 3 hts gv_X9_146 rfl rfl rfl hd_X3_setHours ⟨Nat.le_trans (by decide) hR1, Nat.le_trans (by decide) hR2⟩) (tf_preV hk hW had23 (ci := 3) rfl rfl trivial) rfl rfl hl.1 rfl (lv_room (Nat.le_of_ble_eq_true rfl)) dX9_row_76 ⟨Nat.zero_le _, Nat.zero_le _⟩) hW (by decide) (fun z27 H27 locs27 hW hF27 hp27 => ?_)
        have hs28 := tf_keepF hF27 ha0 rfl rfl (by decide) hs7_28
        have hs29 := tf_keepF hF27 ha0 rfl rfl (by decide) hsv15
        obtain ⟨hp27_0, hp27_1⟩ := hp27
        refine lv_pop hx hb dX9_row_79 rfl ?_
        refine lv_iinc (v := Int32.ofInt ((x2_28 + 1))) (lv' := [(2, .int (Int32.ofInt ((x2_28 + 1)))), (3, .int (Int32.ofInt (((z18 * 256) + z21)))), (0, .ref a0), (1, .int (Int32.ofInt x1_28))]) hx hb dX9_row_80 hl (k := 3) rfl (Int32.ofInt_add _ _).symm (by decide) rfl (fun ls hl => ?_)
        refine lv_goto (tgt := 28) hx hb dX9_row_83 (by decide) ?_
        exact ih_28 (x1_28) ⟨by omega, by omega⟩ ((x2_28 + 1)) ⟨by omega, by omega⟩ (by first | omega | assumption) (by first | omega | assumption) (by omega) _ _ hW hs28 _ (lv_sub hl [2, 3, 0] rfl)
  refine tf_enter (As := [.ref a0]) hargs (Nat.le_of_ble_eq_true rfl) (fun ls hl => ?_)
  have hl : lv_has ls 4 [(0, .ref a0)] := hl
  refine lv_aload_n hx hb dX9_row_0 rfl (lv_at hl 0 rfl) ?_
  refine tf_get hx hb hts inlX9 hown hK (ci := 9) rfl hW ha0 rfl 7 rfl (by decide) (hts _ fl_X9_48) dX9_row_1 (fun v30 hv30 hsv30 => ?_)
  obtain rfl : v30 = .int (Int32.ofInt t0) := Option.some.inj (hsv30.symm.trans he0)
  refine tf_if_ne (tgt := 14) hx hb ⟨by omega, by omega⟩ dX9_row_4 (by decide) (fun h31 => ?_) (fun h31 => ?_)
  · refine lv_aload_n hx hb dX9_row_14 rfl (lv_at hl 0 rfl) ?_
    refine tf_get hx hb hts inlX9 hown hK (ci := 9) rfl hW ha0 rfl 7 rfl (by decide) (hts _ fl_X9_48) dX9_row_15 (fun v32 hv32 hsv32 => ?_)
    obtain rfl : v32 = .int (Int32.ofInt t0) := Option.some.inj (hsv32.symm.trans he0)
    refine tf_iconst hx hb dX9_row_18 ?_
    refine tf_idiv hx hb ⟨by omega, by omega⟩ (by omega) ⟨by decide, by decide⟩ (by decide) dX9_row_19 ?_
    refine tf_name (fun z33 ez33 => ?_)
    refine tf_bipush hx hb dX9_row_20 (by decide) ?_
    refine tf_mmin hx hb hml hl hown (hts _ (tw18 (i := 16) rfl)) (hts _ (tw18 (i := 17) rfl)) (hts _ (tw10 (i := 2) rfl)) (hts _ (tw18 (i := 18) rfl)) ⟨by omega, by omega⟩ ⟨by decide, by decide⟩ (Nat.le_of_ble_eq_true rfl) (Nat.le_trans (by decide) hR1) (Nat.le_trans (by decide) hR2) (Nat.zero_le _) (Nat.zero_le _) dX9_row_22 (fun z34 hz34 => ?_)
    refine lv_istore_n (lv' := [(1, .int (Int32.ofInt z34)), (0, .ref a0)]) hx hb dX9_row_25 rfl hl (by decide) rfl (fun ls hl => ?_)
    refine tf_iconst hx hb dX9_row_26 ?_
    refine lv_istore_n (lv' := [(2, .int (Int32.ofInt 0)), (1, .int (Int32.ofInt z34)), (0, .ref a0)]) hx hb dX9_row_27 rfl hl (by decide) rfl (fun ls hl => ?_)
    exact j_28 ((40 - 0 + 1 : Int)).toNat (z34) ⟨by omega, by omega⟩ (0) ⟨by omega, by omega⟩ (by first | omega | assumption) (by first | omega | assumption) (by omega) _ _ hW he0 _ (lv_sub hl [2, 1, 0] rfl)
  · refine lv_aload_n hx hb dX9_row_7 rfl (lv_at hl 0 rfl) ?_
    refine tf_bipush hx hb dX9_row_8 (by decide) ?_
    refine tf_calli (va_runV (As := [.int (Int32.ofInt ((-6)))]) (rest := []) ⟨hx, hb, hml, hown, hts⟩ (c_X9_refuse l g T a0 ha0 ((-6)) ⟨by omega, by omega⟩) (cwV 1 hts gv_X9_75 rfl rfl rfl hd_X9_refuse ⟨Nat.le_trans (by decide) hR1, Nat.le_trans (by decide) hR2⟩) (tf_preV hk hW ha0 (ci := 9) rfl rfl trivial) rfl rfl hl.1 rfl (lv_room (Nat.le_of_ble_eq_true rfl)) dX9_row_10 ⟨Nat.zero_le _, Nat.zero_le _⟩) hW (by decide) (fun z35 H35 locs35 hW hF35 hp35 => ?_)
    have hs36 := tf_keepF hF35 ha0 rfl rfl (by decide) he0
    have hs37 := tf_keepF hF35 ha0 rfl rfl (by decide) he1
    obtain ⟨hp35_0, hp35_1, hp35_2⟩ := hp35
    exact tf_reti (z := z35) hx hb hr hlocks hQ hW ⟨by omega, by omega, ⟨(t0), (u0), hs36, hs37, ⟨by omega, by omega⟩, ⟨by omega, by omega⟩, (by first | omega | assumption)⟩⟩ dX9_row_13

set_option maxHeartbeats 4000000 in
set_option maxRecDepth 100000 in
theorem f_X9_torn (l : Launch) (g : tf_G) (T : tf_T) (a0 : Nat) (ha0 : T a0 = some (26, 0)) (u0 : Int) (hu0 : (-2147483648) ≤ u0 ∧ u0 ≤ 2147483647) : Met l yX9_torn (cd_X9_torn :: wsL_law) ({ frames := 1, cells := 0, slots := 0, locals := 24 }) (tf_P g T [.ref a0] (fun H => tf_s H a0 (g.1.2 9 8) = some (.int (Int32.ofInt u0)))) (tf_Qi g M_X9_torn T (fun z _ _ => (-2147483648) ≤ z ∧ z ≤ 2147483647 ∧ (z = u0))) 0 0 (fun q => tf_B g ≤ q) := by
  refine Met.ofW (cc := cX9_torn) (maxL := 1) (ret := (some .int)) (by decide) rfl ?_
  intro p e s m args below meth c s₁ B hml hv
  obtain ⟨hargs, hk, hW0, hB, hpre⟩ := hv
  have he0 := hpre
  have hx := B.exec
  have hb := B.bytes
  have hr := B.returns
  have hts : ∀ w ∈ wsL_law, w.before args s = true := fun w h => atoms_spec (ws := cd_X9_torn :: wsL_law) B.pre w (List.mem_cons_of_mem _ h)
  have hown : s.vm.findClass RX9 = some m.cls := findClass_of_methodNamed B.named
  have hlocks := B.notSynchronized
  have hK := hk.1
  have hW := tf_n.start (M := M_X9_torn) hW0 hB
  obtain ⟨Q, hQ⟩ : ∃ q, q = MQ below (tf_Qi g M_X9_torn T (fun z _ _ => (-2147483648) ≤ z ∧ z ≤ 2147483647 ∧ (z = u0))) args s 0 0 (fun q => tf_B g ≤ q) := ⟨_, rfl⟩
  rw [← hQ]
  obtain ⟨R, hR⟩ : ∃ q, q = (headSpec (cd_X9_torn :: wsL_law) ({ frames := 1, cells := 0, slots := 0, locals := 24 })).room := ⟨_, rfl⟩
  rw [← hR]
  have hR1 : 1 ≤ R.frames := by rw [hR]; exact Nat.le_refl _
  have hR2 : 24 ≤ R.locals := by rw [hR]; exact Nat.le_refl _
  have hR3 : 0 ≤ R.cells := by rw [hR]; exact Nat.le_refl _
  have hR4 : 0 ≤ R.slots := by rw [hR]; exact Nat.le_refl _
  have hin := (name_of_methodNamed B.named B.method).1
  clear hR B
  refine tf_enter (As := [.ref a0]) hargs (Nat.le_of_ble_eq_true rfl) (fun ls hl => ?_)
  have hl : lv_has ls 1 [(0, .ref a0)] := hl
  refine lv_aload_n hx hb dX9_torn_0 rfl (lv_at hl 0 rfl) ?_
  refine tf_get hx hb hts inlX9 hown hK (ci := 9) rfl hW ha0 rfl 8 rfl (by decide) (hts _ fl_X9_52) dX9_torn_1 (fun v1 hv1 hsv1 => ?_)
  obtain rfl : v1 = .int (Int32.ofInt u0) := Option.some.inj (hsv1.symm.trans he0)
  exact tf_reti (z := u0) hx hb hr hlocks hQ hW (show (-2147483648) ≤ (u0) ∧ (u0) ≤ 2147483647 ∧ ((u0) = u0) by omega) dX9_torn_4

set_option maxHeartbeats 4000000 in
set_option maxRecDepth 100000 in
theorem f_X9_law (l : Launch) (g : tf_G) (T : tf_T) (a0 : Nat) (ha0 : T a0 = some (26, 0)) (t0 : Int) (ht0 : 0 ≤ t0 ∧ t0 ≤ 400) : Met l yX9_law (cd_X9_law :: wsL_law) ({ frames := 73, cells := 3, slots := 804, locals := 1137 }) (tf_P g T [.ref a0] (fun H => tf_s H a0 (g.1.2 9 7) = some (.int (Int32.ofInt t0)))) (tf_QI g M_X9_law T (fun z _ H => (-2147483648) ≤ z ∧ z ≤ 2147483647 ∧ (∃ (t1 : Int) , tf_s H a0 (g.1.2 9 7) = some (.int (Int32.ofInt t1)) ∧ (0 ≤ t1 ∧ t1 ≤ 400) ∧ (t1 = 0)))) 3 804 (fun q => tf_B g ≤ q) := by
  refine Met.ofW (cc := cX9_law) (maxL := 3) (ret := (some .int)) (by decide) rfl ?_
  intro p e s m args below meth c s₁ B hml hv
  obtain ⟨hargs, hk, hW0, hB, hpre⟩ := hv
  have he0 := hpre
  have hx := B.exec
  have hb := B.bytes
  have hr := B.returns
  have hts : ∀ w ∈ wsL_law, w.before args s = true := fun w h => atoms_spec (ws := cd_X9_law :: wsL_law) B.pre w (List.mem_cons_of_mem _ h)
  have hown : s.vm.findClass RX9 = some m.cls := findClass_of_methodNamed B.named
  have hlocks := B.notSynchronized
  have hK := hk.1
  have hW := tf_n.start (M := M_X9_law) hW0 hB
  obtain ⟨Q, hQ⟩ : ∃ q, q = MQ below (tf_QI g M_X9_law T (fun z _ H => (-2147483648) ≤ z ∧ z ≤ 2147483647 ∧ (∃ (t1 : Int) , tf_s H a0 (g.1.2 9 7) = some (.int (Int32.ofInt t1)) ∧ (0 ≤ t1 ∧ t1 ≤ 400) ∧ (t1 = 0)))) args s 3 804 (fun q => tf_B g ≤ q) := ⟨_, rfl⟩
  rw [← hQ]
  obtain ⟨R, hR⟩ : ∃ q, q = (headSpec (cd_X9_law :: wsL_law) ({ frames := 73, cells := 3, slots := 804, locals := 1137 })).room := ⟨_, rfl⟩
  rw [← hR]
  have hR1 : 73 ≤ R.frames := by rw [hR]; exact Nat.le_refl _
  have hR2 : 1137 ≤ R.locals := by rw [hR]; exact Nat.le_refl _
  have hR3 : 3 ≤ R.cells := by rw [hR]; exact Nat.le_refl _
  have hR4 : 804 ≤ R.slots := by rw [hR]; exact Nat.le_refl _
  have hin := (name_of_methodNamed B.named B.method).1
  clear hR B
  refine tf_enter (As := [.ref a0]) hargs (Nat.le_of_ble_eq_true rfl) (fun ls hl => ?_)
  have hl : lv_has ls 3 [(0, .ref a0)] := hl
  refine lv_aload_n hx hb dX9_law_0 rfl (lv_at hl 0 rfl) ?_
  refine tf_get hx hb hts inlX9 hown hK (ci := 9) rfl hW ha0 rfl 7 rfl (by decide) (hts _ fl_X9_48) dX9_law_1 (fun v1 hv1 hsv1 => ?_)
  obtain rfl : v1 = .int (Int32.ofInt t0) := Option.some.inj (hsv1.symm.trans he0)
  refine lv_istore_n (lv' := [(1, .int (Int32.ofInt t0)), (0, .ref a0)]) hx hb dX9_law_4 rfl hl (by decide) rfl (fun ls hl => ?_)
  refine lv_aload_n hx hb dX9_law_5 rfl (lv_at hl 1 rfl) ?_
  refine tf_iconst hx hb dX9_law_6 ?_
  refine tf_put hx hb hts inlX9 tyX9 tyX9_ok nmX9 hown hK (ci := 9) rfl hW ha0 rfl rfl 7 rfl (by decide) (by decide) (hts _ fl_X9_48) rfl (tf_u0 (by omega) (by omega)) rfl rfl dX9_law_7 (fun H2 locs2 hW hs2 ht2 hq2 => ?_)
  refine lv_aload_n hx hb dX9_law_10 rfl (lv_at hl 1 rfl) ?_
  refine tf_get hx hb hts inlX9 hown hK (ci := 9) rfl hW ha0 rfl 0 rfl (by decide) (hts _ fl_X9_10) dX9_law_11 (fun v3 hv3 hsv3 => ?_)
  obtain ⟨ad4, rfl, had4⟩ := tf_v1 hv3
  refine tf_get hx hb hts inlX3 hown hK (ci := 3) rfl hW had4 rfl 8 rfl (by decide) (hts _ fl_X9_164) dX9_law_14 (fun v5 hv5 hsv5 => ?_)
  obtain ⟨z6, rfl, hz6⟩ := tf_v0 hv5
  refine tf_bipush hx hb dX9_law_17 (by decide) ?_
  refine tf_icmp_lt (tgt := 29) hx hb ⟨by omega, by omega⟩ ⟨by decide, by decide⟩ dX9_law_19 (by decide) (fun h7 => ?_) (fun h7 => ?_)
  · refine lv_aload_n hx hb dX9_law_29 rfl (lv_at hl 1 rfl) ?_
    refine tf_get hx hb hts inlX9 hown hK (ci := 9) rfl hW ha0 rfl 4 rfl (by decide) (hts _ fl_X9_37) dX9_law_30 (fun v8 hv8 hsv8 => ?_)
    obtain ⟨ad9, rfl, had9⟩ := tf_v1 hv8
    refine lv_aload_n hx hb dX9_law_33 rfl (lv_at hl 1 rfl) ?_
    refine tf_get hx hb hts inlX9 hown hK (ci := 9) rfl hW ha0 rfl 6 rfl (by decide) (hts _ fl_X9_45) dX9_law_34 (fun v10 hv10 hsv10 => ?_)
    obtain ⟨ad11, rfl, had11⟩ := tf_v1 hv10
    refine lv_iload_n hx hb dX9_law_37 rfl (lv_at hl 0 rfl) ?_
    obtain ⟨pv12, hpv12, hok12⟩ := tf_peek hW had9 (ci := 2) rfl 3 rfl
    obtain ⟨ad13, rfl, had13⟩ := tf_v1 hok12
    refine tf_callA (va_runV (As := [.ref ad11, .int (Int32.ofInt t0)]) (rest := []) ⟨hx, hb, hml, hown, hts⟩ (c_X2_read l g T ad9 had9 ad11 had11 (t0) ⟨by omega, by omega⟩ ad13 had13) (cwV 2 hts gv_X9_167 rfl rfl rfl hd_X2_read ⟨Nat.le_trans (by decide) hR1, Nat.le_trans (by decide) hR2⟩) (tf_preV hk hW had9 (ci := 2) rfl rfl hpv12) rfl rfl hl.1 rfl (lv_room (Nat.le_of_ble_eq_true rfl)) dX9_law_38 ⟨Nat.le_trans (by omega) hR3, Nat.le_trans (by omega) hR4⟩) hW (by decide) (fun z14 H14 locs14 T hW hE14 hF14 hp14 => ?_)
    have hs15 := tf_keepF hF14 ha0 rfl rfl (by decide) hs2
    have hs16 := tf_keepF hF14 ha0 rfl rfl (by decide) hsv3
    have hs17 := tf_keepF hF14 ha0 rfl rfl (by decide) hsv8
    have hs18 := tf_keepF hF14 had9 rfl rfl (by decide) hpv12
    have ha0 := hE14 _ _ ha0
    have had4 := hE14 _ _ had4
    have had9 := hE14 _ _ had9
    have had13 := hE14 _ _ had13
    have hv14 : tf_v T 0 (2, 18, 0, 0, 0) z14 := hp14
    rcases tf_v2 hv14 with rfl | ⟨ad19, rfl, had19⟩
    · refine tf_Nastore_n (lv' := [(2, .null), (1, .int (Int32.ofInt t0)), (0, .ref a0)]) hx hb dX9_law_41 rfl hl (by decide) rfl (fun ls hl => ?_)
      refine lv_aload_n hx hb dX9_law_42 rfl (lv_at hl 2 rfl) ?_
      refine lv_aload_n hx hb dX9_law_43 rfl (lv_at hl 2 rfl) ?_
      refine tf_get hx hb hts inlX9 hown hK (ci := 9) rfl hW ha0 rfl 4 rfl (by decide) (hts _ fl_X9_37) dX9_law_44 (fun v20 hv20 hsv20 => ?_)
      obtain rfl : v20 = .ref ad9 := Option.some.inj (hsv20.symm.trans hs17)
      refine tf_get hx hb hts inlX2 hown hK (ci := 2) rfl hW had9 rfl 7 rfl (by decide) (hts _ fl_X9_171) dX9_law_47 (fun v21 hv21 hsv21 => ?_)
      obtain ⟨z22, rfl, hz22⟩ := tf_v0 hv21
      refine tf_put hx hb hts inlX9 tyX9 tyX9_ok nmX9 hown hK (ci := 9) rfl hW ha0 rfl rfl 9 rfl (by decide) (by decide) (hts _ fl_X9_55) rfl (tf_u0 (by omega) (by omega)) rfl rfl dX9_law_50 (fun H23 locs23 hW hs23 ht23 hq23 => ?_)
      have hs24 := (ht23 7 (by decide) (by decide)).trans hs15
      have hs25 := (ht23 0 (by decide) (by decide)).trans hs16
      have hs26 := (ht23 4 (by decide) (by decide)).trans hs17
      have hs27 := tf_keepQ hs18 (hq23 _ (tf_ne had9 ha0 (by decide)))
      refine tf_aloadN hx hb dX9_law_53 (lv_at hl 0 rfl) ?_
      refine lv_ifnonnullN hx hb dX9_law_54 ?_
      refine lv_aload_n hx hb dX9_law_57 rfl (lv_at hl 2 rfl) ?_
      refine tf_bipush hx hb dX9_law_58 (by decide) ?_
      refine tf_calli (va_runV (As := [.int (Int32.ofInt ((-6)))]) (rest := []) ⟨hx, hb, hml, hown, hts⟩ (c_X9_refuse l g T a0 ha0 ((-6)) ⟨by omega, by omega⟩) (cwV 1 hts gv_X9_75 rfl rfl rfl hd_X9_refuse ⟨Nat.le_trans (by decide) hR1, Nat.le_trans (by decide) hR2⟩) (tf_preV hk hW ha0 (ci := 9) rfl rfl trivial) rfl rfl hl.1 rfl (lv_room (Nat.le_of_ble_eq_true rfl)) dX9_law_60 ⟨Nat.le_trans (by omega) hR3, Nat.le_trans (by omega) hR4⟩) hW (by decide) (fun z28 H28 locs28 hW hF28 hp28 => ?_)
      have hs29 := tf_keepF hF28 ha0 rfl rfl (by decide) hs24
      have hs30 := tf_keepF hF28 ha0 rfl rfl (by decide) hs25
      have hs31 := tf_keepF hF28 ha0 rfl rfl (by decide) hs26
      have hs32 := tf_keepF hF28 had9 rfl rfl (by decide) hs27
      obtain ⟨hp28_0, hp28_1, hp28_2⟩ := hp28
      refine W.widen (k := 3) (n := 804) (by omega) (by omega) ?_
      exact tf_retI (z := z28) hx hb hr hlocks hQ hW ⟨by omega, by omega, ⟨(0), hs29, ⟨by omega, by omega⟩, (by first | omega | assumption)⟩⟩ dX9_law_63
    · refine lv_astore_n (lv' := [(2, .ref ad19), (1, .int (Int32.ofInt t0)), (0, .ref a0)]) hx hb dX9_law_41 rfl hl (by decide) rfl (fun ls hl => ?_)
      refine lv_aload_n hx hb dX9_law_42 rfl (lv_at hl 2 rfl) ?_
      refine lv_aload_n hx hb dX9_law_43 rfl (lv_at hl 2 rfl) ?_
      refine tf_get hx hb hts inlX9 hown hK (ci := 9) rfl hW ha0 rfl 4 rfl (by decide) (hts _ fl_X9_37) dX9_law_44 (fun v33 hv33 hsv33 => ?_)
      obtain rfl : v33 = .ref ad9 := Option.some.inj (hsv33.symm.trans hs17)
      refine tf_get hx hb hts inlX2 hown hK (ci := 2) rfl hW had9 rfl 7 rfl (by decide) (hts _ fl_X9_171) dX9_law_47 (fun v34 hv34 hsv34 => ?_)
      obtain ⟨z35, rfl, hz35⟩ := tf_v0 hv34
      refine tf_put hx hb hts inlX9 tyX9 tyX9_ok nmX9 hown hK (ci := 9) rfl hW ha0 rfl rfl 9 rfl (by decide) (by decide) (hts _ fl_X9_55) rfl (tf_u0 (by omega) (by omega)) rfl rfl dX9_law_50 (fun H36 locs36 hW hs36 ht36 hq36 => ?_)
      have hs37 := (ht36 7 (by decide) (by decide)).trans hs15
      have hs38 := (ht36 0 (by decide) (by decide)).trans hs16
      have hs39 := (ht36 4 (by decide) (by decide)).trans hs17
      have hs40 := tf_keepQ hs18 (hq36 _ (tf_ne had9 ha0 (by decide)))
      refine lv_aload_n hx hb dX9_law_53 rfl (lv_at hl 0 rfl) ?_
      refine lv_ifnonnull (tgt := 64) hx hb dX9_law_54 (by decide) ?_
      refine lv_aload_n hx hb dX9_law_64 rfl (lv_at hl 2 rfl) ?_
      refine lv_aload_n hx hb dX9_law_65 rfl (lv_at hl 2 rfl) ?_
      refine tf_get hx hb hts inlX9 hown hK (ci := 9) rfl hW ha0 rfl 0 rfl (by decide) (hts _ fl_X9_10) dX9_law_66 (fun v41 hv41 hsv41 => ?_)
      obtain rfl : v41 = .ref ad4 := Option.some.inj (hsv41.symm.trans hs38)
      refine lv_aload_n hx hb dX9_law_69 rfl (lv_at hl 0 rfl) ?_
      refine tf_calli (va_runV (As := [.ref ad19]) (rest := [.ref a0]) ⟨hx, hb, hml, hown, hts⟩ (c_X3_addLaw l g T ad4 had4 ad19 had19) (cwV 1 hts gv_X9_172 rfl rfl rfl hd_X3_addLaw ⟨Nat.le_trans (by decide) hR1, Nat.le_trans (by decide) hR2⟩) (tf_preV hk hW had4 (ci := 3) rfl rfl trivial) rfl rfl hl.1 rfl (lv_room (Nat.le_of_ble_eq_true rfl)) dX9_law_70 ⟨Nat.le_trans (by omega) hR3, Nat.le_trans (by omega) hR4⟩) hW (by decide) (fun z42 H42 locs42 hW hF42 hp42 => ?_)
      have hs43 := tf_keepF hF42 ha0 rfl rfl (by decide) hs37
      have hs44 := tf_keepF hF42 ha0 rfl rfl (by decide) hs38
      have hs45 := tf_keepF hF42 ha0 rfl rfl (by decide) hs39
      have hs46 := tf_keepF hF42 had9 rfl rfl (by decide) hs40
      obtain ⟨hp42_0, hp42_1⟩ := hp42
      refine tf_calli (va_runV (As := [.int (Int32.ofInt z42)]) (rest := []) ⟨hx, hb, hml, hown, hts⟩ (c_X9_accept l g T a0 ha0 (z42) ⟨by omega, by omega⟩) (cwV 1 hts gv_X9_99 rfl rfl rfl hd_X9_accept ⟨Nat.le_trans (by decide) hR1, Nat.le_trans (by decide) hR2⟩) (tf_preV hk hW ha0 (ci := 9) rfl rfl trivial) rfl rfl hl.1 rfl (lv_room (Nat.le_of_ble_eq_true rfl)) dX9_law_73 ⟨Nat.le_trans (by omega) hR3, Nat.le_trans (by omega) hR4⟩) hW (by decide) (fun z47 H47 locs47 hW hF47 hp47 => ?_)
      have hs48 := tf_keepF hF47 ha0 rfl rfl (by decide) hs43
      have hs49 := tf_keepF hF47 ha0 rfl rfl (by decide) hs44
      have hs50 := tf_keepF hF47 ha0 rfl rfl (by decide) hs45
      have hs51 := tf_keepF hF47 had9 rfl rfl (by decide) hs46
      obtain ⟨hp47_0, hp47_1, hp47_2⟩ := hp47
      refine W.widen (k := 3) (n := 804) (by omega) (by omega) ?_
      exact tf_retI (z := z47) hx hb hr hlocks hQ hW ⟨by omega, by omega, ⟨(0), hs48, ⟨by omega, by omega⟩, (by first | omega | assumption)⟩⟩ dX9_law_76
  · refine lv_aload_n hx hb dX9_law_22 rfl (lv_at hl 1 rfl) ?_
    refine tf_bipush hx hb dX9_law_23 (by decide) ?_
    refine tf_calli (va_runV (As := [.int (Int32.ofInt ((-5)))]) (rest := []) ⟨hx, hb, hml, hown, hts⟩ (c_X9_refuse l g T a0 ha0 ((-5)) ⟨by omega, by omega⟩) (cwV 1 hts gv_X9_75 rfl rfl rfl hd_X9_refuse ⟨Nat.le_trans (by decide) hR1, Nat.le_trans (by decide) hR2⟩) (tf_preV hk hW ha0 (ci := 9) rfl rfl trivial) rfl rfl hl.1 rfl (lv_room (Nat.le_of_ble_eq_true rfl)) dX9_law_25 ⟨Nat.le_trans (by omega) hR3, Nat.le_trans (by omega) hR4⟩) hW (by decide) (fun z52 H52 locs52 hW hF52 hp52 => ?_)
    have hs53 := tf_keepF hF52 ha0 rfl rfl (by decide) hs2
    have hs54 := tf_keepF hF52 ha0 rfl rfl (by decide) hsv3
    obtain ⟨hp52_0, hp52_1, hp52_2⟩ := hp52
    refine W.widen (k := 3) (n := 804) (by omega) (by omega) ?_
    exact tf_retI (z := z52) hx hb hr hlocks hQ hW ⟨by omega, by omega, ⟨(0), hs53, ⟨by omega, by omega⟩, (by first | omega | assumption)⟩⟩ dX9_law_28

set_option maxHeartbeats 4000000 in
set_option maxRecDepth 100000 in
theorem f_X10_feed (l : Launch) (g : tf_G) (T : tf_T) (a0 : Nat) (ha0 : T a0 = some (50, 0)) (x1 : Int) (hp1 : (-2147483648) ≤ x1 ∧ x1 ≤ 2147483647) (x2 : Int) (hp2 : (-2147483648) ≤ x2 ∧ x2 ≤ 2147483647) (x3 : Int) (hp3 : (-2147483648) ≤ x3 ∧ x3 ≤ 2147483647) (x4 : Int) (hp4 : (-2147483648) ≤ x4 ∧ x4 ≤ 2147483647) (x5 : Int) (hp5 : (-2147483648) ≤ x5 ∧ x5 ≤ 2147483647) (t0 : Int) (ht0 : 0 ≤ t0 ∧ t0 ≤ 400) : Met l yX10_feed (cd_X10_feed :: wsL_law) ({ frames := 2, cells := 0, slots := 0, locals := 46 }) (tf_P g T [.ref a0, .int (Int32.ofInt x1), .int (Int32.ofInt x2), .int (Int32.ofInt x3), .int (Int32.ofInt x4), .int (Int32.ofInt x5)] (fun H => tf_s H a0 (g.1.2 10 8) = some (.int (Int32.ofInt t0)))) (tf_Qi g M_X10_feed T (fun z _ H => (-2147483648) ≤ z ∧ z ≤ 2147483647 ∧ (∃ (t1 : Int) , tf_s H a0 (g.1.2 10 8) = some (.int (Int32.ofInt t1)) ∧ (0 ≤ t1 ∧ t1 ≤ 400) ∧ ((400 < t0 + 20 ∧ z = -1 ∧ t1 = t0) ∨ (t0 + 20 ≤ 400 ∧ z = t0 + 20 ∧ t1 = t0 + 20))))) 0 0 (fun q => tf_B g ≤ q) := by
  refine Met.ofW (cc := cX10_feed) (maxL := 6) (ret := (some .int)) (by decide) rfl ?_
  intro p e s m args below meth c s₁ B hml hv
  obtain ⟨hargs, hk, hW0, hB, hpre⟩ := hv
  have he0 := hpre
  have hx := B.exec
  have hb := B.bytes
  have hr := B.returns
  have hts : ∀ w ∈ wsL_law, w.before args s = true := fun w h => atoms_spec (ws := cd_X10_feed :: wsL_law) B.pre w (List.mem_cons_of_mem _ h)
  have hown : s.vm.findClass RX10 = some m.cls := findClass_of_methodNamed B.named
  have hlocks := B.notSynchronized
  have hK := hk.1
  have hW := tf_n.start (M := M_X10_feed) hW0 hB
  obtain ⟨Q, hQ⟩ : ∃ q, q = MQ below (tf_Qi g M_X10_feed T (fun z _ H => (-2147483648) ≤ z ∧ z ≤ 2147483647 ∧ (∃ (t1 : Int) , tf_s H a0 (g.1.2 10 8) = some (.int (Int32.ofInt t1)) ∧ (0 ≤ t1 ∧ t1 ≤ 400) ∧ ((400 < t0 + 20 ∧ z = -1 ∧ t1 = t0) ∨ (t0 + 20 ≤ 400 ∧ z = t0 + 20 ∧ t1 = t0 + 20))))) args s 0 0 (fun q => tf_B g ≤ q) := ⟨_, rfl⟩
  rw [← hQ]
  obtain ⟨R, hR⟩ : ∃ q, q = (headSpec (cd_X10_feed :: wsL_law) ({ frames := 2, cells := 0, slots := 0, locals := 46 })).room := ⟨_, rfl⟩
  rw [← hR]
  have hR1 : 2 ≤ R.frames := by rw [hR]; exact Nat.le_refl _
  have hR2 : 46 ≤ R.locals := by rw [hR]; exact Nat.le_refl _
  have hR3 : 0 ≤ R.cells := by rw [hR]; exact Nat.le_refl _
  have hR4 : 0 ≤ R.slots := by rw [hR]; exact Nat.le_refl _
  have hin := (name_of_methodNamed B.named B.method).1
  clear hR B
  refine tf_enter (As := [.ref a0, .int (Int32.ofInt x1), .int (Int32.ofInt x2), .int (Int32.ofInt x3), .int (Int32.ofInt x4), .int (Int32.ofInt x5)]) hargs (Nat.le_of_ble_eq_true rfl) (fun ls hl => ?_)
  have hl : lv_has ls 6 [(0, .ref a0), (1, .int (Int32.ofInt x1)), (2, .int (Int32.ofInt x2)), (3, .int (Int32.ofInt x3)), (4, .int (Int32.ofInt x4)), (5, .int (Int32.ofInt x5))] := hl
  refine lv_aload_n hx hb dX10_feed_0 rfl (lv_at hl 0 rfl) ?_
  refine tf_iconst hx hb dX10_feed_1 ?_
  refine tf_put hx hb hts inlX10 tyX10 tyX10_ok nmX10 hown hK (ci := 10) rfl hW ha0 rfl rfl 0 rfl (by decide) (by decide) (hts _ fl_X10_103) rfl (tf_u0 (by omega) (by omega)) rfl rfl dX10_feed_2 (fun H1 locs1 hW hs1 ht1 hq1 => ?_)
  have hs2 := (ht1 8 (by decide) (by decide)).trans he0
  refine lv_aload_n hx hb dX10_feed_5 rfl (lv_at hl 0 rfl) ?_
  refine tf_get hx hb hts inlX10 hown hK (ci := 10) rfl hW ha0 rfl 8 rfl (by decide) (hts _ fl_X10_183) dX10_feed_6 (fun v3 hv3 hsv3 => ?_)
  obtain rfl : v3 = .int (Int32.ofInt t0) := Option.some.inj (hsv3.symm.trans hs2)
  refine tf_bipush hx hb dX10_feed_9 (by decide) ?_
  refine tf_iadd hx hb dX10_feed_11 ?_
  refine tf_sipush hx hb dX10_feed_12 (by decide) ?_
  refine tf_icmp_le (tgt := 20) hx hb ⟨by omega, by omega⟩ ⟨by decide, by decide⟩ dX10_feed_15 (by decide) (fun h4 => ?_) (fun h4 => ?_)
  · refine lv_aload_n hx hb dX10_feed_20 rfl (lv_at hl 0 rfl) ?_
    refine lv_iload_n hx hb dX10_feed_21 rfl (lv_at hl 1 rfl) ?_
    refine tf_callv (va_runV (As := [.int (Int32.ofInt x1)]) (rest := []) ⟨hx, hb, hml, hown, hts⟩ (c_X10_four l g T a0 ha0 (x1) ⟨by omega, by omega⟩ (t0) ⟨by omega, by omega⟩) (cwV 1 hts gv_X10_193 rfl rfl rfl hd_X10_four ⟨Nat.le_trans (by decide) hR1, Nat.le_trans (by decide) hR2⟩) (tf_preV hk hW ha0 (ci := 10) rfl rfl hs2) rfl rfl hl.1 rfl (lv_room (Nat.le_of_ble_eq_true rfl)) dX10_feed_22 ⟨Nat.zero_le _, Nat.zero_le _⟩) hW (by decide) (fun H5 locs5 hW hF5 hp5 => ?_)
    have ho5_0 := hp5
    refine lv_aload_n hx hb dX10_feed_25 rfl (lv_at hl 0 rfl) ?_
    refine lv_iload_n hx hb dX10_feed_26 rfl (lv_at hl 2 rfl) ?_
    refine tf_callv (va_runV (As := [.int (Int32.ofInt x2)]) (rest := []) ⟨hx, hb, hml, hown, hts⟩ (c_X10_four l g T a0 ha0 (x2) ⟨by omega, by omega⟩ ((t0 + 4)) ⟨by omega, by omega⟩) (cwV 1 hts gv_X10_193 rfl rfl rfl hd_X10_four ⟨Nat.le_trans (by decide) hR1, Nat.le_trans (by decide) hR2⟩) (tf_preV hk hW ha0 (ci := 10) rfl rfl ho5_0) rfl rfl hl.1 rfl (lv_room (Nat.le_of_ble_eq_true rfl)) dX10_feed_27 ⟨Nat.zero_le _, Nat.zero_le _⟩) hW (by decide) (fun H6 locs6 hW hF6 hp6 => ?_)
    have ho6_0 := hp6
    refine lv_aload_n hx hb dX10_feed_30 rfl (lv_at hl 0 rfl) ?_
    refine lv_iload_n hx hb dX10_feed_31 rfl (lv_at hl 3 rfl) ?_
    refine tf_callv (va_runV (As := [.int (Int32.ofInt x3)]) (rest := []) ⟨hx, hb, hml, hown, hts⟩ (c_X10_four l g T a0 ha0 (x3) ⟨by omega, by omega⟩ (((t0 + 4) + 4)) ⟨by omega, by omega⟩) (cwV 1 hts gv_X10_193 rfl rfl rfl hd_X10_four ⟨Nat.le_trans (by decide) hR1, Nat.le_trans (by decide) hR2⟩) (tf_preV hk hW ha0 (ci := 10) rfl rfl ho6_0) rfl rfl hl.1 rfl (lv_room (Nat.le_of_ble_eq_true rfl)) dX10_feed_32 ⟨Nat.zero_le _, Nat.zero_le _⟩) hW (by decide) (fun H7 locs7 hW hF7 hp7 => ?_)
    have ho7_0 := hp7
    refine lv_aload_n hx hb dX10_feed_35 rfl (lv_at hl 0 rfl) ?_
    refine lv_iload hx hb dX10_feed_36 (lv_at hl 4 rfl) ?_
    refine tf_callv (va_runV (As := [.int (Int32.ofInt x4)]) (rest := []) ⟨hx, hb, hml, hown, hts⟩ (c_X10_four l g T a0 ha0 (x4) ⟨by omega, by omega⟩ ((((t0 + 4) + 4) + 4)) ⟨by omega, by omega⟩) (cwV 1 hts gv_X10_193 rfl rfl rfl hd_X10_four ⟨Nat.le_trans (by decide) hR1, Nat.le_trans (by decide) hR2⟩) (tf_preV hk hW ha0 (ci := 10) rfl rfl ho7_0) rfl rfl hl.1 rfl (lv_room (Nat.le_of_ble_eq_true rfl)) dX10_feed_38 ⟨Nat.zero_le _, Nat.zero_le _⟩) hW (by decide) (fun H8 locs8 hW hF8 hp8 => ?_)
    have ho8_0 := hp8
    refine lv_aload_n hx hb dX10_feed_41 rfl (lv_at hl 0 rfl) ?_
    refine lv_iload hx hb dX10_feed_42 (lv_at hl 5 rfl) ?_
    refine tf_callv (va_runV (As := [.int (Int32.ofInt x5)]) (rest := []) ⟨hx, hb, hml, hown, hts⟩ (c_X10_four l g T a0 ha0 (x5) ⟨by omega, by omega⟩ (((((t0 + 4) + 4) + 4) + 4)) ⟨by omega, by omega⟩) (cwV 1 hts gv_X10_193 rfl rfl rfl hd_X10_four ⟨Nat.le_trans (by decide) hR1, Nat.le_trans (by decide) hR2⟩) (tf_preV hk hW ha0 (ci := 10) rfl rfl ho8_0) rfl rfl hl.1 rfl (lv_room (Nat.le_of_ble_eq_true rfl)) dX10_feed_44 ⟨Nat.zero_le _, Nat.zero_le _⟩) hW (by decide) (fun H9 locs9 hW hF9 hp9 => ?_)
    have ho9_0 := hp9
    refine lv_aload_n hx hb dX10_feed_47 rfl (lv_at hl 0 rfl) ?_
    refine tf_get hx hb hts inlX10 hown hK (ci := 10) rfl hW ha0 rfl 8 rfl (by decide) (hts _ fl_X10_183) dX10_feed_48 (fun v10 hv10 hsv10 => ?_)
    obtain rfl : v10 = .int (Int32.ofInt ((((((t0 + 4) + 4) + 4) + 4) + 4))) := Option.some.inj (hsv10.symm.trans ho9_0)
    exact tf_reti (z := (((((t0 + 4) + 4) + 4) + 4) + 4)) hx hb hr hlocks hQ hW ⟨by omega, by omega, ⟨((((((t0 + 4) + 4) + 4) + 4) + 4)), ho9_0, ⟨by omega, by omega⟩, (by first | omega | assumption)⟩⟩ dX10_feed_51
  · refine tf_iconst hx hb dX10_feed_18 ?_
    exact tf_reti (z := (-1)) hx hb hr hlocks hQ hW ⟨by omega, by omega, ⟨(t0), hs2, ⟨by omega, by omega⟩, (by first | omega | assumption)⟩⟩ dX10_feed_19

set_option maxHeartbeats 4000000 in
set_option maxRecDepth 100000 in
theorem f_X10_end (l : Launch) (g : tf_G) (T : tf_T) (a0 : Nat) (ha0 : T a0 = some (50, 0)) (x1 : Int) (hp1 : (-2147483648) ≤ x1 ∧ x1 ≤ 2147483647) (t0 : Int) (ht0 : 0 ≤ t0 ∧ t0 ≤ 400) : Met l yX10_end (cd_X10_end :: wsL_law) ({ frames := 1, cells := 0, slots := 0, locals := 24 }) (tf_P g T [.ref a0, .int (Int32.ofInt x1)] (fun H => tf_s H a0 (g.1.2 10 8) = some (.int (Int32.ofInt t0)))) (tf_Qi g M_X10_end T (fun z _ H => (-2147483648) ≤ z ∧ z ≤ 2147483647 ∧ (∃ (t1 : Int) , tf_s H a0 (g.1.2 10 8) = some (.int (Int32.ofInt t1)) ∧ (0 ≤ t1 ∧ t1 ≤ 400) ∧ ((0 ≤ x1 ∧ x1 ≤ t0 ∧ z = x1 ∧ t1 = x1) ∨ ((x1 < 0 ∨ t0 < x1) ∧ z = -1 ∧ t1 = t0))))) 0 0 (fun q => tf_B g ≤ q) := by
  refine Met.ofW (cc := cX10_end) (maxL := 2) (ret := (some .int)) (by decide) rfl ?_
  intro p e s m args below meth c s₁ B hml hv
  obtain ⟨hargs, hk, hW0, hB, hpre⟩ := hv
  have he0 := hpre
  have hx := B.exec
  have hb := B.bytes
  have hr := B.returns
  have hts : ∀ w ∈ wsL_law, w.before args s = true := fun w h => atoms_spec (ws := cd_X10_end :: wsL_law) B.pre w (List.mem_cons_of_mem _ h)
  have hown : s.vm.findClass RX10 = some m.cls := findClass_of_methodNamed B.named
  have hlocks := B.notSynchronized
  have hK := hk.1
  have hW := tf_n.start (M := M_X10_end) hW0 hB
  obtain ⟨Q, hQ⟩ : ∃ q, q = MQ below (tf_Qi g M_X10_end T (fun z _ H => (-2147483648) ≤ z ∧ z ≤ 2147483647 ∧ (∃ (t1 : Int) , tf_s H a0 (g.1.2 10 8) = some (.int (Int32.ofInt t1)) ∧ (0 ≤ t1 ∧ t1 ≤ 400) ∧ ((0 ≤ x1 ∧ x1 ≤ t0 ∧ z = x1 ∧ t1 = x1) ∨ ((x1 < 0 ∨ t0 < x1) ∧ z = -1 ∧ t1 = t0))))) args s 0 0 (fun q => tf_B g ≤ q) := ⟨_, rfl⟩
  rw [← hQ]
  obtain ⟨R, hR⟩ : ∃ q, q = (headSpec (cd_X10_end :: wsL_law) ({ frames := 1, cells := 0, slots := 0, locals := 24 })).room := ⟨_, rfl⟩
  rw [← hR]
  have hR1 : 1 ≤ R.frames := by rw [hR]; exact Nat.le_refl _
  have hR2 : 24 ≤ R.locals := by rw [hR]; exact Nat.le_refl _
  have hR3 : 0 ≤ R.cells := by rw [hR]; exact Nat.le_refl _
  have hR4 : 0 ≤ R.slots := by rw [hR]; exact Nat.le_refl _
  have hin := (name_of_methodNamed B.named B.method).1
  clear hR B
  refine tf_enter (As := [.ref a0, .int (Int32.ofInt x1)]) hargs (Nat.le_of_ble_eq_true rfl) (fun ls hl => ?_)
  have hl : lv_has ls 2 [(0, .ref a0), (1, .int (Int32.ofInt x1))] := hl
  refine lv_aload_n hx hb dX10_end_0 rfl (lv_at hl 0 rfl) ?_
  refine tf_iconst hx hb dX10_end_1 ?_
  refine tf_put hx hb hts inlX10 tyX10 tyX10_ok nmX10 hown hK (ci := 10) rfl hW ha0 rfl rfl 0 rfl (by decide) (by decide) (hts _ fl_X10_103) rfl (tf_u0 (by omega) (by omega)) rfl rfl dX10_end_2 (fun H1 locs1 hW hs1 ht1 hq1 => ?_)
  have hs2 := (ht1 8 (by decide) (by decide)).trans he0
  refine lv_iload_n hx hb dX10_end_5 rfl (lv_at hl 1 rfl) ?_
  refine tf_if_lt (tgt := 17) hx hb ⟨by omega, by omega⟩ dX10_end_6 (by decide) (fun h3 => ?_) (fun h3 => ?_)
  · refine tf_iconst hx hb dX10_end_17 ?_
    exact tf_reti (z := (-1)) hx hb hr hlocks hQ hW ⟨by omega, by omega, ⟨(t0), hs2, ⟨by omega, by omega⟩, (by first | omega | assumption)⟩⟩ dX10_end_18
  · refine lv_iload_n hx hb dX10_end_9 rfl (lv_at hl 1 rfl) ?_
    refine lv_aload_n hx hb dX10_end_10 rfl (lv_at hl 0 rfl) ?_
    refine tf_get hx hb hts inlX10 hown hK (ci := 10) rfl hW ha0 rfl 8 rfl (by decide) (hts _ fl_X10_183) dX10_end_11 (fun v4 hv4 hsv4 => ?_)
    obtain rfl : v4 = .int (Int32.ofInt t0) := Option.some.inj (hsv4.symm.trans hs2)
    refine tf_icmp_le (tgt := 19) hx hb ⟨by omega, by omega⟩ ⟨by omega, by omega⟩ dX10_end_14 (by decide) (fun h5 => ?_) (fun h5 => ?_)
    · refine lv_aload_n hx hb dX10_end_19 rfl (lv_at hl 0 rfl) ?_
      refine lv_iload_n hx hb dX10_end_20 rfl (lv_at hl 1 rfl) ?_
      refine tf_put hx hb hts inlX10 tyX10 tyX10_ok nmX10 hown hK (ci := 10) rfl hW ha0 rfl rfl 8 rfl (by decide) (by decide) (hts _ fl_X10_183) rfl (tf_u0 (by omega) (by omega)) rfl rfl dX10_end_21 (fun H6 locs6 hW hs6 ht6 hq6 => ?_)
      refine lv_iload_n hx hb dX10_end_24 rfl (lv_at hl 1 rfl) ?_
      exact tf_reti (z := x1) hx hb hr hlocks hQ hW ⟨by omega, by omega, ⟨(x1), hs6, ⟨by omega, by omega⟩, (by first | omega | assumption)⟩⟩ dX10_end_25
    · refine tf_iconst hx hb dX10_end_17 ?_
      exact tf_reti (z := (-1)) hx hb hr hlocks hQ hW ⟨by omega, by omega, ⟨(t0), hs2, ⟨by omega, by omega⟩, (by first | omega | assumption)⟩⟩ dX10_end_18

set_option maxHeartbeats 4000000 in
set_option maxRecDepth 100000 in
theorem f_X10_row (l : Launch) (g : tf_G) (T : tf_T) (a0 : Nat) (ha0 : T a0 = some (50, 0)) (t0 : Int) (ht0 : 0 ≤ t0 ∧ t0 ≤ 400) (u0 : Int) (hu0 : (-2147483648) ≤ u0 ∧ u0 ≤ 2147483647) : Met l yX10_row (cd_X10_row :: wsL_law) ({ frames := 2, cells := 0, slots := 0, locals := 46 }) (tf_P g T [.ref a0] (fun H => tf_s H a0 (g.1.2 10 8) = some (.int (Int32.ofInt t0)) ∧ tf_s H a0 (g.1.2 10 6) = some (.int (Int32.ofInt u0)))) (tf_Qi g M_X10_row T (fun z _ H => (-2147483648) ≤ z ∧ z ≤ 2147483647 ∧ (∃ (t1 u1 : Int) , tf_s H a0 (g.1.2 10 8) = some (.int (Int32.ofInt t1)) ∧ tf_s H a0 (g.1.2 10 6) = some (.int (Int32.ofInt u1)) ∧ (0 ≤ t1 ∧ t1 ≤ 400) ∧ ((-2147483648) ≤ u1 ∧ u1 ≤ 2147483647) ∧ ((t0 = 0 ∧ t1 = 0 ∧ u1 = u0) ∨ (t0 ≠ 0 ∧ t1 = 0 ∧ ((80 ≤ t0 ∧ u1 = t0 - 80) ∨ (t0 < 80 ∧ u1 = t0 % 2))))))) 0 0 (fun q => tf_B g ≤ q) := by
  refine Met.ofW (cc := cX10_row) (maxL := 5) (ret := (some .int)) (by decide) rfl ?_
  intro p e s m args below meth c s₁ B hml hv
  obtain ⟨hargs, hk, hW0, hB, hpre⟩ := hv
  obtain ⟨he0, he1⟩ := hpre
  have hx := B.exec
  have hb := B.bytes
  have hr := B.returns
  have hts : ∀ w ∈ wsL_law, w.before args s = true := fun w h => atoms_spec (ws := cd_X10_row :: wsL_law) B.pre w (List.mem_cons_of_mem _ h)
  have hown : s.vm.findClass RX10 = some m.cls := findClass_of_methodNamed B.named
  have hlocks := B.notSynchronized
  have hK := hk.1
  have hW := tf_n.start (M := M_X10_row) hW0 hB
  obtain ⟨Q, hQ⟩ : ∃ q, q = MQ below (tf_Qi g M_X10_row T (fun z _ H => (-2147483648) ≤ z ∧ z ≤ 2147483647 ∧ (∃ (t1 u1 : Int) , tf_s H a0 (g.1.2 10 8) = some (.int (Int32.ofInt t1)) ∧ tf_s H a0 (g.1.2 10 6) = some (.int (Int32.ofInt u1)) ∧ (0 ≤ t1 ∧ t1 ≤ 400) ∧ ((-2147483648) ≤ u1 ∧ u1 ≤ 2147483647) ∧ ((t0 = 0 ∧ t1 = 0 ∧ u1 = u0) ∨ (t0 ≠ 0 ∧ t1 = 0 ∧ ((80 ≤ t0 ∧ u1 = t0 - 80) ∨ (t0 < 80 ∧ u1 = t0 % 2))))))) args s 0 0 (fun q => tf_B g ≤ q) := ⟨_, rfl⟩
  rw [← hQ]
  obtain ⟨R, hR⟩ : ∃ q, q = (headSpec (cd_X10_row :: wsL_law) ({ frames := 2, cells := 0, slots := 0, locals := 46 })).room := ⟨_, rfl⟩
  rw [← hR]
  have hR1 : 2 ≤ R.frames := by rw [hR]; exact Nat.le_refl _
  have hR2 : 46 ≤ R.locals := by rw [hR]; exact Nat.le_refl _
  have hR3 : 0 ≤ R.cells := by rw [hR]; exact Nat.le_refl _
  have hR4 : 0 ≤ R.slots := by rw [hR]; exact Nat.le_refl _
  have hin := (name_of_methodNamed B.named B.method).1
  clear hR B
  have j_52 : ∀ (n_52 : Nat), ∀ (x2_52 : Int), 0 ≤ x2_52 ∧ x2_52 ≤ 80 → ∀ (x3_52 : Int), 0 ≤ x3_52 ∧ x3_52 ≤ 255 → ∀ (f8_52 : Int), 0 ≤ f8_52 ∧ f8_52 ≤ 0 → ∀ (f6_52 : Int), (-79) ≤ f6_52 ∧ f6_52 ≤ 400 → ((f6_52 = t0 - 80 ∧ 80 < t0) ∨ (f6_52 = t0 % 2 ∧ t0 ≤ 80)) → (t0 ≠ 0) → (255 - x3_52 + 1 ≤ (n_52 : Int)) → ∀ (H : Heap) (locs : List Loc), tf_n tf_kt g M_X10_row T s.heap T H locs → tf_s H a0 (g.1.2 10 8) = some (.int (Int32.ofInt f8_52)) → tf_s H a0 (g.1.2 10 6) = some (.int (Int32.ofInt f6_52)) → ∀ (ls : Array Slot), lv_has ls 5 [(0, .ref a0), (2, .int (Int32.ofInt x2_52)), (3, .int (Int32.ofInt x3_52))] → W p l e R s m args below meth c H locs 0 0 Q (F0 m 52 ls []) := by
    intro n_52
    induction n_52 with
    | zero =>
      intro x2_52 hx2_52 x3_52 hx3_52 f8_52 hf8_52 f6_52 hf6_52 hi0_52 hi1_52 hm_52
      exfalso; omega
    | succ n_52 ih_52 =>
      intro x2_52 hx2_52 x3_52 hx3_52 f8_52 hf8_52 f6_52 hf6_52 hi0_52 hi1_52 hm_52 H locs hW hs8_52 hs6_52 ls hl
      have j_105 : 1 ≤ x2_52 ∧ x2_52 ≤ 80 → 0 ≤ x3_52 ∧ x3_52 ≤ 99 → ∀ (b0_105 : Nat), T b0_105 = some (28, 5830) → ∀ (y1_105 : Int), 341 ≤ y1_105 ∧ y1_105 ≤ 380 → ∀ (y2_105 : Int), 0 ≤ y2_105 ∧ y2_105 ≤ 999 → ∀ (f8_105 : Int), 0 ≤ f8_105 ∧ f8_105 ≤ 0 → ∀ (f6_105 : Int), (-79) ≤ f6_105 ∧ f6_105 ≤ 400 → ((f6_105 = t0 - 80 ∧ 80 < t0) ∨ (f6_105 = t0 % 2 ∧ t0 ≤ 80)) → ∀ (H : Heap) (locs : List Loc), tf_n tf_kt g M_X10_row T s.heap T H locs → tf_s H a0 (g.1.2 10 8) = some (.int (Int32.ofInt f8_105)) → tf_s H a0 (g.1.2 10 6) = some (.int (Int32.ofInt f6_105)) → ∀ (ls : Array Slot), lv_has ls 5 [(0, .ref a0), (2, .int (Int32.ofInt x2_52)), (3, .int (Int32.ofInt x3_52))] → W p l e R s m args below meth c H locs 0 0 Q (F0 m 105 ls [.int (Int32.ofInt y2_105), .int (Int32.ofInt y1_105), .ref b0_105]) := by
        intro hx2_105 hx3_105 b0_105 hb0_105 y1_105 hy1_105 y2_105 hy2_105 f8_105 hf8_105 f6_105 hf6_105 hi0_105 H locs hW hs8_105 hs6_105 ls hl
        refine tf_rowst hx hb hK hW hb0_105 rfl (by omega) (by omega) (by decide) ⟨by omega, by omega⟩ (tf_RO_any (tf_ROof hW hb0_105) (by omega)) dX10_row_105 (fun H1 locs1 hW hu1 hq1 => ?_)
        have hs2 := tf_keepQ hs8_105 (hq1 _ (tf_ne ha0 hb0_105 (by decide)))
        have hs3 := tf_keepQ hs6_105 (hq1 _ (tf_ne ha0 hb0_105 (by decide)))
        refine lv_iinc (v := Int32.ofInt ((x3_52 + 2))) (lv' := [(3, .int (Int32.ofInt ((x3_52 + 2)))), (0, .ref a0), (2, .int (Int32.ofInt x2_52))]) hx hb dX10_row_106 hl (k := 2) rfl (Int32.ofInt_add _ _).symm (by decide) rfl (fun ls hl => ?_)
        refine lv_goto (tgt := 52) hx hb dX10_row_109 (by decide) ?_
        exact ih_52 (x2_52) ⟨by omega, by omega⟩ ((x3_52 + 2)) ⟨by omega, by omega⟩ (f8_105) ⟨by omega, by omega⟩ (f6_105) ⟨by omega, by omega⟩ (by first | omega | assumption) (by first | omega | assumption) (by omega) _ _ hW hs2 hs3 _ (lv_sub hl [1, 2, 0] rfl)
      refine lv_iload_n hx hb dX10_row_52 rfl (lv_at hl 2 rfl) ?_
      refine lv_iload_n hx hb dX10_row_53 rfl (lv_at hl 1 rfl) ?_
      refine tf_icmp_ge (tgt := 112) hx hb ⟨by omega, by omega⟩ ⟨by omega, by omega⟩ dX10_row_54 (by decide) (fun h4 => ?_) (fun h4 => ?_)
      · refine lv_aload_n hx hb dX10_row_112 rfl (lv_at hl 0 rfl) ?_
        refine lv_aload_n hx hb dX10_row_113 rfl (lv_at hl 0 rfl) ?_
        obtain ⟨pv5, hpv5, hok5⟩ := tf_peek hW ha0 (ci := 10) rfl 3 rfl
        obtain ⟨ad6, rfl, had6⟩ := tf_v1 hok5
        obtain ⟨r7, hr7⟩ := tf_rname hW ad6
        have hro7 : tf_RO r7 := hr7 ▸ tf_ROof hW had6
        refine tf_calli (va_runV (As := []) (rest := [.ref a0]) ⟨hx, hb, hml, hown, hts⟩ (c_X10_allHours l g T a0 ha0 ad6 had6 r7) (cwV 0 hts gv_X10_189 rfl rfl rfl hd_X10_allHours ⟨Nat.le_trans (by decide) hR1, Nat.le_trans (by decide) hR2⟩) (tf_preV hk hW ha0 (ci := 10) rfl rfl ⟨hpv5, hr7⟩) rfl rfl hl.1 rfl (lv_room (Nat.le_of_ble_eq_true rfl)) dX10_row_114 ⟨Nat.zero_le _, Nat.zero_le _⟩) hW (by decide) (fun z8 H8 locs8 hW hF8 hp8 => ?_)
        have hs9 := tf_keepF hF8 ha0 rfl rfl (by decide) hs8_52
        have hs10 := tf_keepF hF8 ha0 rfl rfl (by decide) hs6_52
        have hs11 := tf_keepF hF8 ha0 rfl rfl (by decide) hpv5
        have hs12 := tf_keepC hF8 had6 rfl (by decide) hr7
        obtain ⟨hp8_0, hp8_1, hp8_2⟩ := hp8
        refine tf_calli (va_runV (As := [.int (Int32.ofInt z8)]) (rest := []) ⟨hx, hb, hml, hown, hts⟩ (c_X10_tell l g T a0 ha0 (z8) ⟨by omega, by omega⟩) (cwV 1 hts gv_X10_117 rfl rfl rfl hd_X10_tell ⟨Nat.le_trans (by decide) hR1, Nat.le_trans (by decide) hR2⟩) (tf_preV hk hW ha0 (ci := 10) rfl rfl trivial) rfl rfl hl.1 rfl (lv_room (Nat.le_of_ble_eq_true rfl)) dX10_row_117 ⟨Nat.zero_le _, Nat.zero_le _⟩) hW (by decide) (fun z13 H13 locs13 hW hF13 hp13 => ?_)
        have hs14 := tf_keepF hF13 ha0 rfl rfl (by decide) hs9
        have hs15 := tf_keepF hF13 ha0 rfl rfl (by decide) hs10
        have hs16 := tf_keepF hF13 ha0 rfl rfl (by decide) hs11
        have hs17 := tf_keepC hF13 had6 rfl (by decide) hs12
        obtain ⟨hp13_0, hp13_1, hp13_2⟩ := hp13
        exact tf_reti (z := z13) hx hb hr hlocks hQ hW ⟨by omega, by omega, ⟨(f8_52), (f6_52), hs14, hs15, ⟨by omega, by omega⟩, ⟨by omega, by omega⟩, (by first | omega | assumption)⟩⟩ dX10_row_120
      · refine tf_sipush hx hb dX10_row_57 (by decide) ?_
        refine lv_aload_n hx hb dX10_row_60 rfl (lv_at hl 0 rfl) ?_
        refine tf_get hx hb hts inlX10 hown hK (ci := 10) rfl hW ha0 rfl 7 rfl (by decide) (hts _ fl_X10_23) dX10_row_61 (fun v18 hv18 hsv18 => ?_)
        obtain ⟨ad19, rfl, had19⟩ := tf_v1 hv18
        refine lv_iload_n hx hb dX10_row_64 rfl (lv_at hl 2 rfl) ?_
        refine tf_iald (t0 := 0) hx hb hK hW had19 rfl rfl (by omega) (by omega) dX10_row_65 (fun v20 hv20 hsv20 => ?_)
        obtain ⟨z21, rfl, hz21⟩ := tf_v0 hv20
        refine tf_imul hx hb dX10_row_66 ?_
        refine lv_aload_n hx hb dX10_row_67 rfl (lv_at hl 0 rfl) ?_
        refine tf_get hx hb hts inlX10 hown hK (ci := 10) rfl hW ha0 rfl 7 rfl (by decide) (hts _ fl_X10_23) dX10_row_68 (fun v22 hv22 hsv22 => ?_)
        obtain rfl : v22 = .ref ad19 := Option.some.inj (hsv22.symm.trans hsv18)
        refine lv_iload_n hx hb dX10_row_71 rfl (lv_at hl 2 rfl) ?_
        refine tf_iconst hx hb dX10_row_72 ?_
        refine tf_iadd hx hb dX10_row_73 ?_
        refine tf_iald (t0 := 0) hx hb hK hW had19 rfl rfl (by omega) (by omega) dX10_row_74 (fun v23 hv23 hsv23 => ?_)
        obtain ⟨z24, rfl, hz24⟩ := tf_v0 hv23
        refine tf_iadd hx hb dX10_row_75 ?_
        refine lv_istore (lv' := [(4, .int (Int32.ofInt (((256 * z21) + z24)))), (0, .ref a0), (2, .int (Int32.ofInt x2_52)), (3, .int (Int32.ofInt x3_52))]) hx hb dX10_row_76 hl (by decide) rfl (fun ls hl => ?_)
        refine lv_aload_n hx hb dX10_row_78 rfl (lv_at hl 1 rfl) ?_
        refine tf_get hx hb hts inlX10 hown hK (ci := 10) rfl hW ha0 rfl 3 rfl (by decide) (hts _ fl_X10_13) dX10_row_79 (fun v25 hv25 hsv25 => ?_)
        obtain ⟨ad26, rfl, had26⟩ := tf_v1 hv25
        refine tf_sipush hx hb dX10_row_82 (by decide) ?_
        refine lv_iload_n hx hb dX10_row_85 rfl (lv_at hl 3 rfl) ?_
        refine tf_iconst hx hb dX10_row_86 ?_
        refine tf_idiv hx hb ⟨by omega, by omega⟩ (by omega) ⟨by decide, by decide⟩ (by decide) dX10_row_87 ?_
        refine tf_name (fun z27 ez27 => ?_)
        refine tf_iadd hx hb dX10_row_88 ?_
        refine lv_iload hx hb dX10_row_89 (lv_at hl 0 rfl) ?_
        refine tf_sipush hx hb dX10_row_91 (by decide) ?_
        refine tf_icmp_le (tgt := 103) hx hb ⟨by omega, by omega⟩ ⟨by decide, by decide⟩ dX10_row_94 (by decide) (fun h28 => ?_) (fun h28 => ?_)
        · refine lv_iload hx hb dX10_row_103 (lv_at hl 0 rfl) ?_
          exact j_105 ⟨by omega, by omega⟩ ⟨by omega, by omega⟩ ad26 had26 ((341 + z27)) ⟨by omega, by omega⟩ (((256 * z21) + z24)) ⟨by omega, by omega⟩ (f8_52) ⟨by omega, by omega⟩ (f6_52) ⟨by omega, by omega⟩ (by first | omega | assumption) _ _ hW hs8_52 hs6_52 _ (lv_sub hl [1, 2, 3] rfl)
        · refine tf_sipush hx hb dX10_row_97 (by decide) ?_
          refine lv_goto (tgt := 105) hx hb dX10_row_100 (by decide) ?_
          exact j_105 ⟨by omega, by omega⟩ ⟨by omega, by omega⟩ ad26 had26 ((341 + z27)) ⟨by omega, by omega⟩ (999) ⟨by omega, by omega⟩ (f8_52) ⟨by omega, by omega⟩ (f6_52) ⟨by omega, by omega⟩ (by first | omega | assumption) _ _ hW hs8_52 hs6_52 _ (lv_sub hl [1, 2, 3] rfl)
  have j_42 : 1 ≤ t0 ∧ t0 ≤ 400 → ∀ (y0_42 : Int), 0 ≤ y0_42 ∧ y0_42 ≤ 80 → ∀ (f8_42 : Int), 0 ≤ f8_42 ∧ f8_42 ≤ 0 → ((y0_42 = 80 ∧ 80 < t0) ∨ (y0_42 = t0 - t0 % 2 ∧ t0 ≤ 80)) → (t0 = t0) → (t0 ≠ 0) → ∀ (H : Heap) (locs : List Loc), tf_n tf_kt g M_X10_row T s.heap T H locs → tf_s H a0 (g.1.2 10 8) = some (.int (Int32.ofInt f8_42)) → ∀ (ls : Array Slot), lv_has ls 5 [(0, .ref a0), (1, .int (Int32.ofInt t0))] → W p l e R s m args below meth c H locs 0 0 Q (F0 m 42 ls [.int (Int32.ofInt y0_42)]) := by
    intro hx1_42 y0_42 hy0_42 f8_42 hf8_42 hi0_42 hi1_42 hi2_42 H locs hW hs8_42 ls hl
    refine lv_istore_n (lv' := [(2, .int (Int32.ofInt y0_42)), (0, .ref a0), (1, .int (Int32.ofInt t0))]) hx hb dX10_row_42 rfl hl (by decide) rfl (fun ls hl => ?_)
    refine lv_aload_n hx hb dX10_row_43 rfl (lv_at hl 1 rfl) ?_
    refine lv_iload_n hx hb dX10_row_44 rfl (lv_at hl 2 rfl) ?_
    refine lv_iload_n hx hb dX10_row_45 rfl (lv_at hl 0 rfl) ?_
    refine tf_isub hx hb dX10_row_46 ?_
    refine tf_put hx hb hts inlX10 tyX10 tyX10_ok nmX10 hown hK (ci := 10) rfl hW ha0 rfl rfl 6 rfl (by decide) (by decide) (hts _ fl_X10_186) rfl (tf_u0 (by omega) (by omega)) rfl rfl dX10_row_47 (fun H29 locs29 hW hs29 ht29 hq29 => ?_)
    have hs30 := (ht29 8 (by decide) (by decide)).trans hs8_42
    refine tf_iconst hx hb dX10_row_50 ?_
    refine lv_istore_n (lv' := [(3, .int (Int32.ofInt 0)), (2, .int (Int32.ofInt y0_42)), (0, .ref a0), (1, .int (Int32.ofInt t0))]) hx hb dX10_row_51 rfl hl (by decide) rfl (fun ls hl => ?_)
    exact j_52 ((255 - 0 + 1 : Int)).toNat (y0_42) ⟨by omega, by omega⟩ (0) ⟨by omega, by omega⟩ (f8_42) ⟨by omega, by omega⟩ ((t0 - y0_42)) ⟨by omega, by omega⟩ (by first | omega | assumption) (by first | omega | assumption) (by omega) _ _ hW hs30 hs29 _ (lv_sub hl [2, 1, 0] rfl)
  refine tf_enter (As := [.ref a0]) hargs (Nat.le_of_ble_eq_true rfl) (fun ls hl => ?_)
  have hl : lv_has ls 5 [(0, .ref a0)] := hl
  refine lv_aload_n hx hb dX10_row_0 rfl (lv_at hl 0 rfl) ?_
  refine tf_iconst hx hb dX10_row_1 ?_
  refine tf_put hx hb hts inlX10 tyX10 tyX10_ok nmX10 hown hK (ci := 10) rfl hW ha0 rfl rfl 0 rfl (by decide) (by decide) (hts _ fl_X10_103) rfl (tf_u0 (by omega) (by omega)) rfl rfl dX10_row_2 (fun H31 locs31 hW hs31 ht31 hq31 => ?_)
  have hs32 := (ht31 8 (by decide) (by decide)).trans he0
  have hs33 := (ht31 6 (by decide) (by decide)).trans he1
  refine lv_aload_n hx hb dX10_row_5 rfl (lv_at hl 0 rfl) ?_
  refine tf_get hx hb hts inlX10 hown hK (ci := 10) rfl hW ha0 rfl 8 rfl (by decide) (hts _ fl_X10_183) dX10_row_6 (fun v34 hv34 hsv34 => ?_)
  obtain rfl : v34 = .int (Int32.ofInt t0) := Option.some.inj (hsv34.symm.trans hs32)
  refine lv_istore_n (lv' := [(1, .int (Int32.ofInt t0)), (0, .ref a0)]) hx hb dX10_row_9 rfl hl (by decide) rfl (fun ls hl => ?_)
  refine lv_aload_n hx hb dX10_row_10 rfl (lv_at hl 1 rfl) ?_
  refine tf_iconst hx hb dX10_row_11 ?_
  refine tf_put hx hb hts inlX10 tyX10 tyX10_ok nmX10 hown hK (ci := 10) rfl hW ha0 rfl rfl 8 rfl (by decide) (by decide) (hts _ fl_X10_183) rfl (tf_u0 (by omega) (by omega)) rfl rfl dX10_row_12 (fun H35 locs35 hW hs35 ht35 hq35 => ?_)
  have hs36 := (ht35 6 (by decide) (by decide)).trans hs33
  refine lv_iload_n hx hb dX10_row_15 rfl (lv_at hl 0 rfl) ?_
  refine tf_if_ne (tgt := 26) hx hb ⟨by omega, by omega⟩ dX10_row_16 (by decide) (fun h37 => ?_) (fun h37 => ?_)
  · refine lv_iload_n hx hb dX10_row_26 rfl (lv_at hl 0 rfl) ?_
    refine tf_bipush hx hb dX10_row_27 (by decide) ?_
    refine tf_icmp_le (tgt := 37) hx hb ⟨by omega, by omega⟩ ⟨by decide, by decide⟩ dX10_row_29 (by decide) (fun h38 => ?_) (fun h38 => ?_)
    · refine lv_iload_n hx hb dX10_row_37 rfl (lv_at hl 0 rfl) ?_
      refine lv_iload_n hx hb dX10_row_38 rfl (lv_at hl 0 rfl) ?_
      refine tf_iconst hx hb dX10_row_39 ?_
      refine tf_irem hx hb ⟨by omega, by omega⟩ (by omega) ⟨by decide, by decide⟩ (by decide) dX10_row_40 ?_
      refine tf_name (fun z39 ez39 => ?_)
      refine tf_isub hx hb dX10_row_41 ?_
      exact j_42 ⟨by omega, by omega⟩ ((t0 - z39)) ⟨by omega, by omega⟩ (0) ⟨by omega, by omega⟩ (by first | omega | assumption) (by first | omega | assumption) (by first | omega | assumption) _ _ hW hs35 _ (lv_sub hl [1, 0] rfl)
    · refine tf_bipush hx hb dX10_row_32 (by decide) ?_
      refine lv_goto (tgt := 42) hx hb dX10_row_34 (by decide) ?_
      exact j_42 ⟨by omega, by omega⟩ (80) ⟨by omega, by omega⟩ (0) ⟨by omega, by omega⟩ (by first | omega | assumption) (by first | omega | assumption) (by first | omega | assumption) _ _ hW hs35 _ (lv_sub hl [1, 0] rfl)
  · refine lv_aload_n hx hb dX10_row_19 rfl (lv_at hl 1 rfl) ?_
    refine tf_bipush hx hb dX10_row_20 (by decide) ?_
    refine tf_calli (va_runV (As := [.int (Int32.ofInt ((-6)))]) (rest := []) ⟨hx, hb, hml, hown, hts⟩ (c_X10_tell l g T a0 ha0 ((-6)) ⟨by omega, by omega⟩) (cwV 1 hts gv_X10_117 rfl rfl rfl hd_X10_tell ⟨Nat.le_trans (by decide) hR1, Nat.le_trans (by decide) hR2⟩) (tf_preV hk hW ha0 (ci := 10) rfl rfl trivial) rfl rfl hl.1 rfl (lv_room (Nat.le_of_ble_eq_true rfl)) dX10_row_22 ⟨Nat.zero_le _, Nat.zero_le _⟩) hW (by decide) (fun z40 H40 locs40 hW hF40 hp40 => ?_)
    have hs41 := tf_keepF hF40 ha0 rfl rfl (by decide) hs36
    have hs42 := tf_keepF hF40 ha0 rfl rfl (by decide) hs35
    obtain ⟨hp40_0, hp40_1, hp40_2⟩ := hp40
    exact tf_reti (z := z40) hx hb hr hlocks hQ hW ⟨by omega, by omega, ⟨(0), (u0), hs42, hs41, ⟨by omega, by omega⟩, ⟨by omega, by omega⟩, (by first | omega | assumption)⟩⟩ dX10_row_25

set_option maxHeartbeats 4000000 in
set_option maxRecDepth 100000 in
theorem f_X10_torn (l : Launch) (g : tf_G) (T : tf_T) (a0 : Nat) (ha0 : T a0 = some (50, 0)) (u0 : Int) (hu0 : (-2147483648) ≤ u0 ∧ u0 ≤ 2147483647) : Met l yX10_torn (cd_X10_torn :: wsL_law) ({ frames := 1, cells := 0, slots := 0, locals := 24 }) (tf_P g T [.ref a0] (fun H => tf_s H a0 (g.1.2 10 6) = some (.int (Int32.ofInt u0)))) (tf_Qi g M_X10_torn T (fun z _ _ => (-2147483648) ≤ z ∧ z ≤ 2147483647 ∧ (z = u0))) 0 0 (fun q => tf_B g ≤ q) := by
  refine Met.ofW (cc := cX10_torn) (maxL := 1) (ret := (some .int)) (by decide) rfl ?_
  intro p e s m args below meth c s₁ B hml hv
  obtain ⟨hargs, hk, hW0, hB, hpre⟩ := hv
  have he0 := hpre
  have hx := B.exec
  have hb := B.bytes
  have hr := B.returns
  have hts : ∀ w ∈ wsL_law, w.before args s = true := fun w h => atoms_spec (ws := cd_X10_torn :: wsL_law) B.pre w (List.mem_cons_of_mem _ h)
  have hown : s.vm.findClass RX10 = some m.cls := findClass_of_methodNamed B.named
  have hlocks := B.notSynchronized
  have hK := hk.1
  have hW := tf_n.start (M := M_X10_torn) hW0 hB
  obtain ⟨Q, hQ⟩ : ∃ q, q = MQ below (tf_Qi g M_X10_torn T (fun z _ _ => (-2147483648) ≤ z ∧ z ≤ 2147483647 ∧ (z = u0))) args s 0 0 (fun q => tf_B g ≤ q) := ⟨_, rfl⟩
  rw [← hQ]
  obtain ⟨R, hR⟩ : ∃ q, q = (headSpec (cd_X10_torn :: wsL_law) ({ frames := 1, cells := 0, slots := 0, locals := 24 })).room := ⟨_, rfl⟩
  rw [← hR]
  have hR1 : 1 ≤ R.frames := by rw [hR]; exact Nat.le_refl _
  have hR2 : 24 ≤ R.locals := by rw [hR]; exact Nat.le_refl _
  have hR3 : 0 ≤ R.cells := by rw [hR]; exact Nat.le_refl _
  have hR4 : 0 ≤ R.slots := by rw [hR]; exact Nat.le_refl _
  have hin := (name_of_methodNamed B.named B.method).1
  clear hR B
  refine tf_enter (As := [.ref a0]) hargs (Nat.le_of_ble_eq_true rfl) (fun ls hl => ?_)
  have hl : lv_has ls 1 [(0, .ref a0)] := hl
  refine lv_aload_n hx hb dX10_torn_0 rfl (lv_at hl 0 rfl) ?_
  refine tf_iconst hx hb dX10_torn_1 ?_
  refine tf_put hx hb hts inlX10 tyX10 tyX10_ok nmX10 hown hK (ci := 10) rfl hW ha0 rfl rfl 0 rfl (by decide) (by decide) (hts _ fl_X10_103) rfl (tf_u0 (by omega) (by omega)) rfl rfl dX10_torn_2 (fun H1 locs1 hW hs1 ht1 hq1 => ?_)
  have hs2 := (ht1 6 (by decide) (by decide)).trans he0
  refine lv_aload_n hx hb dX10_torn_5 rfl (lv_at hl 0 rfl) ?_
  refine tf_get hx hb hts inlX10 hown hK (ci := 10) rfl hW ha0 rfl 6 rfl (by decide) (hts _ fl_X10_186) dX10_torn_6 (fun v3 hv3 hsv3 => ?_)
  obtain rfl : v3 = .int (Int32.ofInt u0) := Option.some.inj (hsv3.symm.trans hs2)
  exact tf_reti (z := u0) hx hb hr hlocks hQ hW (show (-2147483648) ≤ (u0) ∧ (u0) ≤ 2147483647 ∧ ((u0) = u0) by omega) dX10_torn_9

set_option maxHeartbeats 4000000 in
set_option maxRecDepth 100000 in
theorem f_X10_law (l : Launch) (g : tf_G) (T : tf_T) (a0 : Nat) (ha0 : T a0 = some (50, 0)) (t0 : Int) (ht0 : 0 ≤ t0 ∧ t0 ≤ 400) : Met l yX10_law (cd_X10_law :: wsL_law) ({ frames := 9, cells := 0, slots := 0, locals := 194 }) (tf_P g T [.ref a0] (fun H => tf_s H a0 (g.1.2 10 8) = some (.int (Int32.ofInt t0)))) (tf_Qi g M_X10_law T (fun z _ H => (-2147483648) ≤ z ∧ z ≤ 2147483647 ∧ (∃ (t1 : Int) , tf_s H a0 (g.1.2 10 8) = some (.int (Int32.ofInt t1)) ∧ (0 ≤ t1 ∧ t1 ≤ 400) ∧ (t1 = 0)))) 0 0 (fun q => tf_B g ≤ q) := by
  refine Met.ofW (cc := cX10_law) (maxL := 3) (ret := (some .int)) (by decide) rfl ?_
  intro p e s m args below meth c s₁ B hml hv
  obtain ⟨hargs, hk, hW0, hB, hpre⟩ := hv
  have he0 := hpre
  have hx := B.exec
  have hb := B.bytes
  have hr := B.returns
  have hts : ∀ w ∈ wsL_law, w.before args s = true := fun w h => atoms_spec (ws := cd_X10_law :: wsL_law) B.pre w (List.mem_cons_of_mem _ h)
  have hown : s.vm.findClass RX10 = some m.cls := findClass_of_methodNamed B.named
  have hlocks := B.notSynchronized
  have hK := hk.1
  have hW := tf_n.start (M := M_X10_law) hW0 hB
  obtain ⟨Q, hQ⟩ : ∃ q, q = MQ below (tf_Qi g M_X10_law T (fun z _ H => (-2147483648) ≤ z ∧ z ≤ 2147483647 ∧ (∃ (t1 : Int) , tf_s H a0 (g.1.2 10 8) = some (.int (Int32.ofInt t1)) ∧ (0 ≤ t1 ∧ t1 ≤ 400) ∧ (t1 = 0)))) args s 0 0 (fun q => tf_B g ≤ q) := ⟨_, rfl⟩
  rw [← hQ]
  obtain ⟨R, hR⟩ : ∃ q, q = (headSpec (cd_X10_law :: wsL_law) ({ frames := 9, cells := 0, slots := 0, locals := 194 })).room := ⟨_, rfl⟩
  rw [← hR]
  have hR1 : 9 ≤ R.frames := by rw [hR]; exact Nat.le_refl _
  have hR2 : 194 ≤ R.locals := by rw [hR]; exact Nat.le_refl _
  have hR3 : 0 ≤ R.cells := by rw [hR]; exact Nat.le_refl _
  have hR4 : 0 ≤ R.slots := by rw [hR]; exact Nat.le_refl _
  have hin := (name_of_methodNamed B.named B.method).1
  clear hR B
  obtain ⟨vb0, hfb0, hokb0⟩ := tf_peek hW ha0 (ci := 10) rfl 3 rfl
  obtain ⟨b0, rfl, hb0⟩ := tf_v1 hokb0
  obtain ⟨r0, hr0⟩ := tf_rname hW b0
  have hror0 : tf_RO r0 := hr0 ▸ tf_ROof hW hb0
  obtain ⟨vqop, hfqop, hokqop⟩ := tf_peek hW ha0 (ci := 10) rfl 18 rfl
  obtain ⟨qop, rfl, hqop⟩ := tf_v1 hokqop
  obtain ⟨rop, hrop⟩ := tf_rname hW qop
  obtain ⟨vqar, hfqar, hokqar⟩ := tf_peek hW ha0 (ci := 10) rfl 19 rfl
  obtain ⟨qar, rfl, hqar⟩ := tf_v1 hokqar
  obtain ⟨rar, hrar⟩ := tf_rname hW qar
  obtain ⟨vqcl, hfqcl, hokqcl⟩ := tf_peek hW ha0 (ci := 10) rfl 16 rfl
  obtain ⟨qcl, rfl, hqcl⟩ := tf_v1 hokqcl
  obtain ⟨rcl, hrcl⟩ := tf_rname hW qcl
  have j_180 : ∀ (n_180 : Nat), ∀ (x1_180 : Int), 430 ≤ x1_180 ∧ x1_180 ≤ 4930 → ∀ (x2_180 : Int), 0 ≤ x2_180 ∧ x2_180 ≤ 400 → ∀ (f17_180 : Int), 0 ≤ f17_180 ∧ f17_180 ≤ 400 → ∀ (f15_180 : Int), 0 ≤ f15_180 ∧ f15_180 ≤ 12 → ∀ (rNOP_180 : Int → Int), (True) → ∀ (rNAR_180 : Int → Int), (True) → ∀ (rNCL_180 : Int → Int), (True) → ∀ (f8_180 : Int), 0 ≤ f8_180 ∧ f8_180 ≤ 0 → ∀ (rROW_180 : Int → Int), (tf_l2 r0 rNCL_180 rNOP_180 rNAR_180 x1_180 f15_180 x2_180 rROW_180) → (tf_CL rNCL_180 rNOP_180 rNAR_180 f15_180 f17_180) → (x1_180 = 430 + 900 * r0 1) → (r0 1 ≤ 5) → (x2_180 ≤ f17_180) → (f17_180 - x2_180 + 1 ≤ (n_180 : Int)) → ∀ (H : Heap) (locs : List Loc), tf_n tf_ktw g M_X10_law T s.heap T H locs → tf_s H a0 (g.1.2 10 3) = some (.ref b0) → tf_s H a0 (g.1.2 10 18) = some (.ref qop) → tf_s H a0 (g.1.2 10 19) = some (.ref qar) → tf_s H a0 (g.1.2 10 17) = some (.int (Int32.ofInt f17_180)) → tf_s H a0 (g.1.2 10 15) = some (.int (Int32.ofInt f15_180)) → tf_rw H qop = rNOP_180 → tf_rw H qar = rNAR_180 → tf_rw H qcl = rNCL_180 → tf_s H a0 (g.1.2 10 8) = some (.int (Int32.ofInt f8_180)) → tf_rw H b0 = rROW_180 → tf_zz g T b0 H → ∀ (ls : Array Slot), lv_has ls 3 [(0, .ref a0), (1, .int (Int32.ofInt x1_180)), (2, .int (Int32.ofInt x2_180))] → W p l e R s m args below meth c H locs 0 0 Q (F0 m 180 ls []) := by
    intro n_180
    induction n_180 with
    | zero =>
      intro x1_180 hx1_180 x2_180 hx2_180 f17_180 hf17_180 f15_180 hf15_180 rNOP_180 hRNOP_180 rNAR_180 hRNAR_180 rNCL_180 hRNCL_180 f8_180 hf8_180 rROW_180 hRROW_180 hi0_180 hi1_180 hi2_180 hi3_180 hm_180
      exfalso; omega
    | succ n_180 ih_180 =>
      intro x1_180 hx1_180 x2_180 hx2_180 f17_180 hf17_180 f15_180 hf15_180 rNOP_180 hRNOP_180 rNAR_180 hRNAR_180 rNCL_180 hRNCL_180 f8_180 hf8_180 rROW_180 hRROW_180 hi0_180 hi1_180 hi2_180 hi3_180 hm_180 H locs hW hs3_180 hs18_180 hs19_180 hs17_180 hs15_180 hcNOP_180 hcNAR_180 hcNCL_180 hs8_180 hcROW_180 hZ ls hl
      refine lv_iload_n hx hb dX10_law_180 rfl (lv_at hl 2 rfl) ?_
      refine lv_aload_n hx hb dX10_law_181 rfl (lv_at hl 0 rfl) ?_
      refine tf_get hx hb hts inlX10 hown hK (ci := 10) rfl hW ha0 rfl 17 rfl (by decide) (hts _ fl_X10_239) dX10_law_182 (fun v1 hv1 hsv1 => ?_)
      obtain rfl : v1 = .int (Int32.ofInt f17_180) := Option.some.inj (hsv1.symm.trans hs17_180)
      refine tf_icmp_ge (tgt := 234) hx hb ⟨by omega, by omega⟩ ⟨by omega, by omega⟩ dX10_law_185 (by decide) (fun h2 => ?_) (fun h2 => ?_)
      · have hO1 := hRROW_180.1.1 1 (by omega)
        have hW := tf_strongR hW hZ hb0 (by rw [hcROW_180]; exact tf_law_RO hror0 hRROW_180 (show x2_180 = f17_180 by omega) (by omega) (by have := hror0.2.1; omega) (by omega) (by omega) (by omega) hi0_180)
        refine lv_aload_n hx hb dX10_law_234 rfl (lv_at hl 0 rfl) ?_
        refine tf_get hx hb hts inlX10 hown hK (ci := 10) rfl hW ha0 rfl 3 rfl (by decide) (hts _ fl_X10_13) dX10_law_235 (fun v3 hv3 hsv3 => ?_)
        obtain rfl : v3 = .ref b0 := Option.some.inj (hsv3.symm.trans hs3_180)
        refine tf_iconst hx hb dX10_law_238 ?_
        refine lv_dup2_11 hx hb dX10_law_239 rfl rfl ?_
        refine tf_iald (t0 := 0) hx hb hK hW hb0 rfl rfl (by omega) (by omega) dX10_law_240 (fun v4 hv4 hsv4 => ?_)
        obtain ⟨z5, rfl, hz5⟩ := tf_v0 hv4
        have er6 : rROW_180 1 = z5 := hcROW_180 ▸ tf_rw_of (by omega) hsv4 ⟨by omega, by omega⟩
        have hg7 := tf_rd1 (tf_ROof hW hb0) hsv4 ⟨by omega, by omega⟩ (by omega)
        refine tf_iconst hx hb dX10_law_241 ?_
        refine tf_iadd hx hb dX10_law_242 ?_
        refine tf_rowst hx hb hK hW hb0 rfl (by omega) (by omega) (by decide) ⟨by omega, by omega⟩ (tf_RO_any (tf_ROof hW hb0) (by omega)) dX10_law_243 (fun H8 locs8 hW hu8 hq8 => ?_)
        have hs9 := tf_keepQ hs3_180 (hq8 _ (tf_ne ha0 hb0 (by decide)))
        have hs10 := tf_keepQ hs18_180 (hq8 _ (tf_ne ha0 hb0 (by decide)))
        have hs11 := tf_keepQ hs19_180 (hq8 _ (tf_ne ha0 hb0 (by decide)))
        have hs12 := tf_keepQ hs17_180 (hq8 _ (tf_ne ha0 hb0 (by decide)))
        have hs13 := tf_keepQ hs15_180 (hq8 _ (tf_ne ha0 hb0 (by decide)))
        have hs14 := tf_keepCQ hcNOP_180 (hq8 _ (tf_ne hqop hb0 (by decide)))
        have hs15 := tf_keepCQ hcNAR_180 (hq8 _ (tf_ne hqar hb0 (by decide)))
        have hs16 := tf_keepCQ hcNCL_180 (hq8 _ (tf_ne hqcl hb0 (by decide)))
        have hs17 := tf_keepQ hs8_180 (hq8 _ (tf_ne ha0 hb0 (by decide)))
        have hu8 := hu8.trans (congrArg (fun w => tf_up w (1) ((z5 + 1))) hcROW_180)
        refine lv_aload_n hx hb dX10_law_244 rfl (lv_at hl 0 rfl) ?_
        refine lv_aload_n hx hb dX10_law_245 rfl (lv_at hl 0 rfl) ?_
        refine tf_get hx hb hts inlX10 hown hK (ci := 10) rfl hW ha0 rfl 3 rfl (by decide) (hts _ fl_X10_13) dX10_law_246 (fun v18 hv18 hsv18 => ?_)
        obtain rfl : v18 = .ref b0 := Option.some.inj (hsv18.symm.trans hs9)
        refine tf_iconst hx hb dX10_law_249 ?_
        refine tf_iald (t0 := 0) hx hb hK hW hb0 rfl rfl (by omega) (by omega) dX10_law_250 (fun v19 hv19 hsv19 => ?_)
        obtain ⟨z20, rfl, hz20⟩ := tf_v0 hv19
        have er21 : (tf_up rROW_180 (1) ((z5 + 1))) 1 = z20 := hu8 ▸ tf_rw_of (by omega) hsv19 ⟨by omega, by omega⟩
        have hg22 := tf_rd1 (tf_ROof hW hb0) hsv19 ⟨by omega, by omega⟩ (by omega)
        refine tf_iconst hx hb dX10_law_251 ?_
        refine tf_isub hx hb dX10_law_252 ?_
        refine tf_calli (va_runV (As := [.int (Int32.ofInt ((z20 - 1)))]) (rest := []) ⟨hx, hb, hml, hown, hts⟩ (c_X10_tell l g T a0 ha0 ((z20 - 1)) ⟨by omega, by omega⟩) (cwV 1 hts gv_X10_117 rfl rfl rfl hd_X10_tell ⟨Nat.le_trans (by decide) hR1, Nat.le_trans (by decide) hR2⟩) (tf_preV hk hW ha0 (ci := 10) rfl rfl trivial) rfl rfl hl.1 rfl (lv_room (Nat.le_of_ble_eq_true rfl)) dX10_law_253 ⟨Nat.zero_le _, Nat.zero_le _⟩) hW (by decide) (fun z23 H23 locs23 hW hF23 hp23 => ?_)
        have hs24 := tf_keepF hF23 ha0 rfl rfl (by decide) hs9
        have hs25 := tf_keepF hF23 ha0 rfl rfl (by decide) hs10
        have hs26 := tf_keepF hF23 ha0 rfl rfl (by decide) hs11
        have hs27 := tf_keepF hF23 ha0 rfl rfl (by decide) hs12
        have hs28 := tf_keepF hF23 ha0 rfl rfl (by decide) hs13
        have hs29 := tf_keepC hF23 hqop rfl (by decide) hs14
        have hs30 := tf_keepC hF23 hqar rfl (by decide) hs15
        have hs31 := tf_keepC hF23 hqcl rfl (by decide) hs16
        have hs32 := tf_keepF hF23 ha0 rfl rfl (by decide) hs17
        have hs33 := tf_keepC hF23 hb0 rfl (by decide) hu8
        obtain ⟨hp23_0, hp23_1, hp23_2⟩ := hp23
        exact tf_reti (z := z23) hx hb hr hlocks hQ hW ⟨by omega, by omega, ⟨(f8_180), hs32, ⟨by omega, by omega⟩, (by first | omega | assumption)⟩⟩ dX10_law_256
      · refine lv_aload_n hx hb dX10_law_188 rfl (lv_at hl 0 rfl) ?_
        refine tf_get hx hb hts inlX10 hown hK (ci := 10) rfl hW ha0 rfl 3 rfl (by decide) (hts _ fl_X10_13) dX10_law_189 (fun v34 hv34 hsv34 => ?_)
        obtain rfl : v34 = .ref b0 := Option.some.inj (hsv34.symm.trans hs3_180)
        refine lv_iload_n hx hb dX10_law_192 rfl (lv_at hl 1 rfl) ?_
        refine tf_bipush hx hb dX10_law_193 (by decide) ?_
        refine tf_iadd hx hb dX10_law_195 ?_
        refine tf_iconst hx hb dX10_law_196 ?_
        refine lv_iload_n hx hb dX10_law_197 rfl (lv_at hl 2 rfl) ?_
        refine tf_imul hx hb dX10_law_198 ?_
        refine tf_iadd hx hb dX10_law_199 ?_
        refine lv_aload_n hx hb dX10_law_200 rfl (lv_at hl 0 rfl) ?_
        refine tf_get hx hb hts inlX10 hown hK (ci := 10) rfl hW ha0 rfl 18 rfl (by decide) (hts _ fl_X10_33) dX10_law_201 (fun v35 hv35 hsv35 => ?_)
        obtain rfl : v35 = .ref qop := Option.some.inj (hsv35.symm.trans hs18_180)
        refine lv_iload_n hx hb dX10_law_204 rfl (lv_at hl 2 rfl) ?_
        refine tf_iald (t0 := 0) hx hb hK hW hqop rfl rfl (by omega) (by omega) dX10_law_205 (fun v36 hv36 hsv36 => ?_)
        obtain ⟨z37, rfl, hz37⟩ := tf_v0 hv36
        have er38 : rNOP_180 x2_180 = z37 := hcNOP_180 ▸ tf_rw_of (by omega) hsv36 ⟨by omega, by omega⟩
        refine tf_rwst (t0 := 0) hx hb hK hW hb0 rfl rfl (by omega) (by omega) (by decide) (tf_u0 (by omega) (by omega)) ⟨by omega, by omega⟩ trivial dX10_law_206 (fun H39 locs39 hW hu39 hq39 => ?_)
        have hZ := tf_zz_st hZ hq39
        have hs40 := tf_keepQ hs3_180 (hq39 _ (tf_ne ha0 hb0 (by decide)))
        have hs41 := tf_keepQ hs18_180 (hq39 _ (tf_ne ha0 hb0 (by decide)))
        have hs42 := tf_keepQ hs19_180 (hq39 _ (tf_ne ha0 hb0 (by decide)))
        have hs43 := tf_keepQ hs17_180 (hq39 _ (tf_ne ha0 hb0 (by decide)))
        have hs44 := tf_keepQ hs15_180 (hq39 _ (tf_ne ha0 hb0 (by decide)))
        have hs45 := tf_keepCQ hcNOP_180 (hq39 _ (tf_ne hqop hb0 (by decide)))
        have hs46 := tf_keepCQ hcNAR_180 (hq39 _ (tf_ne hqar hb0 (by decide)))
        have hs47 := tf_keepCQ hcNCL_180 (hq39 _ (tf_ne hqcl hb0 (by decide)))
        have hs48 := tf_keepQ hs8_180 (hq39 _ (tf_ne ha0 hb0 (by decide)))
        have hu39 := hu39.trans (congrArg (fun w => tf_up w (((x1_180 + 98) + (2 * x2_180))) (z37)) hcROW_180)
        refine lv_aload_n hx hb dX10_law_207 rfl (lv_at hl 0 rfl) ?_
        refine tf_get hx hb hts inlX10 hown hK (ci := 10) rfl hW ha0 rfl 3 rfl (by decide) (hts _ fl_X10_13) dX10_law_208 (fun v49 hv49 hsv49 => ?_)
        obtain rfl : v49 = .ref b0 := Option.some.inj (hsv49.symm.trans hs40)
        refine lv_iload_n hx hb dX10_law_211 rfl (lv_at hl 1 rfl) ?_
        refine tf_bipush hx hb dX10_law_212 (by decide) ?_
        refine tf_iadd hx hb dX10_law_214 ?_
        refine tf_iconst hx hb dX10_law_215 ?_
        refine lv_iload_n hx hb dX10_law_216 rfl (lv_at hl 2 rfl) ?_
        refine tf_imul hx hb dX10_law_217 ?_
        refine tf_iadd hx hb dX10_law_218 ?_
        refine tf_iconst hx hb dX10_law_219 ?_
        refine tf_iadd hx hb dX10_law_220 ?_
        refine lv_aload_n hx hb dX10_law_221 rfl (lv_at hl 0 rfl) ?_
        refine tf_get hx hb hts inlX10 hown hK (ci := 10) rfl hW ha0 rfl 19 rfl (by decide) (hts _ fl_X10_36) dX10_law_222 (fun v50 hv50 hsv50 => ?_)
        obtain rfl : v50 = .ref qar := Option.some.inj (hsv50.symm.trans hs42)
        refine lv_iload_n hx hb dX10_law_225 rfl (lv_at hl 2 rfl) ?_
        refine tf_iald (t0 := 0) hx hb hK hW hqar rfl rfl (by omega) (by omega) dX10_law_226 (fun v51 hv51 hsv51 => ?_)
        obtain ⟨z52, rfl, hz52⟩ := tf_v0 hv51
        have er53 : rNAR_180 x2_180 = z52 := hs46 ▸ tf_rw_of (by omega) hsv51 ⟨by omega, by omega⟩
        refine tf_rwst (t0 := 0) hx hb hK hW hb0 rfl rfl (by omega) (by omega) (by decide) (tf_u0 (by omega) (by omega)) ⟨by omega, by omega⟩ trivial dX10_law_227 (fun H54 locs54 hW hu54 hq54 => ?_)
        have hZ := tf_zz_st hZ hq54
        have hs55 := tf_keepQ hs40 (hq54 _ (tf_ne ha0 hb0 (by decide)))
        have hs56 := tf_keepQ hs41 (hq54 _ (tf_ne ha0 hb0 (by decide)))
        have hs57 := tf_keepQ hs42 (hq54 _ (tf_ne ha0 hb0 (by decide)))
        have hs58 := tf_keepQ hs43 (hq54 _ (tf_ne ha0 hb0 (by decide)))
        have hs59 := tf_keepQ hs44 (hq54 _ (tf_ne ha0 hb0 (by decide)))
        have hs60 := tf_keepCQ hs45 (hq54 _ (tf_ne hqop hb0 (by decide)))
        have hs61 := tf_keepCQ hs46 (hq54 _ (tf_ne hqar hb0 (by decide)))
        have hs62 := tf_keepCQ hs47 (hq54 _ (tf_ne hqcl hb0 (by decide)))
        have hs63 := tf_keepQ hs48 (hq54 _ (tf_ne ha0 hb0 (by decide)))
        have hu54 := hu54.trans (congrArg (fun w => tf_up w ((((x1_180 + 98) + (2 * x2_180)) + 1)) (z52)) hu39)
        refine lv_iinc (v := Int32.ofInt ((x2_180 + 1))) (lv' := [(2, .int (Int32.ofInt ((x2_180 + 1)))), (0, .ref a0), (1, .int (Int32.ofInt x1_180))]) hx hb dX10_law_228 hl (k := 2) rfl (Int32.ofInt_add _ _).symm (by decide) rfl (fun ls hl => ?_)
        refine lv_goto (tgt := 180) hx hb dX10_law_231 (by decide) ?_
        exact ih_180 (x1_180) ⟨by omega, by omega⟩ ((x2_180 + 1)) ⟨by omega, by omega⟩ (f17_180) ⟨by omega, by omega⟩ (f15_180) ⟨by omega, by omega⟩ rNOP_180 (trivial) rNAR_180 (trivial) rNCL_180 (trivial) (f8_180) ⟨by omega, by omega⟩ (tf_up (tf_up rROW_180 (((x1_180 + 98) + (2 * x2_180))) (z37)) ((((x1_180 + 98) + (2 * x2_180)) + 1)) (z52)) (by first | exact tf_l2_0 hRROW_145 (by omega) | exact tf_l2_st hRROW_180 (by omega) (by omega) (by omega) er38 er53) (by first | omega | assumption) (by first | omega | assumption) (by first | omega | assumption) (by first | omega | assumption) (by omega) _ _ hW hs55 hs56 hs57 hs58 hs59 hs60 hs61 hs62 hs63 hu54 hZ _ (lv_sub hl [1, 2, 0] rfl)
  have j_145 : ∀ (n_145 : Nat), ∀ (x1_145 : Int), 430 ≤ x1_145 ∧ x1_145 ≤ 4930 → ∀ (x2_145 : Int), 0 ≤ x2_145 ∧ x2_145 ≤ 96 → ∀ (f17_145 : Int), 0 ≤ f17_145 ∧ f17_145 ≤ 400 → ∀ (f15_145 : Int), 0 ≤ f15_145 ∧ f15_145 ≤ 12 → ∀ (rNOP_145 : Int → Int), (True) → ∀ (rNAR_145 : Int → Int), (True) → ∀ (rNCL_145 : Int → Int), (True) → ∀ (f8_145 : Int), 0 ≤ f8_145 ∧ f8_145 ≤ 0 → ∀ (rROW_145 : Int → Int), (tf_l1 r0 rNCL_145 x1_145 f15_145 x2_145 rROW_145) → (tf_CL rNCL_145 rNOP_145 rNAR_145 f15_145 f17_145) → (x1_145 = 430 + 900 * r0 1) → (r0 1 ≤ 5) → (x2_145 ≤ 8 * f15_145) → (8 * f15_145 - x2_145 + 1 ≤ (n_145 : Int)) → ∀ (H : Heap) (locs : List Loc), tf_n tf_ktw g M_X10_law T s.heap T H locs → tf_s H a0 (g.1.2 10 3) = some (.ref b0) → tf_s H a0 (g.1.2 10 18) = some (.ref qop) → tf_s H a0 (g.1.2 10 19) = some (.ref qar) → tf_s H a0 (g.1.2 10 16) = some (.ref qcl) → tf_s H a0 (g.1.2 10 17) = some (.int (Int32.ofInt f17_145)) → tf_s H a0 (g.1.2 10 15) = some (.int (Int32.ofInt f15_145)) → tf_rw H qop = rNOP_145 → tf_rw H qar = rNAR_145 → tf_rw H qcl = rNCL_145 → tf_s H a0 (g.1.2 10 8) = some (.int (Int32.ofInt f8_145)) → tf_rw H b0 = rROW_145 → tf_zz g T b0 H → ∀ (ls : Array Slot), lv_has ls 3 [(0, .ref a0), (1, .int (Int32.ofInt x1_145)), (2, .int (Int32.ofInt x2_145))] → W p l e R s m args below meth c H locs 0 0 Q (F0 m 145 ls []) := by
    intro n_145
    induction n_145 with
    | zero =>
      intro x1_145 hx1_145 x2_145 hx2_145 f17_145 hf17_145 f15_145 hf15_145 rNOP_145 hRNOP_145 rNAR_145 hRNAR_145 rNCL_145 hRNCL_145 f8_145 hf8_145 rROW_145 hRROW_145 hi0_145 hi1_145 hi2_145 hi3_145 hm_145
      exfalso; omega
    | succ n_145 ih_145 =>
      intro x1_145 hx1_145 x2_145 hx2_145 f17_145 hf17_145 f15_145 hf15_145 rNOP_145 hRNOP_145 rNAR_145 hRNAR_145 rNCL_145 hRNCL_145 f8_145 hf8_145 rROW_145 hRROW_145 hi0_145 hi1_145 hi2_145 hi3_145 hm_145 H locs hW hs3_145 hs18_145 hs19_145 hs16_145 hs17_145 hs15_145 hcNOP_145 hcNAR_145 hcNCL_145 hs8_145 hcROW_145 hZ ls hl
      refine lv_iload_n hx hb dX10_law_145 rfl (lv_at hl 2 rfl) ?_
      refine tf_bipush hx hb dX10_law_146 (by decide) ?_
      refine lv_aload_n hx hb dX10_law_148 rfl (lv_at hl 0 rfl) ?_
      refine tf_get hx hb hts inlX10 hown hK (ci := 10) rfl hW ha0 rfl 15 rfl (by decide) (hts _ fl_X10_317) dX10_law_149 (fun v64 hv64 hsv64 => ?_)
      obtain rfl : v64 = .int (Int32.ofInt f15_145) := Option.some.inj (hsv64.symm.trans hs15_145)
      refine tf_imul hx hb dX10_law_152 ?_
      refine tf_icmp_ge (tgt := 178) hx hb ⟨by omega, by omega⟩ ⟨by omega, by omega⟩ dX10_law_153 (by decide) (fun h65 => ?_) (fun h65 => ?_)
      · refine tf_iconst hx hb dX10_law_178 ?_
        refine lv_istore_n (lv' := [(2, .int (Int32.ofInt 0)), (0, .ref a0), (1, .int (Int32.ofInt x1_145))]) hx hb dX10_law_179 rfl hl (by decide) rfl (fun ls hl => ?_)
        exact j_180 ((f17_145 - 0 + 1 : Int)).toNat (x1_145) ⟨by omega, by omega⟩ (0) ⟨by omega, by omega⟩ (f17_145) ⟨by omega, by omega⟩ (f15_145) ⟨by omega, by omega⟩ rNOP_145 (trivial) rNAR_145 (trivial) rNCL_145 (trivial) (f8_145) ⟨by omega, by omega⟩ rROW_145 (by first | exact tf_l2_0 hRROW_145 (by omega) | exact tf_l2_st hRROW_180 (by omega) (by omega) (by omega) er38 er53) (by first | omega | assumption) (by first | omega | assumption) (by first | omega | assumption) (by first | omega | assumption) (by omega) _ _ hW hs3_145 hs18_145 hs19_145 hs17_145 hs15_145 hcNOP_145 hcNAR_145 hcNCL_145 hs8_145 hcROW_145 hZ _ (lv_sub hl [1, 2, 0] rfl)
      · refine lv_aload_n hx hb dX10_law_156 rfl (lv_at hl 0 rfl) ?_
        refine tf_get hx hb hts inlX10 hown hK (ci := 10) rfl hW ha0 rfl 3 rfl (by decide) (hts _ fl_X10_13) dX10_law_157 (fun v66 hv66 hsv66 => ?_)
        obtain rfl : v66 = .ref b0 := Option.some.inj (hsv66.symm.trans hs3_145)
        refine lv_iload_n hx hb dX10_law_160 rfl (lv_at hl 1 rfl) ?_
        refine tf_iconst hx hb dX10_law_161 ?_
        refine tf_iadd hx hb dX10_law_162 ?_
        refine lv_iload_n hx hb dX10_law_163 rfl (lv_at hl 2 rfl) ?_
        refine tf_iadd hx hb dX10_law_164 ?_
        refine lv_aload_n hx hb dX10_law_165 rfl (lv_at hl 0 rfl) ?_
        refine tf_get hx hb hts inlX10 hown hK (ci := 10) rfl hW ha0 rfl 16 rfl (by decide) (hts _ fl_X10_30) dX10_law_166 (fun v67 hv67 hsv67 => ?_)
        obtain rfl : v67 = .ref qcl := Option.some.inj (hsv67.symm.trans hs16_145)
        refine lv_iload_n hx hb dX10_law_169 rfl (lv_at hl 2 rfl) ?_
        refine tf_iald (t0 := 0) hx hb hK hW hqcl rfl rfl (by omega) (by omega) dX10_law_170 (fun v68 hv68 hsv68 => ?_)
        obtain ⟨z69, rfl, hz69⟩ := tf_v0 hv68
        have er70 : rNCL_145 x2_145 = z69 := hcNCL_145 ▸ tf_rw_of (by omega) hsv68 ⟨by omega, by omega⟩
        refine tf_rwst (t0 := 0) hx hb hK hW hb0 rfl rfl (by omega) (by omega) (by decide) (tf_u0 (by omega) (by omega)) ⟨by omega, by omega⟩ trivial dX10_law_171 (fun H71 locs71 hW hu71 hq71 => ?_)
        have hZ := tf_zz_st hZ hq71
        have hs72 := tf_keepQ hs3_145 (hq71 _ (tf_ne ha0 hb0 (by decide)))
        have hs73 := tf_keepQ hs18_145 (hq71 _ (tf_ne ha0 hb0 (by decide)))
        have hs74 := tf_keepQ hs19_145 (hq71 _ (tf_ne ha0 hb0 (by decide)))
        have hs75 := tf_keepQ hs16_145 (hq71 _ (tf_ne ha0 hb0 (by decide)))
        have hs76 := tf_keepQ hs17_145 (hq71 _ (tf_ne ha0 hb0 (by decide)))
        have hs77 := tf_keepQ hs15_145 (hq71 _ (tf_ne ha0 hb0 (by decide)))
        have hs78 := tf_keepCQ hcNOP_145 (hq71 _ (tf_ne hqop hb0 (by decide)))
        have hs79 := tf_keepCQ hcNAR_145 (hq71 _ (tf_ne hqar hb0 (by decide)))
        have hs80 := tf_keepCQ hcNCL_145 (hq71 _ (tf_ne hqcl hb0 (by decide)))
        have hs81 := tf_keepQ hs8_145 (hq71 _ (tf_ne ha0 hb0 (by decide)))
        have hu71 := hu71.trans (congrArg (fun w => tf_up w (((x1_145 + 2) + x2_145)) (z69)) hcROW_145)
        refine lv_iinc (v := Int32.ofInt ((x2_145 + 1))) (lv' := [(2, .int (Int32.ofInt ((x2_145 + 1)))), (0, .ref a0), (1, .int (Int32.ofInt x1_145))]) hx hb dX10_law_172 hl (k := 2) rfl (Int32.ofInt_add _ _).symm (by decide) rfl (fun ls hl => ?_)
        refine lv_goto (tgt := 145) hx hb dX10_law_175 (by decide) ?_
        exact ih_145 (x1_145) ⟨by omega, by omega⟩ ((x2_145 + 1)) ⟨by omega, by omega⟩ (f17_145) ⟨by omega, by omega⟩ (f15_145) ⟨by omega, by omega⟩ rNOP_145 (trivial) rNAR_145 (trivial) rNCL_145 (trivial) (f8_145) ⟨by omega, by omega⟩ (tf_up rROW_145 (((x1_145 + 2) + x2_145)) (z69)) (by first | exact tf_l1_0 | exact tf_l1_st hRROW_145 (by omega) (by omega) er70) (by first | assumption | exact hi2_51.resolve_left (by omega)) (by first | omega | assumption) (by first | omega | assumption) (by first | omega | assumption) (by omega) _ _ hW hs72 hs73 hs74 hs75 hs76 hs77 hs78 hs79 hs80 hs81 hu71 hZ _ (lv_sub hl [1, 2, 0] rfl)
  have j_51 : ∀ (n_51 : Nat), ∀ (f14_51 : Int), 0 ≤ f14_51 ∧ f14_51 ≤ 1 → ∀ (f9_51 : Int), 0 ≤ f9_51 ∧ f9_51 ≤ 400 → ∀ (f10_51 : Int), 0 ≤ f10_51 ∧ f10_51 ≤ 400 → ∀ (f11_51 : Int), 0 ≤ f11_51 ∧ f11_51 ≤ 3 → ∀ (f12_51 : Int), (-9223372036854775808) ≤ f12_51 ∧ f12_51 ≤ 9223372036854775807 → ∀ (f17_51 : Int), 0 ≤ f17_51 ∧ f17_51 ≤ 400 → ∀ (f15_51 : Int), 0 ≤ f15_51 ∧ f15_51 ≤ 12 → ∀ (rNOP_51 : Int → Int), (True) → ∀ (rNAR_51 : Int → Int), (True) → ∀ (rNCL_51 : Int → Int), (True) → (f9_51 ≤ f10_51 ∧ f10_51 ≤ t0 ∧ (f11_51 = 0 → f9_51 = t0) ∧ (f11_51 ≠ 0 → f9_51 < f10_51) ∧ (f11_51 = 1 → 26 < f12_51 → f9_51 + 2 ≤ f10_51)) → (f17_51 ≤ f9_51) → (f14_51 = 1 ∨ tf_CL rNCL_51 rNOP_51 rNAR_51 f15_51 f17_51) → (r0 1 ≤ 5) → (401 - f9_51 + 1 ≤ (n_51 : Int)) → ∀ (H : Heap) (locs : List Loc), tf_n tf_kt g M_X10_law T s.heap T H locs → tf_s H a0 (g.1.2 10 8) = some (.int (Int32.ofInt t0)) → tf_s H a0 (g.1.2 10 3) = some (.ref b0) → tf_rw H b0 = r0 → tf_s H a0 (g.1.2 10 18) = some (.ref qop) → tf_s H a0 (g.1.2 10 19) = some (.ref qar) → tf_s H a0 (g.1.2 10 16) = some (.ref qcl) → tf_s H a0 (g.1.2 10 14) = some (.int (Int32.ofInt f14_51)) → tf_s H a0 (g.1.2 10 9) = some (.int (Int32.ofInt f9_51)) → tf_s H a0 (g.1.2 10 10) = some (.int (Int32.ofInt f10_51)) → tf_s H a0 (g.1.2 10 11) = some (.int (Int32.ofInt f11_51)) → tf_s H a0 (g.1.2 10 12) = some (.long (Int64.ofInt f12_51)) → tf_s H a0 (g.1.2 10 17) = some (.int (Int32.ofInt f17_51)) → tf_s H a0 (g.1.2 10 15) = some (.int (Int32.ofInt f15_51)) → tf_rw H qop = rNOP_51 → tf_rw H qar = rNAR_51 → tf_rw H qcl = rNCL_51 → ∀ (ls : Array Slot), lv_has ls 3 [(0, .ref a0)] → W p l e R s m args below meth c H locs 0 0 Q (F0 m 51 ls []) := by
    intro n_51
    induction n_51 with
    | zero =>
      intro f14_51 hf14_51 f9_51 hf9_51 f10_51 hf10_51 f11_51 hf11_51 f12_51 hf12_51 f17_51 hf17_51 f15_51 hf15_51 rNOP_51 hRNOP_51 rNAR_51 hRNAR_51 rNCL_51 hRNCL_51 hi0_51 hi1_51 hi2_51 hi3_51 hm_51
      exfalso; omega
    | succ n_51 ih_51 =>
      intro f14_51 hf14_51 f9_51 hf9_51 f10_51 hf10_51 f11_51 hf11_51 f12_51 hf12_51 f17_51 hf17_51 f15_51 hf15_51 rNOP_51 hRNOP_51 rNAR_51 hRNAR_51 rNCL_51 hRNCL_51 hi0_51 hi1_51 hi2_51 hi3_51 hm_51 H locs hW hs8_51 hs3_51 hcROW_51 hs18_51 hs19_51 hs16_51 hs14_51 hs9_51 hs10_51 hs11_51 hs12_51 hs17_51 hs15_51 hcNOP_51 hcNAR_51 hcNCL_51 ls hl
      refine lv_aload_n hx hb dX10_law_51 rfl (lv_at hl 0 rfl) ?_
      refine tf_get hx hb hts inlX10 hown hK (ci := 10) rfl hW ha0 rfl 14 rfl (by decide) (hts _ fl_X10_200) dX10_law_52 (fun v82 hv82 hsv82 => ?_)
      obtain rfl : v82 = .int (Int32.ofInt f14_51) := Option.some.inj (hsv82.symm.trans hs14_51)
      refine tf_if_ne (tgt := 78) hx hb ⟨by omega, by omega⟩ dX10_law_55 (by decide) (fun h83 => ?_) (fun h83 => ?_)
      · refine lv_aload_n hx hb dX10_law_78 rfl (lv_at hl 0 rfl) ?_
        refine tf_get hx hb hts inlX10 hown hK (ci := 10) rfl hW ha0 rfl 14 rfl (by decide) (hts _ fl_X10_200) dX10_law_79 (fun v84 hv84 hsv84 => ?_)
        obtain rfl : v84 = .int (Int32.ofInt f14_51) := Option.some.inj (hsv84.symm.trans hs14_51)
        refine tf_if_ne (tgt := 97) hx hb ⟨by omega, by omega⟩ dX10_law_82 (by decide) (fun h85 => ?_) (fun h85 => ?_)
        · refine lv_aload_n hx hb dX10_law_97 rfl (lv_at hl 0 rfl) ?_
          refine tf_iconst hx hb dX10_law_98 ?_
          refine tf_put hx hb hts inlX10 tyX10 tyX10_ok nmX10 hown hK (ci := 10) rfl hW ha0 rfl rfl 8 rfl (by decide) (by decide) (hts _ fl_X10_183) rfl (tf_u0 (by omega) (by omega)) rfl rfl dX10_law_99 (fun H86 locs86 hW hs86 ht86 hq86 => ?_)
          have hs87 := (ht86 3 (by decide) (by decide)).trans hs3_51
          have hs88 := tf_keepCQ hcROW_51 (hq86 _ (tf_ne hb0 ha0 (by decide)))
          have hs89 := (ht86 18 (by decide) (by decide)).trans hs18_51
          have hs90 := (ht86 19 (by decide) (by decide)).trans hs19_51
          have hs91 := (ht86 16 (by decide) (by decide)).trans hs16_51
          have hs92 := (ht86 14 (by decide) (by decide)).trans hs14_51
          have hs93 := (ht86 9 (by decide) (by decide)).trans hs9_51
          have hs94 := (ht86 10 (by decide) (by decide)).trans hs10_51
          have hs95 := (ht86 11 (by decide) (by decide)).trans hs11_51
          have hs96 := (ht86 12 (by decide) (by decide)).trans hs12_51
          have hs97 := (ht86 17 (by decide) (by decide)).trans hs17_51
          have hs98 := (ht86 15 (by decide) (by decide)).trans hs15_51
          have hs99 := tf_keepCQ hcNOP_51 (hq86 _ (tf_ne hqop ha0 (by decide)))
          have hs100 := tf_keepCQ hcNAR_51 (hq86 _ (tf_ne hqar ha0 (by decide)))
          have hs101 := tf_keepCQ hcNCL_51 (hq86 _ (tf_ne hqcl ha0 (by decide)))
          refine lv_aload_n hx hb dX10_law_102 rfl (lv_at hl 0 rfl) ?_
          refine tf_get hx hb hts inlX10 hown hK (ci := 10) rfl hW ha0 rfl 14 rfl (by decide) (hts _ fl_X10_200) dX10_law_103 (fun v102 hv102 hsv102 => ?_)
          obtain rfl : v102 = .int (Int32.ofInt f14_51) := Option.some.inj (hsv102.symm.trans hs92)
          refine tf_if_eq (tgt := 116) hx hb ⟨by omega, by omega⟩ dX10_law_106 (by decide) (fun h103 => ?_) (fun h103 => ?_)
          · exfalso; omega
          · refine lv_aload_n hx hb dX10_law_109 rfl (lv_at hl 0 rfl) ?_
            refine tf_bipush hx hb dX10_law_110 (by decide) ?_
            refine tf_calli (va_runV (As := [.int (Int32.ofInt ((-6)))]) (rest := []) ⟨hx, hb, hml, hown, hts⟩ (c_X10_tell l g T a0 ha0 ((-6)) ⟨by omega, by omega⟩) (cwV 1 hts gv_X10_117 rfl rfl rfl hd_X10_tell ⟨Nat.le_trans (by decide) hR1, Nat.le_trans (by decide) hR2⟩) (tf_preV hk hW ha0 (ci := 10) rfl rfl trivial) rfl rfl hl.1 rfl (lv_room (Nat.le_of_ble_eq_true rfl)) dX10_law_112 ⟨Nat.zero_le _, Nat.zero_le _⟩) hW (by decide) (fun z104 H104 locs104 hW hF104 hp104 => ?_)
            have hs105 := tf_keepF hF104 ha0 rfl rfl (by decide) hs87
            have hs106 := tf_keepC hF104 hb0 rfl (by decide) hs88
            have hs107 := tf_keepF hF104 ha0 rfl rfl (by decide) hs89
            have hs108 := tf_keepF hF104 ha0 rfl rfl (by decide) hs90
            have hs109 := tf_keepF hF104 ha0 rfl rfl (by decide) hs91
            have hs110 := tf_keepF hF104 ha0 rfl rfl (by decide) hs92
            have hs111 := tf_keepF hF104 ha0 rfl rfl (by decide) hs93
            have hs112 := tf_keepF hF104 ha0 rfl rfl (by decide) hs94
            have hs113 := tf_keepF hF104 ha0 rfl rfl (by decide) hs95
            have hs114 := tf_keepF hF104 ha0 rfl rfl (by decide) hs96
            have hs115 := tf_keepF hF104 ha0 rfl rfl (by decide) hs97
            have hs116 := tf_keepF hF104 ha0 rfl rfl (by decide) hs98
            have hs117 := tf_keepC hF104 hqop rfl (by decide) hs99
            have hs118 := tf_keepC hF104 hqar rfl (by decide) hs100
            have hs119 := tf_keepC hF104 hqcl rfl (by decide) hs101
            have hs120 := tf_keepF hF104 ha0 rfl rfl (by decide) hs86
            obtain ⟨hp104_0, hp104_1, hp104_2⟩ := hp104
            exact tf_reti (z := z104) hx hb hr hlocks hQ hW ⟨by omega, by omega, ⟨(0), hs120, ⟨by omega, by omega⟩, (by first | omega | assumption)⟩⟩ dX10_law_115
        · exfalso; omega
      · refine lv_aload_n hx hb dX10_law_58 rfl (lv_at hl 0 rfl) ?_
        refine tf_bipush hx hb dX10_law_59 (by decide) ?_
        refine tf_calli (va_runV (As := [.int (Int32.ofInt 59)]) (rest := []) ⟨hx, hb, hml, hown, hts⟩ (c_X10_isSign l g T a0 ha0 (59) ⟨by omega, by omega⟩ (f11_51) ⟨by omega, by omega⟩ (f12_51) ⟨by omega, by omega⟩) (cwV 1 hts gv_X10_271 rfl rfl rfl hd_X10_isSign ⟨Nat.le_trans (by decide) hR1, Nat.le_trans (by decide) hR2⟩) (tf_preV hk hW ha0 (ci := 10) rfl rfl ⟨hs11_51, hs12_51⟩) rfl rfl hl.1 rfl (lv_room (Nat.le_of_ble_eq_true rfl)) dX10_law_61 ⟨Nat.zero_le _, Nat.zero_le _⟩) hW (by decide) (fun z121 H121 locs121 hW hF121 hp121 => ?_)
        have hs122 := tf_keepF hF121 ha0 rfl rfl (by decide) hs8_51
        have hs123 := tf_keepF hF121 ha0 rfl rfl (by decide) hs3_51
        have hs124 := tf_keepC hF121 hb0 rfl (by decide) hcROW_51
        have hs125 := tf_keepF hF121 ha0 rfl rfl (by decide) hs18_51
        have hs126 := tf_keepF hF121 ha0 rfl rfl (by decide) hs19_51
        have hs127 := tf_keepF hF121 ha0 rfl rfl (by decide) hs16_51
        have hs128 := tf_keepF hF121 ha0 rfl rfl (by decide) hs14_51
        have hs129 := tf_keepF hF121 ha0 rfl rfl (by decide) hs9_51
        have hs130 := tf_keepF hF121 ha0 rfl rfl (by decide) hs10_51
        have hs131 := tf_keepF hF121 ha0 rfl rfl (by decide) hs11_51
        have hs132 := tf_keepF hF121 ha0 rfl rfl (by decide) hs12_51
        have hs133 := tf_keepF hF121 ha0 rfl rfl (by decide) hs17_51
        have hs134 := tf_keepF hF121 ha0 rfl rfl (by decide) hs15_51
        have hs135 := tf_keepC hF121 hqop rfl (by decide) hcNOP_51
        have hs136 := tf_keepC hF121 hqar rfl (by decide) hcNAR_51
        have hs137 := tf_keepC hF121 hqcl rfl (by decide) hcNCL_51
        rcases hp121 with ⟨rfl, h138⟩ | ⟨rfl⟩
        · refine tf_if_eq (tgt := 78) hx hb ⟨by decide, by decide⟩ dX10_law_64 (by decide) (fun h139 => ?_) (fun h139 => ?_)
          · exfalso; omega
          · refine lv_aload_n hx hb dX10_law_67 rfl (lv_at hl 0 rfl) ?_
            refine tf_callv (va_runV (As := []) (rest := []) ⟨hx, hb, hml, hown, hts⟩ (c_X10_next l g T a0 ha0 (t0) ⟨by omega, by omega⟩ (f10_51) ⟨by omega, by omega⟩ (by first | omega | assumption)) (cwV 0 hts gv_X10_204 rfl rfl rfl hd_X10_next ⟨Nat.le_trans (by decide) hR1, Nat.le_trans (by decide) hR2⟩) (tf_preV hk hW ha0 (ci := 10) rfl rfl ⟨hs122, hs130⟩) rfl rfl hl.1 rfl (lv_room (Nat.le_of_ble_eq_true rfl)) dX10_law_68 ⟨Nat.zero_le _, Nat.zero_le _⟩) hW (by decide) (fun H140 locs140 hW hF140 hp140 => ?_)
            have hs141 := tf_keepF hF140 ha0 rfl rfl (by decide) hs122
            have hs142 := tf_keepF hF140 ha0 rfl rfl (by decide) hs123
            have hs143 := tf_keepC hF140 hb0 rfl (by decide) hs124
            have hs144 := tf_keepF hF140 ha0 rfl rfl (by decide) hs125
            have hs145 := tf_keepF hF140 ha0 rfl rfl (by decide) hs126
            have hs146 := tf_keepF hF140 ha0 rfl rfl (by decide) hs127
            have hs147 := tf_keepF hF140 ha0 rfl rfl (by decide) hs128
            have hs148 := tf_keepF hF140 ha0 rfl rfl (by decide) hs133
            have hs149 := tf_keepF hF140 ha0 rfl rfl (by decide) hs134
            have hs150 := tf_keepC hF140 hqop rfl (by decide) hs135
            have hs151 := tf_keepC hF140 hqar rfl (by decide) hs136
            have hs152 := tf_keepC hF140 hqcl rfl (by decide) hs137
            obtain ⟨gf1_140, gt1_140, gs1_140, gw1_140, hX140_0, hX140_1, hX140_2, hX140_3, hB140_0, hB140_1, hB140_2, hB140_3, hR140_0, hR140_1⟩ := hp140
            refine lv_aload_n hx hb dX10_law_71 rfl (lv_at hl 0 rfl) ?_
            refine tf_callv (va_runV (As := []) (rest := []) ⟨hx, hb, hml, hown, hts⟩ (c_X10_readClause l g T a0 ha0 qop hqop qar hqar qcl hqcl (t0) ⟨by omega, by omega⟩ (gf1_140) ⟨by omega, by omega⟩ (gt1_140) ⟨by omega, by omega⟩ (gs1_140) ⟨by omega, by omega⟩ (gw1_140) ⟨by omega, by omega⟩ (f14_51) ⟨by omega, by omega⟩ (f17_51) ⟨by omega, by omega⟩ (f15_51) ⟨by omega, by omega⟩ rNOP_51 rNAR_51 rNCL_51 (by first | omega | assumption) (by first | omega | assumption) (by first | omega | assumption) (hi2_51.resolve_left (by omega))) (cwV 0 hts gv_X10_328 rfl rfl rfl hd_X10_readClause ⟨Nat.le_trans (by decide) hR1, Nat.le_trans (by decide) hR2⟩) (tf_preV hk hW ha0 (ci := 10) rfl rfl ⟨hs144, hs145, hs146, hs141, hX140_0, hX140_1, hX140_2, hX140_3, hs147, hs148, hs149, hs150, hs151, hs152⟩) rfl rfl hl.1 rfl (lv_room (Nat.le_of_ble_eq_true rfl)) dX10_law_72 ⟨Nat.zero_le _, Nat.zero_le _⟩) hW (by decide) (fun H153 locs153 hW hF153 hp153 => ?_)
            have hs154 := tf_keepF hF153 ha0 rfl rfl (by decide) hs141
            have hs155 := tf_keepF hF153 ha0 rfl rfl (by decide) hs142
            have hs156 := tf_keepC hF153 hb0 rfl (by decide) hs143
            have hs157 := tf_keepF hF153 ha0 rfl rfl (by decide) hs144
            have hs158 := tf_keepF hF153 ha0 rfl rfl (by decide) hs145
            have hs159 := tf_keepF hF153 ha0 rfl rfl (by decide) hs146
            obtain ⟨gb1_153, gf1_153, gt1_153, gs1_153, gw1_153, gc1_153, gk1_153, rop1_153, rar1_153, rcl1_153, hX153_0, hX153_1, hX153_2, hX153_3, hX153_4, hX153_5, hX153_6, hX153_7, hX153_8, hX153_9, hB153_0, hB153_1, hB153_2, hB153_3, hB153_4, hB153_5, hB153_6, hR153_0, hR153_1, hR153_2, hR153_3⟩ := hp153
            refine lv_goto (tgt := 51) hx hb dX10_law_75 (by decide) ?_
            exact ih_51 (gb1_153) ⟨by omega, by omega⟩ (gf1_153) ⟨by omega, by omega⟩ (gt1_153) ⟨by omega, by omega⟩ (gs1_153) ⟨by omega, by omega⟩ (gw1_153) ⟨by omega, by omega⟩ (gc1_153) ⟨by omega, by omega⟩ (gk1_153) ⟨by omega, by omega⟩ rop1_153 (trivial) rar1_153 (trivial) rcl1_153 (trivial) (by first | omega | assumption) (by first | omega | assumption) (by first | omega | assumption) (by first | omega | assumption) (by omega) _ _ hW hs154 hs155 hs156 hs157 hs158 hs159 hX153_0 hX153_1 hX153_2 hX153_3 hX153_4 hX153_5 hX153_6 hX153_7 hX153_8 hX153_9 _ (lv_sub hl [0] rfl)
        · refine tf_if_eq (tgt := 78) hx hb ⟨by decide, by decide⟩ dX10_law_64 (by decide) (fun h160 => ?_) (fun h160 => ?_)
          · refine lv_aload_n hx hb dX10_law_78 rfl (lv_at hl 0 rfl) ?_
            refine tf_get hx hb hts inlX10 hown hK (ci := 10) rfl hW ha0 rfl 14 rfl (by decide) (hts _ fl_X10_200) dX10_law_79 (fun v161 hv161 hsv161 => ?_)
            obtain rfl : v161 = .int (Int32.ofInt f14_51) := Option.some.inj (hsv161.symm.trans hs128)
            refine tf_if_ne (tgt := 97) hx hb ⟨by omega, by omega⟩ dX10_law_82 (by decide) (fun h162 => ?_) (fun h162 => ?_)
            · exfalso; omega
            · refine lv_aload_n hx hb dX10_law_85 rfl (lv_at hl 0 rfl) ?_
              refine tf_get hx hb hts inlX10 hown hK (ci := 10) rfl hW ha0 rfl 11 rfl (by decide) (hts _ fl_X10_220) dX10_law_86 (fun v163 hv163 hsv163 => ?_)
              obtain rfl : v163 = .int (Int32.ofInt f11_51) := Option.some.inj (hsv163.symm.trans hs131)
              refine tf_if_eq (tgt := 97) hx hb ⟨by omega, by omega⟩ dX10_law_89 (by decide) (fun h164 => ?_) (fun h164 => ?_)
              · refine lv_aload_n hx hb dX10_law_97 rfl (lv_at hl 0 rfl) ?_
                refine tf_iconst hx hb dX10_law_98 ?_
                refine tf_put hx hb hts inlX10 tyX10 tyX10_ok nmX10 hown hK (ci := 10) rfl hW ha0 rfl rfl 8 rfl (by decide) (by decide) (hts _ fl_X10_183) rfl (tf_u0 (by omega) (by omega)) rfl rfl dX10_law_99 (fun H165 locs165 hW hs165 ht165 hq165 => ?_)
                have hs166 := (ht165 3 (by decide) (by decide)).trans hs123
                have hs167 := tf_keepCQ hs124 (hq165 _ (tf_ne hb0 ha0 (by decide)))
                have hs168 := (ht165 18 (by decide) (by decide)).trans hs125
                have hs169 := (ht165 19 (by decide) (by decide)).trans hs126
                have hs170 := (ht165 16 (by decide) (by decide)).trans hs127
                have hs171 := (ht165 14 (by decide) (by decide)).trans hs128
                have hs172 := (ht165 9 (by decide) (by decide)).trans hs129
                have hs173 := (ht165 10 (by decide) (by decide)).trans hs130
                have hs174 := (ht165 11 (by decide) (by decide)).trans hs131
                have hs175 := (ht165 12 (by decide) (by decide)).trans hs132
                have hs176 := (ht165 17 (by decide) (by decide)).trans hs133
                have hs177 := (ht165 15 (by decide) (by decide)).trans hs134
                have hs178 := tf_keepCQ hs135 (hq165 _ (tf_ne hqop ha0 (by decide)))
                have hs179 := tf_keepCQ hs136 (hq165 _ (tf_ne hqar ha0 (by decide)))
                have hs180 := tf_keepCQ hs137 (hq165 _ (tf_ne hqcl ha0 (by decide)))
                refine lv_aload_n hx hb dX10_law_102 rfl (lv_at hl 0 rfl) ?_
                refine tf_get hx hb hts inlX10 hown hK (ci := 10) rfl hW ha0 rfl 14 rfl (by decide) (hts _ fl_X10_200) dX10_law_103 (fun v181 hv181 hsv181 => ?_)
                obtain rfl : v181 = .int (Int32.ofInt f14_51) := Option.some.inj (hsv181.symm.trans hs171)
                refine tf_if_eq (tgt := 116) hx hb ⟨by omega, by omega⟩ dX10_law_106 (by decide) (fun h182 => ?_) (fun h182 => ?_)
                · refine tf_sipush hx hb dX10_law_116 (by decide) ?_
                  refine tf_sipush hx hb dX10_law_119 (by decide) ?_
                  refine lv_aload_n hx hb dX10_law_122 rfl (lv_at hl 0 rfl) ?_
                  refine tf_get hx hb hts inlX10 hown hK (ci := 10) rfl hW ha0 rfl 3 rfl (by decide) (hts _ fl_X10_13) dX10_law_123 (fun v183 hv183 hsv183 => ?_)
                  obtain rfl : v183 = .ref b0 := Option.some.inj (hsv183.symm.trans hs166)
                  refine tf_iconst hx hb dX10_law_126 ?_
                  refine tf_iald (t0 := 0) hx hb hK hW hb0 rfl rfl (by omega) (by omega) dX10_law_127 (fun v184 hv184 hsv184 => ?_)
                  obtain ⟨z185, rfl, hz185⟩ := tf_v0 hv184
                  have er186 : r0 1 = z185 := hs167 ▸ tf_rw_of (by omega) hsv184 ⟨by omega, by omega⟩
                  have hg187 := tf_rd1 (tf_ROof hW hb0) hsv184 ⟨by omega, by omega⟩ (by omega)
                  refine tf_imul hx hb dX10_law_128 ?_
                  refine tf_iadd hx hb dX10_law_129 ?_
                  refine lv_istore_n (lv' := [(1, .int (Int32.ofInt ((430 + (900 * z185))))), (0, .ref a0)]) hx hb dX10_law_130 rfl hl (by decide) rfl (fun ls hl => ?_)
                  have hZ := tf_zz_in hW b0
                  have hW := tf_weak hW
                  refine lv_aload_n hx hb dX10_law_131 rfl (lv_at hl 1 rfl) ?_
                  refine tf_get hx hb hts inlX10 hown hK (ci := 10) rfl hW ha0 rfl 3 rfl (by decide) (hts _ fl_X10_13) dX10_law_132 (fun v188 hv188 hsv188 => ?_)
                  obtain rfl : v188 = .ref b0 := Option.some.inj (hsv188.symm.trans hs166)
                  refine lv_iload_n hx hb dX10_law_135 rfl (lv_at hl 0 rfl) ?_
                  refine tf_iconst hx hb dX10_law_136 ?_
                  refine tf_iadd hx hb dX10_law_137 ?_
                  refine lv_aload_n hx hb dX10_law_138 rfl (lv_at hl 1 rfl) ?_
                  refine tf_get hx hb hts inlX10 hown hK (ci := 10) rfl hW ha0 rfl 15 rfl (by decide) (hts _ fl_X10_317) dX10_law_139 (fun v189 hv189 hsv189 => ?_)
                  obtain rfl : v189 = .int (Int32.ofInt f15_51) := Option.some.inj (hsv189.symm.trans hs177)
                  refine tf_rwst (t0 := 0) hx hb hK hW hb0 rfl rfl (by omega) (by omega) (by decide) (tf_u0 (by omega) (by omega)) ⟨by omega, by omega⟩ trivial dX10_law_142 (fun H190 locs190 hW hu190 hq190 => ?_)
                  have hZ := tf_zz_st hZ hq190
                  have hs191 := tf_keepQ hs166 (hq190 _ (tf_ne ha0 hb0 (by decide)))
                  have hs192 := tf_keepQ hs168 (hq190 _ (tf_ne ha0 hb0 (by decide)))
                  have hs193 := tf_keepQ hs169 (hq190 _ (tf_ne ha0 hb0 (by decide)))
                  have hs194 := tf_keepQ hs170 (hq190 _ (tf_ne ha0 hb0 (by decide)))
                  have hs195 := tf_keepQ hs171 (hq190 _ (tf_ne ha0 hb0 (by decide)))
                  have hs196 := tf_keepQ hs172 (hq190 _ (tf_ne ha0 hb0 (by decide)))
                  have hs197 := tf_keepQ hs173 (hq190 _ (tf_ne ha0 hb0 (by decide)))
                  have hs198 := tf_keepQ hs174 (hq190 _ (tf_ne ha0 hb0 (by decide)))
                  have hs199 := tf_keepQ hs175 (hq190 _ (tf_ne ha0 hb0 (by decide)))
                  have hs200 := tf_keepQ hs176 (hq190 _ (tf_ne ha0 hb0 (by decide)))
                  have hs201 := tf_keepQ hs177 (hq190 _ (tf_ne ha0 hb0 (by decide)))
                  have hs202 := tf_keepCQ hs178 (hq190 _ (tf_ne hqop hb0 (by decide)))
                  have hs203 := tf_keepCQ hs179 (hq190 _ (tf_ne hqar hb0 (by decide)))
                  have hs204 := tf_keepCQ hs180 (hq190 _ (tf_ne hqcl hb0 (by decide)))
                  have hs205 := tf_keepQ hs165 (hq190 _ (tf_ne ha0 hb0 (by decide)))
                  have hu190 := hu190.trans (congrArg (fun w => tf_up w (((430 + (900 * z185)) + 1)) (f15_51)) hs167)
                  refine tf_iconst hx hb dX10_law_143 ?_
                  refine lv_istore_n (lv' := [(2, .int (Int32.ofInt 0)), (1, .int (Int32.ofInt ((430 + (900 * z185))))), (0, .ref a0)]) hx hb dX10_law_144 rfl hl (by decide) rfl (fun ls hl => ?_)
                  exact j_145 ((8 * f15_51 - 0 + 1 : Int)).toNat ((430 + (900 * z185))) ⟨by omega, by omega⟩ (0) ⟨by omega, by omega⟩ (f17_51) ⟨by omega, by omega⟩ (f15_51) ⟨by omega, by omega⟩ rNOP_51 (trivial) rNAR_51 (trivial) rNCL_51 (trivial) (0) ⟨by omega, by omega⟩ (tf_up r0 (((430 + (900 * z185)) + 1)) (f15_51)) (by first | exact tf_l1_0 | exact tf_l1_st hRROW_145 (by omega) (by omega) er186) (by first | assumption | exact hi2_51.resolve_left (by omega)) (by first | omega | assumption) (by first | omega | assumption) (by first | omega | assumption) (by omega) _ _ hW hs191 hs192 hs193 hs194 hs200 hs201 hs202 hs203 hs204 hs205 hu190 hZ _ (lv_sub hl [2, 1, 0] rfl)
                · exfalso; omega
              · refine lv_aload_n hx hb dX10_law_92 rfl (lv_at hl 0 rfl) ?_
                refine tf_iconst hx hb dX10_law_93 ?_
                refine tf_callv (va_runV (As := [.int (Int32.ofInt 0)]) (rest := []) ⟨hx, hb, hml, hown, hts⟩ (c_X10_must l g T a0 ha0 (0) ⟨by omega, by omega⟩ (t0) ⟨by omega, by omega⟩ (f9_51) ⟨by omega, by omega⟩ (f10_51) ⟨by omega, by omega⟩ (f11_51) ⟨by omega, by omega⟩ (f12_51) ⟨by omega, by omega⟩ (f14_51) ⟨by omega, by omega⟩ (by first | omega | assumption)) (cwV 1 hts gv_X10_235 rfl rfl rfl hd_X10_must ⟨Nat.le_trans (by decide) hR1, Nat.le_trans (by decide) hR2⟩) (tf_preV hk hW ha0 (ci := 10) rfl rfl ⟨hs122, hs129, hs130, hs131, hs132, hs128⟩) rfl rfl hl.1 rfl (lv_room (Nat.le_of_ble_eq_true rfl)) dX10_law_94 ⟨Nat.zero_le _, Nat.zero_le _⟩) hW (by decide) (fun H206 locs206 hW hF206 hp206 => ?_)
                have hs207 := tf_keepF hF206 ha0 rfl rfl (by decide) hs122
                have hs208 := tf_keepF hF206 ha0 rfl rfl (by decide) hs123
                have hs209 := tf_keepC hF206 hb0 rfl (by decide) hs124
                have hs210 := tf_keepF hF206 ha0 rfl rfl (by decide) hs125
                have hs211 := tf_keepF hF206 ha0 rfl rfl (by decide) hs126
                have hs212 := tf_keepF hF206 ha0 rfl rfl (by decide) hs127
                have hs213 := tf_keepF hF206 ha0 rfl rfl (by decide) hs133
                have hs214 := tf_keepF hF206 ha0 rfl rfl (by decide) hs134
                have hs215 := tf_keepC hF206 hqop rfl (by decide) hs135
                have hs216 := tf_keepC hF206 hqar rfl (by decide) hs136
                have hs217 := tf_keepC hF206 hqcl rfl (by decide) hs137
                obtain ⟨gb1_206, gf1_206, gt1_206, gs1_206, gw1_206, hX206_0, hX206_1, hX206_2, hX206_3, hX206_4, hB206_0, hB206_1, hB206_2, hB206_3, hB206_4, hR206_0⟩ := hp206
                refine lv_aload_n hx hb dX10_law_97 rfl (lv_at hl 0 rfl) ?_
                refine tf_iconst hx hb dX10_law_98 ?_
                refine tf_put hx hb hts inlX10 tyX10 tyX10_ok nmX10 hown hK (ci := 10) rfl hW ha0 rfl rfl 8 rfl (by decide) (by decide) (hts _ fl_X10_183) rfl (tf_u0 (by omega) (by omega)) rfl rfl dX10_law_99 (fun H218 locs218 hW hs218 ht218 hq218 => ?_)
                have hs219 := (ht218 3 (by decide) (by decide)).trans hs208
                have hs220 := tf_keepCQ hs209 (hq218 _ (tf_ne hb0 ha0 (by decide)))
                have hs221 := (ht218 18 (by decide) (by decide)).trans hs210
                have hs222 := (ht218 19 (by decide) (by decide)).trans hs211
                have hs223 := (ht218 16 (by decide) (by decide)).trans hs212
                have hs224 := (ht218 17 (by decide) (by decide)).trans hs213
                have hs225 := (ht218 15 (by decide) (by decide)).trans hs214
                have hs226 := tf_keepCQ hs215 (hq218 _ (tf_ne hqop ha0 (by decide)))
                have hs227 := tf_keepCQ hs216 (hq218 _ (tf_ne hqar ha0 (by decide)))
                have hs228 := tf_keepCQ hs217 (hq218 _ (tf_ne hqcl ha0 (by decide)))
                have hs229 := (ht218 14 (by decide) (by decide)).trans hX206_0
                refine lv_aload_n hx hb dX10_law_102 rfl (lv_at hl 0 rfl) ?_
                refine tf_get hx hb hts inlX10 hown hK (ci := 10) rfl hW ha0 rfl 14 rfl (by decide) (hts _ fl_X10_200) dX10_law_103 (fun v230 hv230 hsv230 => ?_)
                obtain rfl : v230 = .int (Int32.ofInt gb1_206) := Option.some.inj (hsv230.symm.trans hs229)
                refine tf_if_eq (tgt := 116) hx hb ⟨by omega, by omega⟩ dX10_law_106 (by decide) (fun h231 => ?_) (fun h231 => ?_)
                · refine tf_sipush hx hb dX10_law_116 (by decide) ?_
                  refine tf_sipush hx hb dX10_law_119 (by decide) ?_
                  refine lv_aload_n hx hb dX10_law_122 rfl (lv_at hl 0 rfl) ?_
                  refine tf_get hx hb hts inlX10 hown hK (ci := 10) rfl hW ha0 rfl 3 rfl (by decide) (hts _ fl_X10_13) dX10_law_123 (fun v232 hv232 hsv232 => ?_)
                  obtain rfl : v232 = .ref b0 := Option.some.inj (hsv232.symm.trans hs219)
                  refine tf_iconst hx hb dX10_law_126 ?_
                  refine tf_iald (t0 := 0) hx hb hK hW hb0 rfl rfl (by omega) (by omega) dX10_law_127 (fun v233 hv233 hsv233 => ?_)
                  obtain ⟨z234, rfl, hz234⟩ := tf_v0 hv233
                  have er235 : r0 1 = z234 := hs220 ▸ tf_rw_of (by omega) hsv233 ⟨by omega, by omega⟩
                  have hg236 := tf_rd1 (tf_ROof hW hb0) hsv233 ⟨by omega, by omega⟩ (by omega)
                  refine tf_imul hx hb dX10_law_128 ?_
                  refine tf_iadd hx hb dX10_law_129 ?_
                  refine lv_istore_n (lv' := [(1, .int (Int32.ofInt ((430 + (900 * z234))))), (0, .ref a0)]) hx hb dX10_law_130 rfl hl (by decide) rfl (fun ls hl => ?_)
                  have hZ := tf_zz_in hW b0
                  have hW := tf_weak hW
                  refine lv_aload_n hx hb dX10_law_131 rfl (lv_at hl 1 rfl) ?_
                  refine tf_get hx hb hts inlX10 hown hK (ci := 10) rfl hW ha0 rfl 3 rfl (by decide) (hts _ fl_X10_13) dX10_law_132 (fun v237 hv237 hsv237 => ?_)
                  obtain rfl : v237 = .ref b0 := Option.some.inj (hsv237.symm.trans hs219)
                  refine lv_iload_n hx hb dX10_law_135 rfl (lv_at hl 0 rfl) ?_
                  refine tf_iconst hx hb dX10_law_136 ?_
                  refine tf_iadd hx hb dX10_law_137 ?_
                  refine lv_aload_n hx hb dX10_law_138 rfl (lv_at hl 1 rfl) ?_
                  refine tf_get hx hb hts inlX10 hown hK (ci := 10) rfl hW ha0 rfl 15 rfl (by decide) (hts _ fl_X10_317) dX10_law_139 (fun v238 hv238 hsv238 => ?_)
                  obtain rfl : v238 = .int (Int32.ofInt f15_51) := Option.some.inj (hsv238.symm.trans hs225)
                  refine tf_rwst (t0 := 0) hx hb hK hW hb0 rfl rfl (by omega) (by omega) (by decide) (tf_u0 (by omega) (by omega)) ⟨by omega, by omega⟩ trivial dX10_law_142 (fun H239 locs239 hW hu239 hq239 => ?_)
                  have hZ := tf_zz_st hZ hq239
                  have hs240 := tf_keepQ hs219 (hq239 _ (tf_ne ha0 hb0 (by decide)))
                  have hs241 := tf_keepQ hs221 (hq239 _ (tf_ne ha0 hb0 (by decide)))
                  have hs242 := tf_keepQ hs222 (hq239 _ (tf_ne ha0 hb0 (by decide)))
                  have hs243 := tf_keepQ hs223 (hq239 _ (tf_ne ha0 hb0 (by decide)))
                  have hs244 := tf_keepQ hs224 (hq239 _ (tf_ne ha0 hb0 (by decide)))
                  have hs245 := tf_keepQ hs225 (hq239 _ (tf_ne ha0 hb0 (by decide)))
                  have hs246 := tf_keepCQ hs226 (hq239 _ (tf_ne hqop hb0 (by decide)))
                  have hs247 := tf_keepCQ hs227 (hq239 _ (tf_ne hqar hb0 (by decide)))
                  have hs248 := tf_keepCQ hs228 (hq239 _ (tf_ne hqcl hb0 (by decide)))
                  have hs249 := tf_keepQ hs229 (hq239 _ (tf_ne ha0 hb0 (by decide)))
                  have hs250 := tf_keepQ hs218 (hq239 _ (tf_ne ha0 hb0 (by decide)))
                  have hu239 := hu239.trans (congrArg (fun w => tf_up w (((430 + (900 * z234)) + 1)) (f15_51)) hs220)
                  refine tf_iconst hx hb dX10_law_143 ?_
                  refine lv_istore_n (lv' := [(2, .int (Int32.ofInt 0)), (1, .int (Int32.ofInt ((430 + (900 * z234))))), (0, .ref a0)]) hx hb dX10_law_144 rfl hl (by decide) rfl (fun ls hl => ?_)
                  exact j_145 ((8 * f15_51 - 0 + 1 : Int)).toNat ((430 + (900 * z234))) ⟨by omega, by omega⟩ (0) ⟨by omega, by omega⟩ (f17_51) ⟨by omega, by omega⟩ (f15_51) ⟨by omega, by omega⟩ rNOP_51 (trivial) rNAR_51 (trivial) rNCL_51 (trivial) (0) ⟨by omega, by omega⟩ (tf_up r0 (((430 + (900 * z234)) + 1)) (f15_51)) (by first | exact tf_l1_0 | exact tf_l1_st hRROW_145 (by omega) (by omega) er235) (by first | assumption | exact hi2_51.resolve_left (by omega)) (by first | omega | assumption) (by first | omega | assumption) (by first | omega | assumption) (by omega) _ _ hW hs240 hs241 hs242 hs243 hs244 hs245 hs246 hs247 hs248 hs250 hu239 hZ _ (lv_sub hl [2, 1, 0] rfl)
                · refine lv_aload_n hx hb dX10_law_109 rfl (lv_at hl 0 rfl) ?_
                  refine tf_bipush hx hb dX10_law_110 (by decide) ?_
                  refine tf_calli (va_runV (As := [.int (Int32.ofInt ((-6)))]) (rest := []) ⟨hx, hb, hml, hown, hts⟩ (c_X10_tell l g T a0 ha0 ((-6)) ⟨by omega, by omega⟩) (cwV 1 hts gv_X10_117 rfl rfl rfl hd_X10_tell ⟨Nat.le_trans (by decide) hR1, Nat.le_trans (by decide) hR2⟩) (tf_preV hk hW ha0 (ci := 10) rfl rfl trivial) rfl rfl hl.1 rfl (lv_room (Nat.le_of_ble_eq_true rfl)) dX10_law_112 ⟨Nat.zero_le _, Nat.zero_le _⟩) hW (by decide) (fun z251 H251 locs251 hW hF251 hp251 => ?_)
                  have hs252 := tf_keepF hF251 ha0 rfl rfl (by decide) hs219
                  have hs253 := tf_keepC hF251 hb0 rfl (by decide) hs220
                  have hs254 := tf_keepF hF251 ha0 rfl rfl (by decide) hs221
                  have hs255 := tf_keepF hF251 ha0 rfl rfl (by decide) hs222
                  have hs256 := tf_keepF hF251 ha0 rfl rfl (by decide) hs223
                  have hs257 := tf_keepF hF251 ha0 rfl rfl (by decide) hs224
                  have hs258 := tf_keepF hF251 ha0 rfl rfl (by decide) hs225
                  have hs259 := tf_keepC hF251 hqop rfl (by decide) hs226
                  have hs260 := tf_keepC hF251 hqar rfl (by decide) hs227
                  have hs261 := tf_keepC hF251 hqcl rfl (by decide) hs228
                  have hs262 := tf_keepF hF251 ha0 rfl rfl (by decide) hs229
                  have hs263 := tf_keepF hF251 ha0 rfl rfl (by decide) hs218
                  obtain ⟨hp251_0, hp251_1, hp251_2⟩ := hp251
                  exact tf_reti (z := z251) hx hb hr hlocks hQ hW ⟨by omega, by omega, ⟨(0), hs263, ⟨by omega, by omega⟩, (by first | omega | assumption)⟩⟩ dX10_law_115
          · exfalso; omega
  refine tf_enter (As := [.ref a0]) hargs (Nat.le_of_ble_eq_true rfl) (fun ls hl => ?_)
  have hl : lv_has ls 3 [(0, .ref a0)] := hl
  refine lv_aload_n hx hb dX10_law_0 rfl (lv_at hl 0 rfl) ?_
  refine tf_iconst hx hb dX10_law_1 ?_
  refine tf_put hx hb hts inlX10 tyX10 tyX10_ok nmX10 hown hK (ci := 10) rfl hW ha0 rfl rfl 0 rfl (by decide) (by decide) (hts _ fl_X10_103) rfl (tf_u0 (by omega) (by omega)) rfl rfl dX10_law_2 (fun H264 locs264 hW hs264 ht264 hq264 => ?_)
  have hs265 := (ht264 8 (by decide) (by decide)).trans he0
  have hs266 := (ht264 3 (by decide) (by decide)).trans hfb0
  have hs267 := tf_keepCQ hr0 (hq264 _ (tf_ne hb0 ha0 (by decide)))
  have hs268 := (ht264 18 (by decide) (by decide)).trans hfqop
  have hs269 := tf_keepCQ hrop (hq264 _ (tf_ne hqop ha0 (by decide)))
  have hs270 := (ht264 19 (by decide) (by decide)).trans hfqar
  have hs271 := tf_keepCQ hrar (hq264 _ (tf_ne hqar ha0 (by decide)))
  have hs272 := (ht264 16 (by decide) (by decide)).trans hfqcl
  have hs273 := tf_keepCQ hrcl (hq264 _ (tf_ne hqcl ha0 (by decide)))
  refine lv_aload_n hx hb dX10_law_5 rfl (lv_at hl 0 rfl) ?_
  refine tf_get hx hb hts inlX10 hown hK (ci := 10) rfl hW ha0 rfl 3 rfl (by decide) (hts _ fl_X10_13) dX10_law_6 (fun v274 hv274 hsv274 => ?_)
  obtain rfl : v274 = .ref b0 := Option.some.inj (hsv274.symm.trans hs266)
  refine tf_iconst hx hb dX10_law_9 ?_
  refine tf_iald (t0 := 0) hx hb hK hW hb0 rfl rfl (by omega) (by omega) dX10_law_10 (fun v275 hv275 hsv275 => ?_)
  obtain ⟨z276, rfl, hz276⟩ := tf_v0 hv275
  have er277 : r0 1 = z276 := hs267 ▸ tf_rw_of (by omega) hsv275 ⟨by omega, by omega⟩
  have hg278 := tf_rd1 (tf_ROof hW hb0) hsv275 ⟨by omega, by omega⟩ (by omega)
  refine tf_bipush hx hb dX10_law_11 (by decide) ?_
  refine tf_icmp_ne (tgt := 28) hx hb ⟨by omega, by omega⟩ ⟨by decide, by decide⟩ dX10_law_13 (by decide) (fun h279 => ?_) (fun h279 => ?_)
  · refine lv_aload_n hx hb dX10_law_28 rfl (lv_at hl 0 rfl) ?_
    refine tf_callv (va_runV (As := []) (rest := []) ⟨hx, hb, hml, hown, hts⟩ (c_X10_begin l g T a0 ha0 (t0) ⟨by omega, by omega⟩) (cwV 0 hts gv_X10_325 rfl rfl rfl hd_X10_begin ⟨Nat.le_trans (by decide) hR1, Nat.le_trans (by decide) hR2⟩) (tf_preV hk hW ha0 (ci := 10) rfl rfl hs265) rfl rfl hl.1 rfl (lv_room (Nat.le_of_ble_eq_true rfl)) dX10_law_29 ⟨Nat.zero_le _, Nat.zero_le _⟩) hW (by decide) (fun H280 locs280 hW hF280 hp280 => ?_)
    have hs281 := tf_keepF hF280 ha0 rfl rfl (by decide) hs265
    have hs282 := tf_keepF hF280 ha0 rfl rfl (by decide) hs266
    have hs283 := tf_keepC hF280 hb0 rfl (by decide) hs267
    have hs284 := tf_keepF hF280 ha0 rfl rfl (by decide) hs268
    have hs285 := tf_keepC hF280 hqop rfl (by decide) hs269
    have hs286 := tf_keepF hF280 ha0 rfl rfl (by decide) hs270
    have hs287 := tf_keepC hF280 hqar rfl (by decide) hs271
    have hs288 := tf_keepF hF280 ha0 rfl rfl (by decide) hs272
    have hs289 := tf_keepC hF280 hqcl rfl (by decide) hs273
    obtain ⟨gb1_280, gf1_280, gt1_280, gs1_280, gw1_280, hX280_0, hX280_1, hX280_2, hX280_3, hX280_4, hB280_0, hB280_1, hB280_2, hB280_3, hB280_4, hR280_0, hR280_1⟩ := hp280
    refine lv_aload_n hx hb dX10_law_32 rfl (lv_at hl 0 rfl) ?_
    refine tf_iconst hx hb dX10_law_33 ?_
    refine tf_put hx hb hts inlX10 tyX10 tyX10_ok nmX10 hown hK (ci := 10) rfl hW ha0 rfl rfl 15 rfl (by decide) (by decide) (hts _ fl_X10_317) rfl (tf_u0 (by omega) (by omega)) rfl rfl dX10_law_34 (fun H290 locs290 hW hs290 ht290 hq290 => ?_)
    have hs291 := (ht290 8 (by decide) (by decide)).trans hs281
    have hs292 := (ht290 3 (by decide) (by decide)).trans hs282
    have hs293 := tf_keepCQ hs283 (hq290 _ (tf_ne hb0 ha0 (by decide)))
    have hs294 := (ht290 18 (by decide) (by decide)).trans hs284
    have hs295 := tf_keepCQ hs285 (hq290 _ (tf_ne hqop ha0 (by decide)))
    have hs296 := (ht290 19 (by decide) (by decide)).trans hs286
    have hs297 := tf_keepCQ hs287 (hq290 _ (tf_ne hqar ha0 (by decide)))
    have hs298 := (ht290 16 (by decide) (by decide)).trans hs288
    have hs299 := tf_keepCQ hs289 (hq290 _ (tf_ne hqcl ha0 (by decide)))
    have hs300 := (ht290 14 (by decide) (by decide)).trans hX280_0
    have hs301 := (ht290 9 (by decide) (by decide)).trans hX280_1
    have hs302 := (ht290 10 (by decide) (by decide)).trans hX280_2
    have hs303 := (ht290 11 (by decide) (by decide)).trans hX280_3
    have hs304 := (ht290 12 (by decide) (by decide)).trans hX280_4
    refine lv_aload_n hx hb dX10_law_37 rfl (lv_at hl 0 rfl) ?_
    refine tf_iconst hx hb dX10_law_38 ?_
    refine tf_put hx hb hts inlX10 tyX10 tyX10_ok nmX10 hown hK (ci := 10) rfl hW ha0 rfl rfl 17 rfl (by decide) (by decide) (hts _ fl_X10_239) rfl (tf_u0 (by omega) (by omega)) rfl rfl dX10_law_39 (fun H305 locs305 hW hs305 ht305 hq305 => ?_)
    have hs306 := (ht305 8 (by decide) (by decide)).trans hs291
    have hs307 := (ht305 3 (by decide) (by decide)).trans hs292
    have hs308 := tf_keepCQ hs293 (hq305 _ (tf_ne hb0 ha0 (by decide)))
    have hs309 := (ht305 18 (by decide) (by decide)).trans hs294
    have hs310 := tf_keepCQ hs295 (hq305 _ (tf_ne hqop ha0 (by decide)))
    have hs311 := (ht305 19 (by decide) (by decide)).trans hs296
    have hs312 := tf_keepCQ hs297 (hq305 _ (tf_ne hqar ha0 (by decide)))
    have hs313 := (ht305 16 (by decide) (by decide)).trans hs298
    have hs314 := tf_keepCQ hs299 (hq305 _ (tf_ne hqcl ha0 (by decide)))
    have hs315 := (ht305 14 (by decide) (by decide)).trans hs300
    have hs316 := (ht305 9 (by decide) (by decide)).trans hs301
    have hs317 := (ht305 10 (by decide) (by decide)).trans hs302
    have hs318 := (ht305 11 (by decide) (by decide)).trans hs303
    have hs319 := (ht305 12 (by decide) (by decide)).trans hs304
    have hs320 := (ht305 15 (by decide) (by decide)).trans hs290
    refine lv_aload_n hx hb dX10_law_42 rfl (lv_at hl 0 rfl) ?_
    refine tf_iconst hx hb dX10_law_43 ?_
    refine tf_put hx hb hts inlX10 tyX10 tyX10_ok nmX10 hown hK (ci := 10) rfl hW ha0 rfl rfl 20 rfl (by decide) (by decide) (hts _ fl_X10_268) rfl (tf_u0 (by omega) (by omega)) rfl rfl dX10_law_44 (fun H321 locs321 hW hs321 ht321 hq321 => ?_)
    have hs322 := (ht321 8 (by decide) (by decide)).trans hs306
    have hs323 := (ht321 3 (by decide) (by decide)).trans hs307
    have hs324 := tf_keepCQ hs308 (hq321 _ (tf_ne hb0 ha0 (by decide)))
    have hs325 := (ht321 18 (by decide) (by decide)).trans hs309
    have hs326 := tf_keepCQ hs310 (hq321 _ (tf_ne hqop ha0 (by decide)))
    have hs327 := (ht321 19 (by decide) (by decide)).trans hs311
    have hs328 := tf_keepCQ hs312 (hq321 _ (tf_ne hqar ha0 (by decide)))
    have hs329 := (ht321 16 (by decide) (by decide)).trans hs313
    have hs330 := tf_keepCQ hs314 (hq321 _ (tf_ne hqcl ha0 (by decide)))
    have hs331 := (ht321 14 (by decide) (by decide)).trans hs315
    have hs332 := (ht321 9 (by decide) (by decide)).trans hs316
    have hs333 := (ht321 10 (by decide) (by decide)).trans hs317
    have hs334 := (ht321 11 (by decide) (by decide)).trans hs318
    have hs335 := (ht321 12 (by decide) (by decide)).trans hs319
    have hs336 := (ht321 15 (by decide) (by decide)).trans hs320
    have hs337 := (ht321 17 (by decide) (by decide)).trans hs305
    refine lv_aload_n hx hb dX10_law_47 rfl (lv_at hl 0 rfl) ?_
    refine tf_callv (va_runV (As := []) (rest := []) ⟨hx, hb, hml, hown, hts⟩ (c_X10_readClause l g T a0 ha0 qop hqop qar hqar qcl hqcl (t0) ⟨by omega, by omega⟩ (gf1_280) ⟨by omega, by omega⟩ (gt1_280) ⟨by omega, by omega⟩ (gs1_280) ⟨by omega, by omega⟩ (gw1_280) ⟨by omega, by omega⟩ (gb1_280) ⟨by omega, by omega⟩ (0) ⟨by omega, by omega⟩ (0) ⟨by omega, by omega⟩ rop rar rcl (by first | omega | assumption) (by first | omega | assumption) (by first | omega | assumption) tf_CL_0) (cwV 0 hts gv_X10_328 rfl rfl rfl hd_X10_readClause ⟨Nat.le_trans (by decide) hR1, Nat.le_trans (by decide) hR2⟩) (tf_preV hk hW ha0 (ci := 10) rfl rfl ⟨hs325, hs327, hs329, hs322, hs332, hs333, hs334, hs335, hs331, hs337, hs336, hs326, hs328, hs330⟩) rfl rfl hl.1 rfl (lv_room (Nat.le_of_ble_eq_true rfl)) dX10_law_48 ⟨Nat.zero_le _, Nat.zero_le _⟩) hW (by decide) (fun H338 locs338 hW hF338 hp338 => ?_)
    have hs339 := tf_keepF hF338 ha0 rfl rfl (by decide) hs322
    have hs340 := tf_keepF hF338 ha0 rfl rfl (by decide) hs323
    have hs341 := tf_keepC hF338 hb0 rfl (by decide) hs324
    have hs342 := tf_keepF hF338 ha0 rfl rfl (by decide) hs325
    have hs343 := tf_keepF hF338 ha0 rfl rfl (by decide) hs327
    have hs344 := tf_keepF hF338 ha0 rfl rfl (by decide) hs329
    obtain ⟨gb1_338, gf1_338, gt1_338, gs1_338, gw1_338, gc1_338, gk1_338, rop1_338, rar1_338, rcl1_338, hX338_0, hX338_1, hX338_2, hX338_3, hX338_4, hX338_5, hX338_6, hX338_7, hX338_8, hX338_9, hB338_0, hB338_1, hB338_2, hB338_3, hB338_4, hB338_5, hB338_6, hR338_0, hR338_1, hR338_2, hR338_3⟩ := hp338
    exact j_51 ((401 - gf1_338 + 1 : Int)).toNat (gb1_338) ⟨by omega, by omega⟩ (gf1_338) ⟨by omega, by omega⟩ (gt1_338) ⟨by omega, by omega⟩ (gs1_338) ⟨by omega, by omega⟩ (gw1_338) ⟨by omega, by omega⟩ (gc1_338) ⟨by omega, by omega⟩ (gk1_338) ⟨by omega, by omega⟩ rop1_338 (trivial) rar1_338 (trivial) rcl1_338 (trivial) (by first | omega | assumption) (by first | omega | assumption) (by first | omega | assumption) (by first | omega | assumption) (by omega) _ _ hW hs339 hs340 hs341 hs342 hs343 hs344 hX338_0 hX338_1 hX338_2 hX338_3 hX338_4 hX338_5 hX338_6 hX338_7 hX338_8 hX338_9 _ (lv_sub hl [0] rfl)
  · refine lv_aload_n hx hb dX10_law_16 rfl (lv_at hl 0 rfl) ?_
    refine tf_iconst hx hb dX10_law_17 ?_
    refine tf_put hx hb hts inlX10 tyX10 tyX10_ok nmX10 hown hK (ci := 10) rfl hW ha0 rfl rfl 8 rfl (by decide) (by decide) (hts _ fl_X10_183) rfl (tf_u0 (by omega) (by omega)) rfl rfl dX10_law_18 (fun H345 locs345 hW hs345 ht345 hq345 => ?_)
    have hs346 := (ht345 3 (by decide) (by decide)).trans hs266
    have hs347 := tf_keepCQ hs267 (hq345 _ (tf_ne hb0 ha0 (by decide)))
    have hs348 := (ht345 18 (by decide) (by decide)).trans hs268
    have hs349 := tf_keepCQ hs269 (hq345 _ (tf_ne hqop ha0 (by decide)))
    have hs350 := (ht345 19 (by decide) (by decide)).trans hs270
    have hs351 := tf_keepCQ hs271 (hq345 _ (tf_ne hqar ha0 (by decide)))
    have hs352 := (ht345 16 (by decide) (by decide)).trans hs272
    have hs353 := tf_keepCQ hs273 (hq345 _ (tf_ne hqcl ha0 (by decide)))
    refine lv_aload_n hx hb dX10_law_21 rfl (lv_at hl 0 rfl) ?_
    refine tf_bipush hx hb dX10_law_22 (by decide) ?_
    refine tf_calli (va_runV (As := [.int (Int32.ofInt ((-5)))]) (rest := []) ⟨hx, hb, hml, hown, hts⟩ (c_X10_tell l g T a0 ha0 ((-5)) ⟨by omega, by omega⟩) (cwV 1 hts gv_X10_117 rfl rfl rfl hd_X10_tell ⟨Nat.le_trans (by decide) hR1, Nat.le_trans (by decide) hR2⟩) (tf_preV hk hW ha0 (ci := 10) rfl rfl trivial) rfl rfl hl.1 rfl (lv_room (Nat.le_of_ble_eq_true rfl)) dX10_law_24 ⟨Nat.zero_le _, Nat.zero_le _⟩) hW (by decide) (fun z354 H354 locs354 hW hF354 hp354 => ?_)
    have hs355 := tf_keepF hF354 ha0 rfl rfl (by decide) hs346
    have hs356 := tf_keepC hF354 hb0 rfl (by decide) hs347
    have hs357 := tf_keepF hF354 ha0 rfl rfl (by decide) hs348
    have hs358 := tf_keepC hF354 hqop rfl (by decide) hs349
    have hs359 := tf_keepF hF354 ha0 rfl rfl (by decide) hs350
    have hs360 := tf_keepC hF354 hqar rfl (by decide) hs351
    have hs361 := tf_keepF hF354 ha0 rfl rfl (by decide) hs352
    have hs362 := tf_keepC hF354 hqcl rfl (by decide) hs353
    have hs363 := tf_keepF hF354 ha0 rfl rfl (by decide) hs345
    obtain ⟨hp354_0, hp354_1, hp354_2⟩ := hp354
    exact tf_reti (z := z354) hx hb hr hlocks hQ hW ⟨by omega, by omega, ⟨(0), hs363, ⟨by omega, by omega⟩, (by first | omega | assumption)⟩⟩ dX10_law_27

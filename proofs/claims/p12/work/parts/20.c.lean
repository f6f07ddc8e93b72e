
abbrev M_X7_look : List (Nat × Nat) := [(0, 0)]
set_option maxHeartbeats 4000000 in
set_option maxRecDepth 100000 in
theorem c_X7_look (l : Launch) (g : tf_G) (T : tf_T) (a0 : Nat) (ha0 : T a0 = some (24, 0)) (a1 : Nat) (ha1 : T a1 = some (17, 0)) (x2 : Int) (hp2 : 51 ≤ x2 ∧ x2 ≤ 204) (x3 : Int) (hp3 : 0 ≤ x3 ∧ x3 ≤ 3) (hE : tf_E g T) : Met l yX7_look (cd_X7_look :: wsL_law) ({ frames := 1, cells := 0, slots := 0, locals := 40 }) (tf_P g T [.ref a0, .ref a1, .int (Int32.ofInt x2), .int (Int32.ofInt x3)] (fun H => True)) (tf_Qv g M_X7_look T (fun _ H => True)) 0 0 (fun q => tf_B g ≤ q) := by
  refine Met.ofW (cc := cX7_look) (maxL := 16) (ret := none) (by decide) rfl ?_
  intro p e s m args below meth c s₁ B hml hv
  obtain ⟨hargs, hk, hW0, hB, hpre⟩ := hv
  have hx := B.exec
  have hb := B.bytes
  have hr := B.returns
  have hts : ∀ w ∈ wsL_law, w.before args s = true := fun w h => atoms_spec (ws := cd_X7_look :: wsL_law) B.pre w (List.mem_cons_of_mem _ h)
  have hown : s.vm.findClass RX7 = some m.cls := findClass_of_methodNamed B.named
  have hlocks := B.notSynchronized
  have hK := hk.1
  have hW := tf_n.start (M := M_X7_look) hW0 hB
  obtain ⟨Q, hQ⟩ : ∃ q, q = MQ below (tf_Qv g M_X7_look T (fun _ H => True)) args s 0 0 (fun q => tf_B g ≤ q) := ⟨_, rfl⟩
  rw [← hQ]
  obtain ⟨R, hR⟩ : ∃ q, q = (headSpec (cd_X7_look :: wsL_law) ({ frames := 1, cells := 0, slots := 0, locals := 40 })).room := ⟨_, rfl⟩
  rw [← hR]
  have hR1 : 1 ≤ R.frames := by rw [hR]; exact Nat.le_refl _
  have hR2 : 40 ≤ R.locals := by rw [hR]; exact Nat.le_refl _
  have hR3 : 0 ≤ R.cells := by rw [hR]; exact Nat.le_refl _
  have hR4 : 0 ≤ R.slots := by rw [hR]; exact Nat.le_refl _
  have hin := (name_of_methodNamed B.named B.method).1
  clear hR B
  have j_239 : 51 ≤ x2 ∧ x2 ≤ 204 → 0 ≤ x3 ∧ x3 ≤ 3 → ∀ (x7_239 : Int), 35 ≤ x7_239 ∧ x7_239 ≤ 220 → ∀ (x8_239 : Int), 19 ≤ x8_239 ∧ x8_239 ≤ 236 → ∀ (x9_239 : Int), 3 ≤ x9_239 ∧ x9_239 ≤ 252 → ∀ (x10_239 : Int), (-2147483648) ≤ x10_239 ∧ x10_239 ≤ 2147483647 → ∀ (x13_239 : Int), 0 ≤ x13_239 ∧ x13_239 ≤ 4 → ∀ (x14_239 : Int), (-2147483648) ≤ x14_239 ∧ x14_239 ≤ 2147483647 → ∀ (x15_239 : Int), 0 ≤ x15_239 ∧ x15_239 ≤ 3 → ∀ (H : Heap) (locs : List Loc), tf_n tf_kt g M_X7_look T s.heap T H locs → ∀ (ls : Array Slot), lv_has ls 16 [(0, .ref a0), (1, .ref a1), (2, .int (Int32.ofInt x2)), (3, .int (Int32.ofInt x3)), (7, .int (Int32.ofInt x7_239)), (8, .int (Int32.ofInt x8_239)), (9, .int (Int32.ofInt x9_239)), (10, .int (Int32.ofInt x10_239)), (13, .int (Int32.ofInt x13_239)), (14, .int (Int32.ofInt x14_239)), (15, .int (Int32.ofInt x15_239))] → W p l e R s m args below meth c H locs 0 0 Q (F0 m 239 ls []) := by
    intro hx2_239 hx3_239 x7_239 hx7_239 x8_239 hx8_239 x9_239 hx9_239 x10_239 hx10_239 x13_239 hx13_239 x14_239 hx14_239 x15_239 hx15_239 H locs hW  ls hl
    refine lv_aload_n hx hb dX7_look_239 rfl (lv_at hl 0 rfl) ?_
    refine tf_get hx hb hts inlX7 hown hK (ci := 7) rfl hW ha0 rfl 0 rfl (by decide) (hts _ fl_X7_9) dX7_look_240 (fun v1 hv1 hsv1 => ?_)
    obtain ⟨ad2, rfl, had2⟩ := tf_v1 hv1
    refine tf_iconst hx hb dX7_look_243 ?_
    refine lv_iload hx hb dX7_look_244 (lv_at hl 8 rfl) ?_
    refine tf_iast (t0 := 0) hx hb hK hW had2 rfl rfl (by omega) (by omega) (by decide) (tf_u0 (by omega) (by omega)) dX7_look_246 (fun H3 locs3 hW hs3 ht3 hq3 => ?_)
    have hs4 := tf_keepQ hsv1 (hq3 _ (tf_ne ha0 had2 (by decide)))
    refine lv_aload_n hx hb dX7_look_247 rfl (lv_at hl 0 rfl) ?_
    refine tf_get hx hb hts inlX7 hown hK (ci := 7) rfl hW ha0 rfl 0 rfl (by decide) (hts _ fl_X7_9) dX7_look_248 (fun v5 hv5 hsv5 => ?_)
    obtain rfl : v5 = .ref ad2 := Option.some.inj (hsv5.symm.trans hs4)
    refine tf_iconst hx hb dX7_look_251 ?_
    refine tf_iconst hx hb dX7_look_252 ?_
    refine lv_iload hx hb dX7_look_253 (lv_at hl 9 rfl) ?_
    refine lv_iload hx hb dX7_look_255 (lv_at hl 7 rfl) ?_
    refine tf_isub_any hx hb dX7_look_257 (fun z6 hz6 => ?_)
    refine tf_mmax hx hb hml hl hown (hts _ (tw33 (i := 9) rfl)) (hts _ (tw10 (i := 1) rfl)) (hts _ (tw10 (i := 2) rfl)) (hts _ (tw10 (i := 3) rfl)) ⟨by decide, by decide⟩ ⟨by omega, by omega⟩ (Nat.le_of_ble_eq_true rfl) (Nat.le_trans (by decide) hR1) (Nat.le_trans (by decide) hR2) (Nat.zero_le _) (Nat.zero_le _) dX7_look_258 (fun z7 hz7 => ?_)
    refine tf_iast (t0 := 0) hx hb hK hW had2 rfl rfl (by omega) (by omega) (by decide) (tf_u0 (by omega) (by omega)) dX7_look_261 (fun H8 locs8 hW hs8 ht8 hq8 => ?_)
    have hs9 := tf_keepQ hs4 (hq8 _ (tf_ne ha0 had2 (by decide)))
    refine lv_aload_n hx hb dX7_look_262 rfl (lv_at hl 0 rfl) ?_
    refine tf_get hx hb hts inlX7 hown hK (ci := 7) rfl hW ha0 rfl 0 rfl (by decide) (hts _ fl_X7_9) dX7_look_263 (fun v10 hv10 hsv10 => ?_)
    obtain rfl : v10 = .ref ad2 := Option.some.inj (hsv10.symm.trans hs9)
    refine tf_iconst hx hb dX7_look_266 ?_
    refine lv_iload hx hb dX7_look_267 (lv_at hl 9 rfl) ?_
    refine tf_iast (t0 := 0) hx hb hK hW had2 rfl rfl (by omega) (by omega) (by decide) (tf_u0 (by omega) (by omega)) dX7_look_269 (fun H11 locs11 hW hs11 ht11 hq11 => ?_)
    have hs12 := tf_keepQ hs9 (hq11 _ (tf_ne ha0 had2 (by decide)))
    refine lv_aload_n hx hb dX7_look_270 rfl (lv_at hl 0 rfl) ?_
    refine tf_get hx hb hts inlX7 hown hK (ci := 7) rfl hW ha0 rfl 0 rfl (by decide) (hts _ fl_X7_9) dX7_look_271 (fun v13 hv13 hsv13 => ?_)
    obtain rfl : v13 = .ref ad2 := Option.some.inj (hsv13.symm.trans hs12)
    refine tf_iconst hx hb dX7_look_274 ?_
    refine lv_aload_n hx hb dX7_look_275 rfl (lv_at hl 1 rfl) ?_
    refine tf_get hx hb hts inlX0 hown hK (ci := 0) rfl hW ha1 rfl 1 rfl (by decide) (hts _ fl_X7_49) dX7_look_276 (fun v14 hv14 hsv14 => ?_)
    obtain ⟨ad15, rfl, had15⟩ := tf_v1 hv14
    refine lv_iload_n hx hb dX7_look_279 rfl (lv_at hl 2 rfl) ?_
    refine tf_iald (t0 := 0) hx hb hK hW had15 rfl rfl (by omega) (by omega) dX7_look_280 (fun v16 hv16 hsv16 => ?_)
    obtain ⟨z17, rfl, hz17⟩ := tf_v0 hv16
    refine lv_aload_n hx hb dX7_look_281 rfl (lv_at hl 1 rfl) ?_
    refine tf_get hx hb hts inlX0 hown hK (ci := 0) rfl hW ha1 rfl 1 rfl (by decide) (hts _ fl_X7_49) dX7_look_282 (fun v18 hv18 hsv18 => ?_)
    obtain rfl : v18 = .ref ad15 := Option.some.inj (hsv18.symm.trans hsv14)
    refine lv_iload hx hb dX7_look_285 (lv_at hl 4 rfl) ?_
    refine tf_iald (t0 := 0) hx hb hK hW had15 rfl rfl (by omega) (by omega) dX7_look_287 (fun v19 hv19 hsv19 => ?_)
    obtain ⟨z20, rfl, hz20⟩ := tf_v0 hv19
    refine tf_iadd_any hx hb dX7_look_288 (fun z21 hz21 => ?_)
    refine lv_aload_n hx hb dX7_look_289 rfl (lv_at hl 1 rfl) ?_
    refine tf_get hx hb hts inlX0 hown hK (ci := 0) rfl hW ha1 rfl 1 rfl (by decide) (hts _ fl_X7_49) dX7_look_290 (fun v22 hv22 hsv22 => ?_)
    obtain rfl : v22 = .ref ad15 := Option.some.inj (hsv22.symm.trans hsv14)
    refine lv_iload hx hb dX7_look_293 (lv_at hl 5 rfl) ?_
    refine tf_iald (t0 := 0) hx hb hK hW had15 rfl rfl (by omega) (by omega) dX7_look_295 (fun v23 hv23 hsv23 => ?_)
    obtain ⟨z24, rfl, hz24⟩ := tf_v0 hv23
    refine tf_iadd_any hx hb dX7_look_296 (fun z25 hz25 => ?_)
    refine tf_iast (t0 := 0) hx hb hK hW had2 rfl rfl (by omega) (by omega) (by decide) (tf_u0 (by omega) (by omega)) dX7_look_297 (fun H26 locs26 hW hs26 ht26 hq26 => ?_)
    have hs27 := tf_keepQ hs12 (hq26 _ (tf_ne ha0 had2 (by decide)))
    have hs28 := tf_keepQ hsv14 (hq26 _ (tf_ne ha1 had2 (by decide)))
    refine lv_aload_n hx hb dX7_look_298 rfl (lv_at hl 0 rfl) ?_
    refine tf_get hx hb hts inlX7 hown hK (ci := 7) rfl hW ha0 rfl 0 rfl (by decide) (hts _ fl_X7_9) dX7_look_299 (fun v29 hv29 hsv29 => ?_)
    obtain rfl : v29 = .ref ad2 := Option.some.inj (hsv29.symm.trans hs27)
    refine tf_iconst hx hb dX7_look_302 ?_
    refine lv_aload_n hx hb dX7_look_303 rfl (lv_at hl 1 rfl) ?_
    refine tf_get hx hb hts inlX0 hown hK (ci := 0) rfl hW ha1 rfl 2 rfl (by decide) (hts _ fl_X7_52) dX7_look_304 (fun v30 hv30 hsv30 => ?_)
    obtain ⟨ad31, rfl, had31⟩ := tf_v1 hv30
    refine lv_iload hx hb dX7_look_307 (lv_at hl 4 rfl) ?_
    refine tf_iald (t0 := 0) hx hb hK hW had31 rfl rfl (by omega) (by omega) dX7_look_309 (fun v32 hv32 hsv32 => ?_)
    obtain ⟨z33, rfl, hz33⟩ := tf_v0 hv32
    refine lv_aload_n hx hb dX7_look_310 rfl (lv_at hl 1 rfl) ?_
    refine tf_get hx hb hts inlX0 hown hK (ci := 0) rfl hW ha1 rfl 2 rfl (by decide) (hts _ fl_X7_52) dX7_look_311 (fun v34 hv34 hsv34 => ?_)
    obtain rfl : v34 = .ref ad31 := Option.some.inj (hsv34.symm.trans hsv30)
    refine lv_iload hx hb dX7_look_314 (lv_at hl 5 rfl) ?_
    refine tf_iald (t0 := 0) hx hb hK hW had31 rfl rfl (by omega) (by omega) dX7_look_316 (fun v35 hv35 hsv35 => ?_)
    obtain ⟨z36, rfl, hz36⟩ := tf_v0 hv35
    refine lv_aload_n hx hb dX7_look_317 rfl (lv_at hl 1 rfl) ?_
    refine tf_get hx hb hts inlX0 hown hK (ci := 0) rfl hW ha1 rfl 2 rfl (by decide) (hts _ fl_X7_52) dX7_look_318 (fun v37 hv37 hsv37 => ?_)
    obtain rfl : v37 = .ref ad31 := Option.some.inj (hsv37.symm.trans hsv30)
    refine lv_iload hx hb dX7_look_321 (lv_at hl 6 rfl) ?_
    refine tf_iald (t0 := 0) hx hb hK hW had31 rfl rfl (by omega) (by omega) dX7_look_323 (fun v38 hv38 hsv38 => ?_)
    obtain ⟨z39, rfl, hz39⟩ := tf_v0 hv38
    refine tf_mmax hx hb hml hl hown (hts _ (tw33 (i := 9) rfl)) (hts _ (tw10 (i := 1) rfl)) (hts _ (tw10 (i := 2) rfl)) (hts _ (tw10 (i := 3) rfl)) ⟨by omega, by omega⟩ ⟨by omega, by omega⟩ (Nat.le_of_ble_eq_true rfl) (Nat.le_trans (by decide) hR1) (Nat.le_trans (by decide) hR2) (Nat.zero_le _) (Nat.zero_le _) dX7_look_324 (fun z40 hz40 => ?_)
    refine tf_mmax hx hb hml hl hown (hts _ (tw33 (i := 9) rfl)) (hts _ (tw10 (i := 1) rfl)) (hts _ (tw10 (i := 2) rfl)) (hts _ (tw10 (i := 3) rfl)) ⟨by omega, by omega⟩ ⟨by omega, by omega⟩ (Nat.le_of_ble_eq_true rfl) (Nat.le_trans (by decide) hR1) (Nat.le_trans (by decide) hR2) (Nat.zero_le _) (Nat.zero_le _) dX7_look_327 (fun z41 hz41 => ?_)
    refine tf_iast (t0 := 0) hx hb hK hW had2 rfl rfl (by omega) (by omega) (by decide) (tf_u0 (by omega) (by omega)) dX7_look_330 (fun H42 locs42 hW hs42 ht42 hq42 => ?_)
    have hs43 := tf_keepQ hs27 (hq42 _ (tf_ne ha0 had2 (by decide)))
    have hs44 := tf_keepQ hs28 (hq42 _ (tf_ne ha1 had2 (by decide)))
    have hs45 := tf_keepQ hsv30 (hq42 _ (tf_ne ha1 had2 (by decide)))
    refine lv_aload_n hx hb dX7_look_331 rfl (lv_at hl 0 rfl) ?_
    refine tf_get hx hb hts inlX7 hown hK (ci := 7) rfl hW ha0 rfl 0 rfl (by decide) (hts _ fl_X7_9) dX7_look_332 (fun v46 hv46 hsv46 => ?_)
    obtain rfl : v46 = .ref ad2 := Option.some.inj (hsv46.symm.trans hs43)
    refine tf_iconst hx hb dX7_look_335 ?_
    refine lv_iload hx hb dX7_look_336 (lv_at hl 10 rfl) ?_
    refine tf_iast (t0 := 0) hx hb hK hW had2 rfl rfl (by omega) (by omega) (by decide) (tf_u0 (by omega) (by omega)) dX7_look_338 (fun H47 locs47 hW hs47 ht47 hq47 => ?_)
    have hs48 := tf_keepQ hs43 (hq47 _ (tf_ne ha0 had2 (by decide)))
    have hs49 := tf_keepQ hs44 (hq47 _ (tf_ne ha1 had2 (by decide)))
    have hs50 := tf_keepQ hs45 (hq47 _ (tf_ne ha1 had2 (by decide)))
    refine lv_aload_n hx hb dX7_look_339 rfl (lv_at hl 0 rfl) ?_
    refine tf_get hx hb hts inlX7 hown hK (ci := 7) rfl hW ha0 rfl 0 rfl (by decide) (hts _ fl_X7_9) dX7_look_340 (fun v51 hv51 hsv51 => ?_)
    obtain rfl : v51 = .ref ad2 := Option.some.inj (hsv51.symm.trans hs48)
    refine tf_bipush hx hb dX7_look_343 (by decide) ?_
    refine lv_iload_n hx hb dX7_look_345 rfl (lv_at hl 2 rfl) ?_
    refine tf_bipush hx hb dX7_look_346 (by decide) ?_
    refine tf_irem hx hb ⟨by omega, by omega⟩ (by omega) ⟨by decide, by decide⟩ (by decide) dX7_look_348 ?_
    refine tf_name (fun z52 ez52 => ?_)
    refine tf_iconst hx hb dX7_look_349 ?_
    refine tf_isub hx hb dX7_look_350 ?_
    refine tf_iast (t0 := 0) hx hb hK hW had2 rfl rfl (by omega) (by omega) (by decide) (tf_u0 (by omega) (by omega)) dX7_look_351 (fun H53 locs53 hW hs53 ht53 hq53 => ?_)
    have hs54 := tf_keepQ hs48 (hq53 _ (tf_ne ha0 had2 (by decide)))
    have hs55 := tf_keepQ hs49 (hq53 _ (tf_ne ha1 had2 (by decide)))
    have hs56 := tf_keepQ hs50 (hq53 _ (tf_ne ha1 had2 (by decide)))
    refine lv_aload_n hx hb dX7_look_352 rfl (lv_at hl 0 rfl) ?_
    refine tf_get hx hb hts inlX7 hown hK (ci := 7) rfl hW ha0 rfl 0 rfl (by decide) (hts _ fl_X7_9) dX7_look_353 (fun v57 hv57 hsv57 => ?_)
    obtain rfl : v57 = .ref ad2 := Option.some.inj (hsv57.symm.trans hs54)
    refine tf_bipush hx hb dX7_look_356 (by decide) ?_
    refine lv_iload_n hx hb dX7_look_358 rfl (lv_at hl 2 rfl) ?_
    refine tf_bipush hx hb dX7_look_359 (by decide) ?_
    refine tf_idiv hx hb ⟨by omega, by omega⟩ (by omega) ⟨by decide, by decide⟩ (by decide) dX7_look_361 ?_
    refine tf_name (fun z58 ez58 => ?_)
    refine tf_iconst hx hb dX7_look_362 ?_
    refine tf_isub hx hb dX7_look_363 ?_
    refine tf_iast (t0 := 0) hx hb hK hW had2 rfl rfl (by omega) (by omega) (by decide) (tf_u0 (by omega) (by omega)) dX7_look_364 (fun H59 locs59 hW hs59 ht59 hq59 => ?_)
    have hs60 := tf_keepQ hs54 (hq59 _ (tf_ne ha0 had2 (by decide)))
    have hs61 := tf_keepQ hs55 (hq59 _ (tf_ne ha1 had2 (by decide)))
    have hs62 := tf_keepQ hs56 (hq59 _ (tf_ne ha1 had2 (by decide)))
    refine lv_aload_n hx hb dX7_look_365 rfl (lv_at hl 0 rfl) ?_
    refine tf_get hx hb hts inlX7 hown hK (ci := 7) rfl hW ha0 rfl 0 rfl (by decide) (hts _ fl_X7_9) dX7_look_366 (fun v63 hv63 hsv63 => ?_)
    obtain rfl : v63 = .ref ad2 := Option.some.inj (hsv63.symm.trans hs60)
    refine tf_bipush hx hb dX7_look_369 (by decide) ?_
    refine lv_iload_n hx hb dX7_look_371 rfl (lv_at hl 3 rfl) ?_
    refine tf_iast (t0 := 0) hx hb hK hW had2 rfl rfl (by omega) (by omega) (by decide) (tf_u0 (by omega) (by omega)) dX7_look_372 (fun H64 locs64 hW hs64 ht64 hq64 => ?_)
    have hs65 := tf_keepQ hs60 (hq64 _ (tf_ne ha0 had2 (by decide)))
    have hs66 := tf_keepQ hs61 (hq64 _ (tf_ne ha1 had2 (by decide)))
    have hs67 := tf_keepQ hs62 (hq64 _ (tf_ne ha1 had2 (by decide)))
    exact tf_retv hx hb hr hlocks hQ hW trivial dX7_look_373
  have j_225 : 51 ≤ x2 ∧ x2 ≤ 204 → 0 ≤ x3 ∧ x3 ≤ 3 → ∀ (a4_225 : Nat), T a4_225 = some (1, 256) → ∀ (x5_225 : Int), (-16) ≤ x5_225 ∧ x5_225 ≤ 16 → ∀ (x7_225 : Int), 35 ≤ x7_225 ∧ x7_225 ≤ 220 → ∀ (x8_225 : Int), 19 ≤ x8_225 ∧ x8_225 ≤ 236 → ∀ (x9_225 : Int), 3 ≤ x9_225 ∧ x9_225 ≤ 252 → ∀ (x10_225 : Int), 1 ≤ x10_225 ∧ x10_225 ≤ 2147483647 → ∀ (y0_225 : Int), 1 ≤ y0_225 ∧ y0_225 ≤ 3 → ∀ (H : Heap) (locs : List Loc), tf_n tf_kt g M_X7_look T s.heap T H locs → ∀ (ls : Array Slot), lv_has ls 16 [(0, .ref a0), (1, .ref a1), (2, .int (Int32.ofInt x2)), (3, .int (Int32.ofInt x3)), (4, .ref a4_225), (5, .int (Int32.ofInt x5_225)), (7, .int (Int32.ofInt x7_225)), (8, .int (Int32.ofInt x8_225)), (9, .int (Int32.ofInt x9_225)), (10, .int (Int32.ofInt x10_225)), (13, .int (Int32.ofInt 4))] → W p l e R s m args below meth c H locs 0 0 Q (F0 m 225 ls [.int (Int32.ofInt y0_225)]) := by
    intro hx2_225 hx3_225 a4_225 ha4_225 x5_225 hx5_225 x7_225 hx7_225 x8_225 hx8_225 x9_225 hx9_225 x10_225 hx10_225 y0_225 hy0_225 H locs hW  ls hl
    refine lv_istore (lv' := [(15, .int (Int32.ofInt y0_225)), (0, .ref a0), (1, .ref a1), (2, .int (Int32.ofInt x2)), (3, .int (Int32.ofInt x3)), (4, .ref a4_225), (5, .int (Int32.ofInt x5_225)), (7, .int (Int32.ofInt x7_225)), (8, .int (Int32.ofInt x8_225)), (9, .int (Int32.ofInt x9_225)), (10, .int (Int32.ofInt x10_225)), (13, .int (Int32.ofInt 4))]) hx hb dX7_look_225 hl (by decide) rfl (fun ls hl => ?_)
    refine lv_aload hx hb dX7_look_227 (lv_at hl 5 rfl) ?_
    refine lv_iload_n hx hb dX7_look_229 rfl (lv_at hl 3 rfl) ?_
    refine lv_iload hx hb dX7_look_230 (lv_at hl 0 rfl) ?_
    refine lv_iload hx hb dX7_look_232 (lv_at hl 6 rfl) ?_
    refine tf_imul_b hx hb 3 16 (by omega) (by omega) (by omega) (by omega) dX7_look_234 (fun z68 hz68 => ?_)
    refine tf_iadd hx hb dX7_look_235 ?_
    refine tf_iald (t0 := 0) hx hb hK hW ha4_225 rfl rfl (by omega) (by omega) dX7_look_236 (fun v69 hv69 hsv69 => ?_)
    obtain ⟨z70, rfl, hz70⟩ := tf_v0 hv69
    refine lv_istore (lv' := [(14, .int (Int32.ofInt z70)), (15, .int (Int32.ofInt y0_225)), (0, .ref a0), (1, .ref a1), (2, .int (Int32.ofInt x2)), (3, .int (Int32.ofInt x3)), (4, .ref a4_225), (5, .int (Int32.ofInt x5_225)), (7, .int (Int32.ofInt x7_225)), (8, .int (Int32.ofInt x8_225)), (9, .int (Int32.ofInt x9_225)), (10, .int (Int32.ofInt x10_225)), (13, .int (Int32.ofInt 4))]) hx hb dX7_look_237 hl (by decide) rfl (fun ls hl => ?_)
    exact j_239 ⟨by omega, by omega⟩ ⟨by omega, by omega⟩ (x7_225) ⟨by omega, by omega⟩ (x8_225) ⟨by omega, by omega⟩ (x9_225) ⟨by omega, by omega⟩ (x10_225) ⟨by omega, by omega⟩ (4) ⟨by omega, by omega⟩ (z70) ⟨by omega, by omega⟩ (y0_225) ⟨by omega, by omega⟩ _ _ hW  _ (lv_sub hl [2, 3, 4, 5, 8, 9, 10, 11, 12, 0, 1] rfl)
  have j_192 : 51 ≤ x2 ∧ x2 ≤ 204 → 0 ≤ x3 ∧ x3 ≤ 3 → ∀ (a4_192 : Nat), T a4_192 = some (1, 256) → ∀ (x5_192 : Int), (-16) ≤ x5_192 ∧ x5_192 ≤ 16 → ∀ (x7_192 : Int), 35 ≤ x7_192 ∧ x7_192 ≤ 220 → ∀ (x8_192 : Int), 19 ≤ x8_192 ∧ x8_192 ≤ 236 → ∀ (x9_192 : Int), 3 ≤ x9_192 ∧ x9_192 ≤ 252 → ∀ (x10_192 : Int), (-2147483648) ≤ x10_192 ∧ x10_192 ≤ 2147483647 → ∀ (H : Heap) (locs : List Loc), tf_n tf_kt g M_X7_look T s.heap T H locs → ∀ (ls : Array Slot), lv_has ls 16 [(0, .ref a0), (1, .ref a1), (2, .int (Int32.ofInt x2)), (3, .int (Int32.ofInt x3)), (4, .ref a4_192), (5, .int (Int32.ofInt x5_192)), (7, .int (Int32.ofInt x7_192)), (8, .int (Int32.ofInt x8_192)), (9, .int (Int32.ofInt x9_192)), (10, .int (Int32.ofInt x10_192)), (13, .int (Int32.ofInt 0)), (14, .int (Int32.ofInt 0)), (15, .int (Int32.ofInt 0))] → W p l e R s m args below meth c H locs 0 0 Q (F0 m 192 ls []) := by
    intro hx2_192 hx3_192 a4_192 ha4_192 x5_192 hx5_192 x7_192 hx7_192 x8_192 hx8_192 x9_192 hx9_192 x10_192 hx10_192 H locs hW  ls hl
    refine lv_iload hx hb dX7_look_192 (lv_at hl 9 rfl) ?_
    refine tf_if_le (tgt := 239) hx hb ⟨by omega, by omega⟩ dX7_look_194 (by decide) (fun h71 => ?_) (fun h71 => ?_)
    · exact j_239 ⟨by omega, by omega⟩ ⟨by omega, by omega⟩ (x7_192) ⟨by omega, by omega⟩ (x8_192) ⟨by omega, by omega⟩ (x9_192) ⟨by omega, by omega⟩ (x10_192) ⟨by omega, by omega⟩ (0) ⟨by omega, by omega⟩ (0) ⟨by omega, by omega⟩ (0) ⟨by omega, by omega⟩ _ _ hW  _ (lv_sub hl [0, 1, 2, 3, 6, 7, 8, 9, 10, 11, 12] rfl)
    · refine tf_iconst hx hb dX7_look_197 ?_
      refine lv_istore (lv' := [(13, .int (Int32.ofInt 4)), (0, .ref a0), (1, .ref a1), (2, .int (Int32.ofInt x2)), (3, .int (Int32.ofInt x3)), (4, .ref a4_192), (5, .int (Int32.ofInt x5_192)), (7, .int (Int32.ofInt x7_192)), (8, .int (Int32.ofInt x8_192)), (9, .int (Int32.ofInt x9_192)), (10, .int (Int32.ofInt x10_192)), (14, .int (Int32.ofInt 0)), (15, .int (Int32.ofInt 0))]) hx hb dX7_look_198 hl (by decide) rfl (fun ls hl => ?_)
      refine lv_aload hx hb dX7_look_200 (lv_at hl 5 rfl) ?_
      refine lv_iload hx hb dX7_look_202 (lv_at hl 7 rfl) ?_
      refine tf_iald (t0 := 0) hx hb hK hW ha4_192 rfl rfl (by omega) (by omega) dX7_look_204 (fun v72 hv72 hsv72 => ?_)
      obtain ⟨z73, rfl, hz73⟩ := tf_v0 hv72
      refine tf_if_le (tgt := 212) hx hb ⟨by omega, by omega⟩ dX7_look_205 (by decide) (fun h74 => ?_) (fun h74 => ?_)
      · refine lv_aload hx hb dX7_look_212 (lv_at hl 5 rfl) ?_
        refine lv_iload hx hb dX7_look_214 (lv_at hl 8 rfl) ?_
        refine tf_iald (t0 := 0) hx hb hK hW ha4_192 rfl rfl (by omega) (by omega) dX7_look_216 (fun v75 hv75 hsv75 => ?_)
        obtain ⟨z76, rfl, hz76⟩ := tf_v0 hv75
        refine tf_if_le (tgt := 224) hx hb ⟨by omega, by omega⟩ dX7_look_217 (by decide) (fun h77 => ?_) (fun h77 => ?_)
        · refine tf_iconst hx hb dX7_look_224 ?_
          exact j_225 ⟨by omega, by omega⟩ ⟨by omega, by omega⟩ a4_192 ha4_192 (x5_192) ⟨by omega, by omega⟩ (x7_192) ⟨by omega, by omega⟩ (x8_192) ⟨by omega, by omega⟩ (x9_192) ⟨by omega, by omega⟩ (x10_192) ⟨by omega, by omega⟩ (3) ⟨by omega, by omega⟩ _ _ hW  _ (lv_sub hl [1, 2, 3, 4, 5, 6, 7, 8, 9, 10, 0] rfl)
        · refine tf_iconst hx hb dX7_look_220 ?_
          refine lv_goto (tgt := 225) hx hb dX7_look_221 (by decide) ?_
          exact j_225 ⟨by omega, by omega⟩ ⟨by omega, by omega⟩ a4_192 ha4_192 (x5_192) ⟨by omega, by omega⟩ (x7_192) ⟨by omega, by omega⟩ (x8_192) ⟨by omega, by omega⟩ (x9_192) ⟨by omega, by omega⟩ (x10_192) ⟨by omega, by omega⟩ (2) ⟨by omega, by omega⟩ _ _ hW  _ (lv_sub hl [1, 2, 3, 4, 5, 6, 7, 8, 9, 10, 0] rfl)
      · refine tf_iconst hx hb dX7_look_208 ?_
        refine lv_goto (tgt := 225) hx hb dX7_look_209 (by decide) ?_
        exact j_225 ⟨by omega, by omega⟩ ⟨by omega, by omega⟩ a4_192 ha4_192 (x5_192) ⟨by omega, by omega⟩ (x7_192) ⟨by omega, by omega⟩ (x8_192) ⟨by omega, by omega⟩ (x9_192) ⟨by omega, by omega⟩ (x10_192) ⟨by omega, by omega⟩ (1) ⟨by omega, by omega⟩ _ _ hW  _ (lv_sub hl [1, 2, 3, 4, 5, 6, 7, 8, 9, 10, 0] rfl)
  have j_166 : 51 ≤ x2 ∧ x2 ≤ 204 → 0 ≤ x3 ∧ x3 ≤ 3 → ∀ (a4_166 : Nat), T a4_166 = some (1, 256) → ∀ (x5_166 : Int), (-16) ≤ x5_166 ∧ x5_166 ≤ 16 → ∀ (x6_166 : Int), (-16) ≤ x6_166 ∧ x6_166 ≤ 16 → ∀ (x7_166 : Int), 35 ≤ x7_166 ∧ x7_166 ≤ 220 → ∀ (x8_166 : Int), 19 ≤ x8_166 ∧ x8_166 ≤ 236 → ∀ (x9_166 : Int), 3 ≤ x9_166 ∧ x9_166 ≤ 252 → ∀ (x10_166 : Int), (-2147483648) ≤ x10_166 ∧ x10_166 ≤ 2147483647 → ∀ (x12_166 : Int), (-2147483648) ≤ x12_166 ∧ x12_166 ≤ 2147483647 → ∀ (H : Heap) (locs : List Loc), tf_n tf_kt g M_X7_look T s.heap T H locs → ∀ (ls : Array Slot), lv_has ls 16 [(0, .ref a0), (1, .ref a1), (2, .int (Int32.ofInt x2)), (3, .int (Int32.ofInt x3)), (4, .ref a4_166), (5, .int (Int32.ofInt x5_166)), (6, .int (Int32.ofInt x6_166)), (7, .int (Int32.ofInt x7_166)), (8, .int (Int32.ofInt x8_166)), (9, .int (Int32.ofInt x9_166)), (10, .int (Int32.ofInt x10_166)), (12, .int (Int32.ofInt x12_166)), (13, .int (Int32.ofInt 0)), (14, .int (Int32.ofInt 0)), (15, .int (Int32.ofInt 0))] → W p l e R s m args below meth c H locs 0 0 Q (F0 m 166 ls []) := by
    intro hx2_166 hx3_166 a4_166 ha4_166 x5_166 hx5_166 x6_166 hx6_166 x7_166 hx7_166 x8_166 hx8_166 x9_166 hx9_166 x10_166 hx10_166 x12_166 hx12_166 H locs hW  ls hl
    refine lv_iload hx hb dX7_look_166 (lv_at hl 11 rfl) ?_
    refine tf_if_le (tgt := 192) hx hb ⟨by omega, by omega⟩ dX7_look_168 (by decide) (fun h78 => ?_) (fun h78 => ?_)
    · exact j_192 ⟨by omega, by omega⟩ ⟨by omega, by omega⟩ a4_166 ha4_166 (x5_166) ⟨by omega, by omega⟩ (x7_166) ⟨by omega, by omega⟩ (x8_166) ⟨by omega, by omega⟩ (x9_166) ⟨by omega, by omega⟩ (x10_166) ⟨by omega, by omega⟩ _ _ hW  _ (lv_sub hl [0, 1, 2, 3, 4, 5, 7, 8, 9, 10, 12, 13, 14] rfl)
    · refine lv_aload hx hb dX7_look_171 (lv_at hl 4 rfl) ?_
      refine lv_iload hx hb dX7_look_173 (lv_at hl 7 rfl) ?_
      refine lv_iload hx hb dX7_look_175 (lv_at hl 6 rfl) ?_
      refine tf_iadd hx hb dX7_look_177 ?_
      refine tf_iald (t0 := 0) hx hb hK hW ha4_166 rfl rfl (by omega) (by omega) dX7_look_178 (fun v79 hv79 hsv79 => ?_)
      obtain ⟨z80, rfl, hz80⟩ := tf_v0 hv79
      refine tf_if_ne (tgt := 192) hx hb ⟨by omega, by omega⟩ dX7_look_179 (by decide) (fun h81 => ?_) (fun h81 => ?_)
      · exact j_192 ⟨by omega, by omega⟩ ⟨by omega, by omega⟩ a4_166 ha4_166 (x5_166) ⟨by omega, by omega⟩ (x7_166) ⟨by omega, by omega⟩ (x8_166) ⟨by omega, by omega⟩ (x9_166) ⟨by omega, by omega⟩ (x10_166) ⟨by omega, by omega⟩ _ _ hW  _ (lv_sub hl [0, 1, 2, 3, 4, 5, 7, 8, 9, 10, 12, 13, 14] rfl)
      · refine tf_iconst hx hb dX7_look_182 ?_
        refine lv_istore (lv' := [(13, .int (Int32.ofInt 3)), (0, .ref a0), (1, .ref a1), (2, .int (Int32.ofInt x2)), (3, .int (Int32.ofInt x3)), (4, .ref a4_166), (5, .int (Int32.ofInt x5_166)), (6, .int (Int32.ofInt x6_166)), (7, .int (Int32.ofInt x7_166)), (8, .int (Int32.ofInt x8_166)), (9, .int (Int32.ofInt x9_166)), (10, .int (Int32.ofInt x10_166)), (12, .int (Int32.ofInt x12_166)), (14, .int (Int32.ofInt 0)), (15, .int (Int32.ofInt 0))]) hx hb dX7_look_183 hl (by decide) rfl (fun ls hl => ?_)
        refine lv_iload hx hb dX7_look_185 (lv_at hl 12 rfl) ?_
        refine lv_istore (lv' := [(14, .int (Int32.ofInt x12_166)), (13, .int (Int32.ofInt 3)), (0, .ref a0), (1, .ref a1), (2, .int (Int32.ofInt x2)), (3, .int (Int32.ofInt x3)), (4, .ref a4_166), (5, .int (Int32.ofInt x5_166)), (6, .int (Int32.ofInt x6_166)), (7, .int (Int32.ofInt x7_166)), (8, .int (Int32.ofInt x8_166)), (9, .int (Int32.ofInt x9_166)), (10, .int (Int32.ofInt x10_166)), (12, .int (Int32.ofInt x12_166)), (15, .int (Int32.ofInt 0))]) hx hb dX7_look_187 hl (by decide) rfl (fun ls hl => ?_)
        refine lv_goto (tgt := 239) hx hb dX7_look_189 (by decide) ?_
        exact j_239 ⟨by omega, by omega⟩ ⟨by omega, by omega⟩ (x7_166) ⟨by omega, by omega⟩ (x8_166) ⟨by omega, by omega⟩ (x9_166) ⟨by omega, by omega⟩ (x10_166) ⟨by omega, by omega⟩ (3) ⟨by omega, by omega⟩ (x12_166) ⟨by omega, by omega⟩ (0) ⟨by omega, by omega⟩ _ _ hW  _ (lv_sub hl [2, 3, 4, 5, 9, 10, 11, 12, 1, 0, 14] rfl)
  have j_115 : 51 ≤ x2 ∧ x2 ≤ 204 → 0 ≤ x3 ∧ x3 ≤ 3 → ∀ (a4_115 : Nat), T a4_115 = some (1, 256) → ∀ (x5_115 : Int), (-16) ≤ x5_115 ∧ x5_115 ≤ 16 → ∀ (x6_115 : Int), (-16) ≤ x6_115 ∧ x6_115 ≤ 16 → ∀ (x7_115 : Int), 35 ≤ x7_115 ∧ x7_115 ≤ 220 → ∀ (x8_115 : Int), 19 ≤ x8_115 ∧ x8_115 ≤ 236 → ∀ (x9_115 : Int), 3 ≤ x9_115 ∧ x9_115 ≤ 252 → ∀ (x10_115 : Int), (-2147483648) ≤ x10_115 ∧ x10_115 ≤ 2147483647 → ∀ (x11_115 : Int), (-2147483648) ≤ x11_115 ∧ x11_115 ≤ 2147483647 → ∀ (x12_115 : Int), (-2147483648) ≤ x12_115 ∧ x12_115 ≤ 2147483647 → ∀ (H : Heap) (locs : List Loc), tf_n tf_kt g M_X7_look T s.heap T H locs → ∀ (ls : Array Slot), lv_has ls 16 [(0, .ref a0), (1, .ref a1), (2, .int (Int32.ofInt x2)), (3, .int (Int32.ofInt x3)), (4, .ref a4_115), (5, .int (Int32.ofInt x5_115)), (6, .int (Int32.ofInt x6_115)), (7, .int (Int32.ofInt x7_115)), (8, .int (Int32.ofInt x8_115)), (9, .int (Int32.ofInt x9_115)), (10, .int (Int32.ofInt x10_115)), (11, .int (Int32.ofInt x11_115)), (12, .int (Int32.ofInt x12_115)), (13, .int (Int32.ofInt 0)), (14, .int (Int32.ofInt 0)), (15, .int (Int32.ofInt 0))] → W p l e R s m args below meth c H locs 0 0 Q (F0 m 115 ls []) := by
    intro hx2_115 hx3_115 a4_115 ha4_115 x5_115 hx5_115 x6_115 hx6_115 x7_115 hx7_115 x8_115 hx8_115 x9_115 hx9_115 x10_115 hx10_115 x11_115 hx11_115 x12_115 hx12_115 H locs hW  ls hl
    refine lv_aload hx hb dX7_look_115 (lv_at hl 4 rfl) ?_
    refine lv_iload_n hx hb dX7_look_117 rfl (lv_at hl 2 rfl) ?_
    refine lv_iload hx hb dX7_look_118 (lv_at hl 5 rfl) ?_
    refine tf_isub hx hb dX7_look_120 ?_
    refine tf_iald (t0 := 0) hx hb hK hW ha4_115 rfl rfl (by omega) (by omega) dX7_look_121 (fun v82 hv82 hsv82 => ?_)
    obtain ⟨z83, rfl, hz83⟩ := tf_v0 hv82
    refine tf_if_le (tgt := 140) hx hb ⟨by omega, by omega⟩ dX7_look_122 (by decide) (fun h84 => ?_) (fun h84 => ?_)
    · refine lv_iload hx hb dX7_look_140 (lv_at hl 11 rfl) ?_
      refine tf_if_le (tgt := 166) hx hb ⟨by omega, by omega⟩ dX7_look_142 (by decide) (fun h85 => ?_) (fun h85 => ?_)
      · exact j_166 ⟨by omega, by omega⟩ ⟨by omega, by omega⟩ a4_115 ha4_115 (x5_115) ⟨by omega, by omega⟩ (x6_115) ⟨by omega, by omega⟩ (x7_115) ⟨by omega, by omega⟩ (x8_115) ⟨by omega, by omega⟩ (x9_115) ⟨by omega, by omega⟩ (x10_115) ⟨by omega, by omega⟩ (x12_115) ⟨by omega, by omega⟩ _ _ hW  _ (lv_sub hl [0, 1, 2, 3, 4, 5, 6, 7, 8, 9, 10, 12, 13, 14, 15] rfl)
      · refine lv_aload hx hb dX7_look_145 (lv_at hl 4 rfl) ?_
        refine lv_iload hx hb dX7_look_147 (lv_at hl 7 rfl) ?_
        refine lv_iload hx hb dX7_look_149 (lv_at hl 6 rfl) ?_
        refine tf_isub hx hb dX7_look_151 ?_
        refine tf_iald (t0 := 0) hx hb hK hW ha4_115 rfl rfl (by omega) (by omega) dX7_look_152 (fun v86 hv86 hsv86 => ?_)
        obtain ⟨z87, rfl, hz87⟩ := tf_v0 hv86
        refine tf_if_ne (tgt := 166) hx hb ⟨by omega, by omega⟩ dX7_look_153 (by decide) (fun h88 => ?_) (fun h88 => ?_)
        · exact j_166 ⟨by omega, by omega⟩ ⟨by omega, by omega⟩ a4_115 ha4_115 (x5_115) ⟨by omega, by omega⟩ (x6_115) ⟨by omega, by omega⟩ (x7_115) ⟨by omega, by omega⟩ (x8_115) ⟨by omega, by omega⟩ (x9_115) ⟨by omega, by omega⟩ (x10_115) ⟨by omega, by omega⟩ (x12_115) ⟨by omega, by omega⟩ _ _ hW  _ (lv_sub hl [0, 1, 2, 3, 4, 5, 6, 7, 8, 9, 10, 12, 13, 14, 15] rfl)
        · refine tf_iconst hx hb dX7_look_156 ?_
          refine lv_istore (lv' := [(13, .int (Int32.ofInt 3)), (0, .ref a0), (1, .ref a1), (2, .int (Int32.ofInt x2)), (3, .int (Int32.ofInt x3)), (4, .ref a4_115), (5, .int (Int32.ofInt x5_115)), (6, .int (Int32.ofInt x6_115)), (7, .int (Int32.ofInt x7_115)), (8, .int (Int32.ofInt x8_115)), (9, .int (Int32.ofInt x9_115)), (10, .int (Int32.ofInt x10_115)), (11, .int (Int32.ofInt x11_115)), (12, .int (Int32.ofInt x12_115)), (14, .int (Int32.ofInt 0)), (15, .int (Int32.ofInt 0))]) hx hb dX7_look_157 hl (by decide) rfl (fun ls hl => ?_)
          refine lv_iload hx hb dX7_look_159 (lv_at hl 12 rfl) ?_
          refine lv_istore (lv' := [(14, .int (Int32.ofInt x11_115)), (13, .int (Int32.ofInt 3)), (0, .ref a0), (1, .ref a1), (2, .int (Int32.ofInt x2)), (3, .int (Int32.ofInt x3)), (4, .ref a4_115), (5, .int (Int32.ofInt x5_115)), (6, .int (Int32.ofInt x6_115)), (7, .int (Int32.ofInt x7_115)), (8, .int (Int32.ofInt x8_115)), (9, .int (Int32.ofInt x9_115)), (10, .int (Int32.ofInt x10_115)), (11, .int (Int32.ofInt x11_115)), (12, .int (Int32.ofInt x12_115)), (15, .int (Int32.ofInt 0))]) hx hb dX7_look_161 hl (by decide) rfl (fun ls hl => ?_)
          refine lv_goto (tgt := 239) hx hb dX7_look_163 (by decide) ?_
          exact j_239 ⟨by omega, by omega⟩ ⟨by omega, by omega⟩ (x7_115) ⟨by omega, by omega⟩ (x8_115) ⟨by omega, by omega⟩ (x9_115) ⟨by omega, by omega⟩ (x10_115) ⟨by omega, by omega⟩ (3) ⟨by omega, by omega⟩ (x11_115) ⟨by omega, by omega⟩ (0) ⟨by omega, by omega⟩ _ _ hW  _ (lv_sub hl [2, 3, 4, 5, 9, 10, 11, 12, 1, 0, 15] rfl)
    · refine tf_iconst hx hb dX7_look_125 ?_
      refine lv_istore (lv' := [(13, .int (Int32.ofInt 2)), (0, .ref a0), (1, .ref a1), (2, .int (Int32.ofInt x2)), (3, .int (Int32.ofInt x3)), (4, .ref a4_115), (5, .int (Int32.ofInt x5_115)), (6, .int (Int32.ofInt x6_115)), (7, .int (Int32.ofInt x7_115)), (8, .int (Int32.ofInt x8_115)), (9, .int (Int32.ofInt x9_115)), (10, .int (Int32.ofInt x10_115)), (11, .int (Int32.ofInt x11_115)), (12, .int (Int32.ofInt x12_115)), (14, .int (Int32.ofInt 0)), (15, .int (Int32.ofInt 0))]) hx hb dX7_look_126 hl (by decide) rfl (fun ls hl => ?_)
      refine lv_aload hx hb dX7_look_128 (lv_at hl 5 rfl) ?_
      refine lv_iload_n hx hb dX7_look_130 rfl (lv_at hl 3 rfl) ?_
      refine lv_iload hx hb dX7_look_131 (lv_at hl 6 rfl) ?_
      refine tf_isub hx hb dX7_look_133 ?_
      refine tf_iald (t0 := 0) hx hb hK hW ha4_115 rfl rfl (by omega) (by omega) dX7_look_134 (fun v89 hv89 hsv89 => ?_)
      obtain ⟨z90, rfl, hz90⟩ := tf_v0 hv89
      refine lv_istore (lv' := [(14, .int (Int32.ofInt z90)), (13, .int (Int32.ofInt 2)), (0, .ref a0), (1, .ref a1), (2, .int (Int32.ofInt x2)), (3, .int (Int32.ofInt x3)), (4, .ref a4_115), (5, .int (Int32.ofInt x5_115)), (6, .int (Int32.ofInt x6_115)), (7, .int (Int32.ofInt x7_115)), (8, .int (Int32.ofInt x8_115)), (9, .int (Int32.ofInt x9_115)), (10, .int (Int32.ofInt x10_115)), (11, .int (Int32.ofInt x11_115)), (12, .int (Int32.ofInt x12_115)), (15, .int (Int32.ofInt 0))]) hx hb dX7_look_135 hl (by decide) rfl (fun ls hl => ?_)
      refine lv_goto (tgt := 239) hx hb dX7_look_137 (by decide) ?_
      exact j_239 ⟨by omega, by omega⟩ ⟨by omega, by omega⟩ (x7_115) ⟨by omega, by omega⟩ (x8_115) ⟨by omega, by omega⟩ (x9_115) ⟨by omega, by omega⟩ (x10_115) ⟨by omega, by omega⟩ (2) ⟨by omega, by omega⟩ (z90) ⟨by omega, by omega⟩ (0) ⟨by omega, by omega⟩ _ _ hW  _ (lv_sub hl [2, 3, 4, 5, 9, 10, 11, 12, 1, 0, 15] rfl)
  refine tf_enter (As := [.ref a0, .ref a1, .int (Int32.ofInt x2), .int (Int32.ofInt x3)]) hargs (Nat.le_of_ble_eq_true rfl) (fun ls hl => ?_)
  have hl : lv_has ls 16 [(0, .ref a0), (1, .ref a1), (2, .int (Int32.ofInt x2)), (3, .int (Int32.ofInt x3))] := hl
  refine lv_aload_n hx hb dX7_look_0 rfl (lv_at hl 1 rfl) ?_
  refine tf_get hx hb hts inlX0 hown hK (ci := 0) rfl hW ha1 rfl 0 rfl (by decide) (hts _ fl_X7_32) dX7_look_1 (fun v91 hv91 hsv91 => ?_)
  obtain ⟨ad92, rfl, had92⟩ := tf_v1 hv91
  refine lv_astore (lv' := [(4, .ref ad92), (0, .ref a0), (1, .ref a1), (2, .int (Int32.ofInt x2)), (3, .int (Int32.ofInt x3))]) hx hb dX7_look_4 hl (by decide) rfl (fun ls hl => ?_)
  refine tf_gets hx hb hown (hk.2.1 _ nw_23) (hk.2.2.1 _ (List.mem_of_getElem? (i := 0) rfl)) hW dX7_look_6 ?_
  refine lv_iload_n hx hb dX7_look_9 rfl (lv_at hl 4 rfl) ?_
  refine tf_zld16 (i := 0) hx hb hk hW (by decide) (by omega) (by show _ < ((4 : Nat) : Int); omega) dX7_look_10 (fun z93 hz93 => ?_)
  refine lv_istore (lv' := [(5, .int (Int32.ofInt z93)), (4, .ref ad92), (0, .ref a0), (1, .ref a1), (2, .int (Int32.ofInt x2)), (3, .int (Int32.ofInt x3))]) hx hb dX7_look_11 hl (by decide) rfl (fun ls hl => ?_)
  refine tf_gets hx hb hown (hk.2.1 _ nw_24) (hk.2.2.1 _ (List.mem_of_getElem? (i := 1) rfl)) hW dX7_look_13 ?_
  refine lv_iload_n hx hb dX7_look_16 rfl (lv_at hl 5 rfl) ?_
  refine tf_zld16 (i := 1) hx hb hk hW (by decide) (by omega) (by show _ < ((4 : Nat) : Int); omega) dX7_look_17 (fun z94 hz94 => ?_)
  refine lv_istore (lv' := [(6, .int (Int32.ofInt z94)), (5, .int (Int32.ofInt z93)), (4, .ref ad92), (0, .ref a0), (1, .ref a1), (2, .int (Int32.ofInt x2)), (3, .int (Int32.ofInt x3))]) hx hb dX7_look_18 hl (by decide) rfl (fun ls hl => ?_)
  refine lv_iload_n hx hb dX7_look_20 rfl (lv_at hl 5 rfl) ?_
  refine lv_iload hx hb dX7_look_21 (lv_at hl 1 rfl) ?_
  refine tf_iadd hx hb dX7_look_23 ?_
  refine lv_istore (lv' := [(7, .int (Int32.ofInt ((x2 + z93)))), (6, .int (Int32.ofInt z94)), (5, .int (Int32.ofInt z93)), (4, .ref ad92), (0, .ref a0), (1, .ref a1), (2, .int (Int32.ofInt x2)), (3, .int (Int32.ofInt x3))]) hx hb dX7_look_24 hl (by decide) rfl (fun ls hl => ?_)
  refine lv_iload hx hb dX7_look_26 (lv_at hl 0 rfl) ?_
  refine lv_iload hx hb dX7_look_28 (lv_at hl 2 rfl) ?_
  refine tf_iadd hx hb dX7_look_30 ?_
  refine lv_istore (lv' := [(8, .int (Int32.ofInt (((x2 + z93) + z93)))), (7, .int (Int32.ofInt ((x2 + z93)))), (6, .int (Int32.ofInt z94)), (5, .int (Int32.ofInt z93)), (4, .ref ad92), (0, .ref a0), (1, .ref a1), (2, .int (Int32.ofInt x2)), (3, .int (Int32.ofInt x3))]) hx hb dX7_look_31 hl (by decide) rfl (fun ls hl => ?_)
  refine lv_iload hx hb dX7_look_33 (lv_at hl 0 rfl) ?_
  refine lv_iload hx hb dX7_look_35 (lv_at hl 3 rfl) ?_
  refine tf_iadd hx hb dX7_look_37 ?_
  refine lv_istore (lv' := [(9, .int (Int32.ofInt ((((x2 + z93) + z93) + z93)))), (8, .int (Int32.ofInt (((x2 + z93) + z93)))), (7, .int (Int32.ofInt ((x2 + z93)))), (6, .int (Int32.ofInt z94)), (5, .int (Int32.ofInt z93)), (4, .ref ad92), (0, .ref a0), (1, .ref a1), (2, .int (Int32.ofInt x2)), (3, .int (Int32.ofInt x3))]) hx hb dX7_look_38 hl (by decide) rfl (fun ls hl => ?_)
  refine lv_aload hx hb dX7_look_40 (lv_at hl 5 rfl) ?_
  refine lv_iload hx hb dX7_look_42 (lv_at hl 2 rfl) ?_
  refine tf_iald (t0 := 0) hx hb hK hW had92 rfl rfl (by omega) (by omega) dX7_look_44 (fun v95 hv95 hsv95 => ?_)
  obtain ⟨z96, rfl, hz96⟩ := tf_v0 hv95
  refine lv_aload hx hb dX7_look_45 (lv_at hl 5 rfl) ?_
  refine lv_iload hx hb dX7_look_47 (lv_at hl 1 rfl) ?_
  refine tf_iald (t0 := 0) hx hb hK hW had92 rfl rfl (by omega) (by omega) dX7_look_49 (fun v97 hv97 hsv97 => ?_)
  obtain ⟨z98, rfl, hz98⟩ := tf_v0 hv97
  refine lv_aload hx hb dX7_look_50 (lv_at hl 5 rfl) ?_
  refine lv_iload hx hb dX7_look_52 (lv_at hl 0 rfl) ?_
  refine tf_iald (t0 := 0) hx hb hK hW had92 rfl rfl (by omega) (by omega) dX7_look_54 (fun v99 hv99 hsv99 => ?_)
  obtain ⟨z100, rfl, hz100⟩ := tf_v0 hv99
  refine tf_mmax hx hb hml hl hown (hts _ (tw33 (i := 9) rfl)) (hts _ (tw10 (i := 1) rfl)) (hts _ (tw10 (i := 2) rfl)) (hts _ (tw10 (i := 3) rfl)) ⟨by omega, by omega⟩ ⟨by omega, by omega⟩ (Nat.le_of_ble_eq_true rfl) (Nat.le_trans (by decide) hR1) (Nat.le_trans (by decide) hR2) (Nat.zero_le _) (Nat.zero_le _) dX7_look_55 (fun z101 hz101 => ?_)
  refine tf_mmax hx hb hml hl hown (hts _ (tw33 (i := 9) rfl)) (hts _ (tw10 (i := 1) rfl)) (hts _ (tw10 (i := 2) rfl)) (hts _ (tw10 (i := 3) rfl)) ⟨by omega, by omega⟩ ⟨by omega, by omega⟩ (Nat.le_of_ble_eq_true rfl) (Nat.le_trans (by decide) hR1) (Nat.le_trans (by decide) hR2) (Nat.zero_le _) (Nat.zero_le _) dX7_look_58 (fun z102 hz102 => ?_)
  refine lv_istore (lv' := [(10, .int (Int32.ofInt z102)), (9, .int (Int32.ofInt ((((x2 + z93) + z93) + z93)))), (8, .int (Int32.ofInt (((x2 + z93) + z93)))), (7, .int (Int32.ofInt ((x2 + z93)))), (6, .int (Int32.ofInt z94)), (5, .int (Int32.ofInt z93)), (4, .ref ad92), (0, .ref a0), (1, .ref a1), (2, .int (Int32.ofInt x2)), (3, .int (Int32.ofInt x3))]) hx hb dX7_look_61 hl (by decide) rfl (fun ls hl => ?_)
  refine lv_aload hx hb dX7_look_63 (lv_at hl 6 rfl) ?_
  refine lv_iload_n hx hb dX7_look_65 rfl (lv_at hl 9 rfl) ?_
  refine lv_iload hx hb dX7_look_66 (lv_at hl 4 rfl) ?_
  refine tf_isub hx hb dX7_look_68 ?_
  refine tf_iald (t0 := 0) hx hb hK hW had92 rfl rfl (by omega) (by omega) dX7_look_69 (fun v103 hv103 hsv103 => ?_)
  obtain ⟨z104, rfl, hz104⟩ := tf_v0 hv103
  refine lv_istore (lv' := [(11, .int (Int32.ofInt z104)), (10, .int (Int32.ofInt z102)), (9, .int (Int32.ofInt ((((x2 + z93) + z93) + z93)))), (8, .int (Int32.ofInt (((x2 + z93) + z93)))), (7, .int (Int32.ofInt ((x2 + z93)))), (6, .int (Int32.ofInt z94)), (5, .int (Int32.ofInt z93)), (4, .ref ad92), (0, .ref a0), (1, .ref a1), (2, .int (Int32.ofInt x2)), (3, .int (Int32.ofInt x3))]) hx hb dX7_look_70 hl (by decide) rfl (fun ls hl => ?_)
  refine lv_aload hx hb dX7_look_72 (lv_at hl 7 rfl) ?_
  refine lv_iload_n hx hb dX7_look_74 rfl (lv_at hl 10 rfl) ?_
  refine lv_iload hx hb dX7_look_75 (lv_at hl 5 rfl) ?_
  refine tf_iadd hx hb dX7_look_77 ?_
  refine tf_iald (t0 := 0) hx hb hK hW had92 rfl rfl (by omega) (by omega) dX7_look_78 (fun v105 hv105 hsv105 => ?_)
  obtain ⟨z106, rfl, hz106⟩ := tf_v0 hv105
  refine lv_istore (lv' := [(12, .int (Int32.ofInt z106)), (11, .int (Int32.ofInt z104)), (10, .int (Int32.ofInt z102)), (9, .int (Int32.ofInt ((((x2 + z93) + z93) + z93)))), (8, .int (Int32.ofInt (((x2 + z93) + z93)))), (7, .int (Int32.ofInt ((x2 + z93)))), (6, .int (Int32.ofInt z94)), (5, .int (Int32.ofInt z93)), (4, .ref ad92), (0, .ref a0), (1, .ref a1), (2, .int (Int32.ofInt x2)), (3, .int (Int32.ofInt x3))]) hx hb dX7_look_79 hl (by decide) rfl (fun ls hl => ?_)
  refine tf_iconst hx hb dX7_look_81 ?_
  refine lv_istore (lv' := [(13, .int (Int32.ofInt 0)), (12, .int (Int32.ofInt z106)), (11, .int (Int32.ofInt z104)), (10, .int (Int32.ofInt z102)), (9, .int (Int32.ofInt ((((x2 + z93) + z93) + z93)))), (8, .int (Int32.ofInt (((x2 + z93) + z93)))), (7, .int (Int32.ofInt ((x2 + z93)))), (6, .int (Int32.ofInt z94)), (5, .int (Int32.ofInt z93)), (4, .ref ad92), (0, .ref a0), (1, .ref a1), (2, .int (Int32.ofInt x2)), (3, .int (Int32.ofInt x3))]) hx hb dX7_look_82 hl (by decide) rfl (fun ls hl => ?_)
  refine tf_iconst hx hb dX7_look_84 ?_
  refine lv_istore (lv' := [(14, .int (Int32.ofInt 0)), (13, .int (Int32.ofInt 0)), (12, .int (Int32.ofInt z106)), (11, .int (Int32.ofInt z104)), (10, .int (Int32.ofInt z102)), (9, .int (Int32.ofInt ((((x2 + z93) + z93) + z93)))), (8, .int (Int32.ofInt (((x2 + z93) + z93)))), (7, .int (Int32.ofInt ((x2 + z93)))), (6, .int (Int32.ofInt z94)), (5, .int (Int32.ofInt z93)), (4, .ref ad92), (0, .ref a0), (1, .ref a1), (2, .int (Int32.ofInt x2)), (3, .int (Int32.ofInt x3))]) hx hb dX7_look_85 hl (by decide) rfl (fun ls hl => ?_)
  refine tf_iconst hx hb dX7_look_87 ?_
  refine lv_istore (lv' := [(15, .int (Int32.ofInt 0)), (14, .int (Int32.ofInt 0)), (13, .int (Int32.ofInt 0)), (12, .int (Int32.ofInt z106)), (11, .int (Int32.ofInt z104)), (10, .int (Int32.ofInt z102)), (9, .int (Int32.ofInt ((((x2 + z93) + z93) + z93)))), (8, .int (Int32.ofInt (((x2 + z93) + z93)))), (7, .int (Int32.ofInt ((x2 + z93)))), (6, .int (Int32.ofInt z94)), (5, .int (Int32.ofInt z93)), (4, .ref ad92), (0, .ref a0), (1, .ref a1), (2, .int (Int32.ofInt x2)), (3, .int (Int32.ofInt x3))]) hx hb dX7_look_88 hl (by decide) rfl (fun ls hl => ?_)
  refine lv_iload hx hb dX7_look_90 (lv_at hl 4 rfl) ?_
  refine tf_if_le (tgt := 115) hx hb ⟨by omega, by omega⟩ dX7_look_92 (by decide) (fun h107 => ?_) (fun h107 => ?_)
  · exact j_115 ⟨by omega, by omega⟩ ⟨by omega, by omega⟩ ad92 had92 (z93) ⟨by omega, by omega⟩ (z94) ⟨by omega, by omega⟩ ((x2 + z93)) ⟨by omega, by omega⟩ (((x2 + z93) + z93)) ⟨by omega, by omega⟩ ((((x2 + z93) + z93) + z93)) ⟨by omega, by omega⟩ (z102) ⟨by omega, by omega⟩ (z104) ⟨by omega, by omega⟩ (z106) ⟨by omega, by omega⟩ _ _ hW  _ (lv_sub hl [12, 13, 14, 15, 11, 10, 9, 8, 7, 6, 5, 4, 3, 2, 1, 0] rfl)
  · refine lv_iload hx hb dX7_look_95 (lv_at hl 3 rfl) ?_
    refine tf_if_le (tgt := 115) hx hb ⟨by omega, by omega⟩ dX7_look_97 (by decide) (fun h108 => ?_) (fun h108 => ?_)
    · exact j_115 ⟨by omega, by omega⟩ ⟨by omega, by omega⟩ ad92 had92 (z93) ⟨by omega, by omega⟩ (z94) ⟨by omega, by omega⟩ ((x2 + z93)) ⟨by omega, by omega⟩ (((x2 + z93) + z93)) ⟨by omega, by omega⟩ ((((x2 + z93) + z93) + z93)) ⟨by omega, by omega⟩ (z102) ⟨by omega, by omega⟩ (z104) ⟨by omega, by omega⟩ (z106) ⟨by omega, by omega⟩ _ _ hW  _ (lv_sub hl [12, 13, 14, 15, 11, 10, 9, 8, 7, 6, 5, 4, 3, 2, 1, 0] rfl)
    · refine tf_iconst hx hb dX7_look_100 ?_
      refine lv_istore (lv' := [(13, .int (Int32.ofInt 1)), (15, .int (Int32.ofInt 0)), (14, .int (Int32.ofInt 0)), (12, .int (Int32.ofInt z106)), (11, .int (Int32.ofInt z104)), (10, .int (Int32.ofInt z102)), (9, .int (Int32.ofInt ((((x2 + z93) + z93) + z93)))), (8, .int (Int32.ofInt (((x2 + z93) + z93)))), (7, .int (Int32.ofInt ((x2 + z93)))), (6, .int (Int32.ofInt z94)), (5, .int (Int32.ofInt z93)), (4, .ref ad92), (0, .ref a0), (1, .ref a1), (2, .int (Int32.ofInt x2)), (3, .int (Int32.ofInt x3))]) hx hb dX7_look_101 hl (by decide) rfl (fun ls hl => ?_)
      refine lv_iload hx hb dX7_look_103 (lv_at hl 4 rfl) ?_
      refine lv_iload hx hb dX7_look_105 (lv_at hl 3 rfl) ?_
      refine tf_mmax hx hb hml hl hown (hts _ (tw33 (i := 9) rfl)) (hts _ (tw10 (i := 1) rfl)) (hts _ (tw10 (i := 2) rfl)) (hts _ (tw10 (i := 3) rfl)) ⟨by omega, by omega⟩ ⟨by omega, by omega⟩ (Nat.le_of_ble_eq_true rfl) (Nat.le_trans (by decide) hR1) (Nat.le_trans (by decide) hR2) (Nat.zero_le _) (Nat.zero_le _) dX7_look_107 (fun z109 hz109 => ?_)
      refine lv_istore (lv' := [(14, .int (Int32.ofInt z109)), (13, .int (Int32.ofInt 1)), (15, .int (Int32.ofInt 0)), (12, .int (Int32.ofInt z106)), (11, .int (Int32.ofInt z104)), (10, .int (Int32.ofInt z102)), (9, .int (Int32.ofInt ((((x2 + z93) + z93) + z93)))), (8, .int (Int32.ofInt (((x2 + z93) + z93)))), (7, .int (Int32.ofInt ((x2 + z93)))), (6, .int (Int32.ofInt z94)), (5, .int (Int32.ofInt z93)), (4, .ref ad92), (0, .ref a0), (1, .ref a1), (2, .int (Int32.ofInt x2)), (3, .int (Int32.ofInt x3))]) hx hb dX7_look_110 hl (by decide) rfl (fun ls hl => ?_)
      refine lv_goto (tgt := 239) hx hb dX7_look_112 (by decide) ?_
      exact j_239 ⟨by omega, by omega⟩ ⟨by omega, by omega⟩ ((x2 + z93)) ⟨by omega, by omega⟩ (((x2 + z93) + z93)) ⟨by omega, by omega⟩ ((((x2 + z93) + z93) + z93)) ⟨by omega, by omega⟩ (z102) ⟨by omega, by omega⟩ (1) ⟨by omega, by omega⟩ (z109) ⟨by omega, by omega⟩ (0) ⟨by omega, by omega⟩ _ _ hW  _ (lv_sub hl [12, 13, 14, 15, 8, 7, 6, 5, 1, 0, 2] rfl)

abbrev M_X7_lawlessQuick : List (Nat × Nat) := []
set_option maxHeartbeats 4000000 in
set_option maxRecDepth 100000 in
theorem c_X7_lawlessQuick (l : Launch) (g : tf_G) (T : tf_T) (a0 : Nat) (ha0 : T a0 = some (24, 0)) : Met l yX7_lawlessQuick (cd_X7_lawlessQuick :: wsL_law) ({ frames := 1, cells := 0, slots := 0, locals := 24 }) (tf_P g T [.ref a0] (fun H => True)) (tf_Qi g M_X7_lawlessQuick T (fun z _ _ => (-2147483648) ≤ z ∧ z ≤ 2147483647)) 0 0 (fun q => tf_B g ≤ q) := by
  refine Met.ofW (cc := cX7_lawlessQuick) (maxL := 1) (ret := (some .int)) (by decide) rfl ?_
  intro p e s m args below meth c s₁ B hml hv
  obtain ⟨hargs, hk, hW0, hB, hpre⟩ := hv
  have hx := B.exec
  have hb := B.bytes
  have hr := B.returns
  have hts : ∀ w ∈ wsL_law, w.before args s = true := fun w h => atoms_spec (ws := cd_X7_lawlessQuick :: wsL_law) B.pre w (List.mem_cons_of_mem _ h)
  have hown : s.vm.findClass RX7 = some m.cls := findClass_of_methodNamed B.named
  have hlocks := B.notSynchronized
  have hK := hk.1
  have hW := tf_n.start (M := M_X7_lawlessQuick) hW0 hB
  obtain ⟨Q, hQ⟩ : ∃ q, q = MQ below (tf_Qi g M_X7_lawlessQuick T (fun z _ _ => (-2147483648) ≤ z ∧ z ≤ 2147483647)) args s 0 0 (fun q => tf_B g ≤ q) := ⟨_, rfl⟩
  rw [← hQ]
  obtain ⟨R, hR⟩ : ∃ q, q = (headSpec (cd_X7_lawlessQuick :: wsL_law) ({ frames := 1, cells := 0, slots := 0, locals := 24 })).room := ⟨_, rfl⟩
  rw [← hR]
  have hR1 : 1 ≤ R.frames := by rw [hR]; exact Nat.le_refl _
  have hR2 : 24 ≤ R.locals := by rw [hR]; exact Nat.le_refl _
  have hR3 : 0 ≤ R.cells := by rw [hR]; exact Nat.le_refl _
  have hR4 : 0 ≤ R.slots := by rw [hR]; exact Nat.le_refl _
  have hin := (name_of_methodNamed B.named B.method).1
  clear hR B
  refine tf_enter (As := [.ref a0]) hargs (Nat.le_of_ble_eq_true rfl) (fun ls hl => ?_)
  have hl : lv_has ls 1 [(0, .ref a0)] := hl
  refine lv_aload_n hx hb dX7_lawlessQuick_0 rfl (lv_at hl 0 rfl) ?_
  refine tf_get hx hb hts inlX7 hown hK (ci := 7) rfl hW ha0 rfl 0 rfl (by decide) (hts _ fl_X7_9) dX7_lawlessQuick_1 (fun v1 hv1 hsv1 => ?_)
  obtain ⟨ad2, rfl, had2⟩ := tf_v1 hv1
  refine tf_iconst hx hb dX7_lawlessQuick_4 ?_
  refine tf_iald (t0 := 0) hx hb hK hW had2 rfl rfl (by omega) (by omega) dX7_lawlessQuick_5 (fun v3 hv3 hsv3 => ?_)
  obtain ⟨z4, rfl, hz4⟩ := tf_v0 hv3
  rcases (show z4 = 1 ∨ z4 = 2 ∨ z4 = 3 ∨ z4 = 4 ∨ z4 < 1 ∨ 4 < z4 by omega) with h5 | h5 | h5 | h5 | h5 | h5
  · refine tf_tableIn (tgt := 36) hx hb dX7_lawlessQuick_6 h5 (by decide) (by decide) (by decide) rfl (by decide) ?_
    refine tf_sipush hx hb dX7_lawlessQuick_36 (by decide) ?_
    exact tf_reti (z := 180) hx hb hr hlocks hQ hW (show (-2147483648) ≤ (180) ∧ (180) ≤ 2147483647 by omega) dX7_lawlessQuick_39
  · refine tf_tableIn (tgt := 40) hx hb dX7_lawlessQuick_6 h5 (by decide) (by decide) (by decide) rfl (by decide) ?_
    refine tf_bipush hx hb dX7_lawlessQuick_40 (by decide) ?_
    refine tf_iconst hx hb dX7_lawlessQuick_42 ?_
    refine lv_aload_n hx hb dX7_lawlessQuick_43 rfl (lv_at hl 0 rfl) ?_
    refine tf_get hx hb hts inlX7 hown hK (ci := 7) rfl hW ha0 rfl 0 rfl (by decide) (hts _ fl_X7_9) dX7_lawlessQuick_44 (fun v6 hv6 hsv6 => ?_)
    obtain rfl : v6 = .ref ad2 := Option.some.inj (hsv6.symm.trans hsv1)
    refine tf_iconst hx hb dX7_lawlessQuick_47 ?_
    refine tf_iald (t0 := 0) hx hb hK hW had2 rfl rfl (by omega) (by omega) dX7_lawlessQuick_48 (fun v7 hv7 hsv7 => ?_)
    obtain ⟨z8, rfl, hz8⟩ := tf_v0 hv7
    refine tf_imul_any hx hb dX7_lawlessQuick_49 (fun z9 hz9 => ?_)
    refine tf_iadd_any hx hb dX7_lawlessQuick_50 (fun z10 hz10 => ?_)
    exact tf_reti (z := z10) hx hb hr hlocks hQ hW (show (-2147483648) ≤ (z10) ∧ (z10) ≤ 2147483647 by omega) dX7_lawlessQuick_51
  · refine tf_tableIn (tgt := 52) hx hb dX7_lawlessQuick_6 h5 (by decide) (by decide) (by decide) rfl (by decide) ?_
    refine tf_sipush hx hb dX7_lawlessQuick_52 (by decide) ?_
    refine lv_aload_n hx hb dX7_lawlessQuick_55 rfl (lv_at hl 0 rfl) ?_
    refine tf_get hx hb hts inlX7 hown hK (ci := 7) rfl hW ha0 rfl 0 rfl (by decide) (hts _ fl_X7_9) dX7_lawlessQuick_56 (fun v11 hv11 hsv11 => ?_)
    obtain rfl : v11 = .ref ad2 := Option.some.inj (hsv11.symm.trans hsv1)
    refine tf_iconst hx hb dX7_lawlessQuick_59 ?_
    refine tf_iald (t0 := 0) hx hb hK hW had2 rfl rfl (by omega) (by omega) dX7_lawlessQuick_60 (fun v12 hv12 hsv12 => ?_)
    obtain ⟨z13, rfl, hz13⟩ := tf_v0 hv12
    refine tf_iadd_any hx hb dX7_lawlessQuick_61 (fun z14 hz14 => ?_)
    exact tf_reti (z := z14) hx hb hr hlocks hQ hW (show (-2147483648) ≤ (z14) ∧ (z14) ≤ 2147483647 by omega) dX7_lawlessQuick_62
  · refine tf_tableIn (tgt := 63) hx hb dX7_lawlessQuick_6 h5 (by decide) (by decide) (by decide) rfl (by decide) ?_
    refine tf_bipush hx hb dX7_lawlessQuick_63 (by decide) ?_
    exact tf_reti (z := 40) hx hb hr hlocks hQ hW (show (-2147483648) ≤ (40) ∧ (40) ≤ 2147483647 by omega) dX7_lawlessQuick_65
  · refine tf_tableOut (tgt := 66) hx hb dX7_lawlessQuick_6 ⟨by omega, by omega⟩ (by omega) (by decide) ?_
    refine tf_bipush hx hb dX7_lawlessQuick_66 (by decide) ?_
    exact tf_reti (z := 100) hx hb hr hlocks hQ hW (show (-2147483648) ≤ (100) ∧ (100) ≤ 2147483647 by omega) dX7_lawlessQuick_68
  · refine tf_tableOut (tgt := 66) hx hb dX7_lawlessQuick_6 ⟨by omega, by omega⟩ (by omega) (by decide) ?_
    refine tf_bipush hx hb dX7_lawlessQuick_66 (by decide) ?_
    exact tf_reti (z := 100) hx hb hr hlocks hQ hW (show (-2147483648) ≤ (100) ∧ (100) ≤ 2147483647 by omega) dX7_lawlessQuick_68

abbrev M_X7_sightSeen : List (Nat × Nat) := []
set_option maxHeartbeats 4000000 in
set_option maxRecDepth 100000 in
theorem c_X7_sightSeen (l : Launch) (g : tf_G) (T : tf_T) (a0 : Nat) (ha0 : T a0 = some (24, 0)) : Met l yX7_sightSeen (cd_X7_sightSeen :: wsL_law) ({ frames := 1, cells := 0, slots := 0, locals := 24 }) (tf_P g T [.ref a0] (fun H => True)) (tf_Ql g M_X7_sightSeen T (fun z _ _ => (-9223372036854775808) ≤ z ∧ z ≤ 9223372036854775807)) 0 0 (fun q => tf_B g ≤ q) := by
  refine Met.ofW (cc := cX7_sightSeen) (maxL := 4) (ret := (some .long)) (by decide) rfl ?_
  intro p e s m args below meth c s₁ B hml hv
  obtain ⟨hargs, hk, hW0, hB, hpre⟩ := hv
  have hx := B.exec
  have hb := B.bytes
  have hr := B.returns
  have hts : ∀ w ∈ wsL_law, w.before args s = true := fun w h => atoms_spec (ws := cd_X7_sightSeen :: wsL_law) B.pre w (List.mem_cons_of_mem _ h)
  have hown : s.vm.findClass RX7 = some m.cls := findClass_of_methodNamed B.named
  have hlocks := B.notSynchronized
  have hK := hk.1
  have hW := tf_n.start (M := M_X7_sightSeen) hW0 hB
  obtain ⟨Q, hQ⟩ : ∃ q, q = MQ below (tf_Ql g M_X7_sightSeen T (fun z _ _ => (-9223372036854775808) ≤ z ∧ z ≤ 9223372036854775807)) args s 0 0 (fun q => tf_B g ≤ q) := ⟨_, rfl⟩
  rw [← hQ]
  obtain ⟨R, hR⟩ : ∃ q, q = (headSpec (cd_X7_sightSeen :: wsL_law) ({ frames := 1, cells := 0, slots := 0, locals := 24 })).room := ⟨_, rfl⟩
  rw [← hR]
  have hR1 : 1 ≤ R.frames := by rw [hR]; exact Nat.le_refl _
  have hR2 : 24 ≤ R.locals := by rw [hR]; exact Nat.le_refl _
  have hR3 : 0 ≤ R.cells := by rw [hR]; exact Nat.le_refl _
  have hR4 : 0 ≤ R.slots := by rw [hR]; exact Nat.le_refl _
  have hin := (name_of_methodNamed B.named B.method).1
  clear hR B
  have j_4 : ∀ (n_4 : Nat), ∀ (x1_4 : Int), (-9223372036854775808) ≤ x1_4 ∧ x1_4 ≤ 9223372036854775807 → ∀ (x3_4 : Int), 0 ≤ x3_4 ∧ x3_4 ≤ 9 → (9 - x3_4 + 1 ≤ (n_4 : Int)) → ∀ (H : Heap) (locs : List Loc), tf_n tf_kt g M_X7_sightSeen T s.heap T H locs → ∀ (ls : Array Slot), lv_has ls 4 [(0, .ref a0), (1, .long (Int64.ofInt x1_4)), (3, .int (Int32.ofInt x3_4))] → W p l e R s m args below meth c H locs 0 0 Q (F0 m 4 ls []) := by
    intro n_4
    induction n_4 with
    | zero =>
      intro x1_4 hx1_4 x3_4 hx3_4 hm_4
      exfalso; omega
    | succ n_4 ih_4 =>
      intro x1_4 hx1_4 x3_4 hx3_4 hm_4 H locs hW  ls hl
      refine lv_iload_n hx hb dX7_sightSeen_4 rfl (lv_at hl 2 rfl) ?_
      refine tf_bipush hx hb dX7_sightSeen_5 (by decide) ?_
      refine tf_icmp_ge (tgt := 29) hx hb ⟨by omega, by omega⟩ ⟨by decide, by decide⟩ dX7_sightSeen_7 (by decide) (fun h1 => ?_) (fun h1 => ?_)
      · refine lv_lload_n hx hb dX7_sightSeen_29 rfl (lv_at hl 1 rfl) ?_
        exact tf_retl (z := x1_4) hx hb hr hlocks hQ hW (show (-9223372036854775808) ≤ (x1_4) ∧ (x1_4) ≤ 9223372036854775807 by omega) dX7_sightSeen_30
      · refine lv_lload_n hx hb dX7_sightSeen_10 rfl (lv_at hl 1 rfl) ?_
        refine tf_bipush hx hb dX7_sightSeen_11 (by decide) ?_
        refine tf_lshl_any hx hb dX7_sightSeen_13 (fun z2 hz2 => ?_)
        refine lv_aload_n hx hb dX7_sightSeen_14 rfl (lv_at hl 0 rfl) ?_
        refine tf_get hx hb hts inlX7 hown hK (ci := 7) rfl hW ha0 rfl 0 rfl (by decide) (hts _ fl_X7_9) dX7_sightSeen_15 (fun v3 hv3 hsv3 => ?_)
        obtain ⟨ad4, rfl, had4⟩ := tf_v1 hv3
        refine lv_iload_n hx hb dX7_sightSeen_18 rfl (lv_at hl 2 rfl) ?_
        refine tf_iald (t0 := 0) hx hb hK hW had4 rfl rfl (by omega) (by omega) dX7_sightSeen_19 (fun v5 hv5 hsv5 => ?_)
        obtain ⟨z6, rfl, hz6⟩ := tf_v0 hv5
        refine tf_i2l hx hb ⟨by omega, by omega⟩ dX7_sightSeen_20 ?_
        refine tf_lor_any hx hb dX7_sightSeen_21 (fun z7 hz7 => ?_)
        refine lv_lstore_n (lv' := [(1, .long (Int64.ofInt z7)), (0, .ref a0), (3, .int (Int32.ofInt x3_4))]) hx hb dX7_sightSeen_22 rfl hl (by decide) rfl (fun ls hl => ?_)
        refine lv_iinc (v := Int32.ofInt ((x3_4 + 1))) (lv' := [(3, .int (Int32.ofInt ((x3_4 + 1)))), (1, .long (Int64.ofInt z7)), (0, .ref a0)]) hx hb dX7_sightSeen_23 hl (k := 2) rfl (Int32.ofInt_add _ _).symm (by decide) rfl (fun ls hl => ?_)
        refine lv_goto (tgt := 4) hx hb dX7_sightSeen_26 (by decide) ?_
        exact ih_4 (z7) ⟨by omega, by omega⟩ ((x3_4 + 1)) ⟨by omega, by omega⟩ (by omega) _ _ hW  _ (lv_sub hl [2, 1, 0] rfl)
  refine tf_enter (As := [.ref a0]) hargs (Nat.le_of_ble_eq_true rfl) (fun ls hl => ?_)
  have hl : lv_has ls 4 [(0, .ref a0)] := hl
  refine tf_lconst (z := 1) hx hb dX7_sightSeen_0 (by decide) ?_
  refine lv_lstore_n (lv' := [(1, .long (Int64.ofInt 1)), (0, .ref a0)]) hx hb dX7_sightSeen_1 rfl hl (by decide) rfl (fun ls hl => ?_)
  refine tf_iconst hx hb dX7_sightSeen_2 ?_
  refine lv_istore_n (lv' := [(3, .int (Int32.ofInt 0)), (1, .long (Int64.ofInt 1)), (0, .ref a0)]) hx hb dX7_sightSeen_3 rfl hl (by decide) rfl (fun ls hl => ?_)
  exact j_4 ((9 - 0 + 1 : Int)).toNat (1) ⟨by omega, by omega⟩ (0) ⟨by omega, by omega⟩ (by omega) _ _ hW  _ (lv_sub hl [2, 1, 0] rfl)

abbrev M_X7_quick : List (Nat × Nat) := [(0, 0), (4, 0), (24, 5)]
set_option maxHeartbeats 4000000 in
set_option maxRecDepth 100000 in
theorem c_X7_quick (l : Launch) (g : tf_G) (T : tf_T) (a0 : Nat) (ha0 : T a0 = some (24, 0)) (a1 : Nat) (ha1 : T a1 = some (20, 0)) (a2 : Nat) (ha2 : T a2 = some (17, 0)) (x3 : Int) (hp3 : 51 ≤ x3 ∧ x3 ≤ 204) (x4 : Int) (hp4 : 0 ≤ x4 ∧ x4 ≤ 3) (hE : tf_E g T) : Met l yX7_quick (cd_X7_quick :: wsL_law) ({ frames := 4, cells := 0, slots := 0, locals := 102 }) (tf_P g T [.ref a0, .ref a1, .ref a2, .int (Int32.ofInt x3), .int (Int32.ofInt x4)] (fun H => True)) (tf_Qi g M_X7_quick T (fun z _ _ => (-2147483648) ≤ z ∧ z ≤ 2147483647)) 0 0 (fun q => tf_B g ≤ q) := by
  refine Met.ofW (cc := cX7_quick) (maxL := 10) (ret := (some .int)) (by decide) rfl ?_
  intro p e s m args below meth c s₁ B hml hv
  obtain ⟨hargs, hk, hW0, hB, hpre⟩ := hv
  have hx := B.exec
  have hb := B.bytes
  have hr := B.returns
  have hts : ∀ w ∈ wsL_law, w.before args s = true := fun w h => atoms_spec (ws := cd_X7_quick :: wsL_law) B.pre w (List.mem_cons_of_mem _ h)
  have hown : s.vm.findClass RX7 = some m.cls := findClass_of_methodNamed B.named
  have hlocks := B.notSynchronized
  have hK := hk.1
  have hW := tf_n.start (M := M_X7_quick) hW0 hB
  obtain ⟨Q, hQ⟩ : ∃ q, q = MQ below (tf_Qi g M_X7_quick T (fun z _ _ => (-2147483648) ≤ z ∧ z ≤ 2147483647)) args s 0 0 (fun q => tf_B g ≤ q) := ⟨_, rfl⟩
  rw [← hQ]
  obtain ⟨R, hR⟩ : ∃ q, q = (headSpec (cd_X7_quick :: wsL_law) ({ frames := 4, cells := 0, slots := 0, locals := 102 })).room := ⟨_, rfl⟩
  rw [← hR]
  have hR1 : 4 ≤ R.frames := by rw [hR]; exact Nat.le_refl _
  have hR2 : 102 ≤ R.locals := by rw [hR]; exact Nat.le_refl _
  have hR3 : 0 ≤ R.cells := by rw [hR]; exact Nat.le_refl _
  have hR4 : 0 ≤ R.slots := by rw [hR]; exact Nat.le_refl _
  have hin := (name_of_methodNamed B.named B.method).1
  clear hR B
  have j_124 : ∀ (x8_124 : Int), 0 ≤ x8_124 ∧ x8_124 ≤ 1023 → ∀ (H : Heap) (locs : List Loc), tf_n tf_kt g M_X7_quick T s.heap T H locs → ∀ (ls : Array Slot), lv_has ls 10 [(0, .ref a0), (8, .int (Int32.ofInt x8_124))] → W p l e R s m args below meth c H locs 0 0 Q (F0 m 124 ls []) := by
    intro x8_124 hx8_124 H locs hW  ls hl
    refine lv_aload_n hx hb dX7_quick_124 rfl (lv_at hl 0 rfl) ?_
    refine tf_get hx hb hts inlX7 hown hK (ci := 7) rfl hW ha0 rfl 4 rfl (by decide) (hts _ fl_X7_25) dX7_quick_125 (fun v1 hv1 hsv1 => ?_)
    obtain ⟨ad2, rfl, had2⟩ := tf_v1 hv1
    refine lv_iload hx hb dX7_quick_128 (lv_at hl 1 rfl) ?_
    refine tf_iald (t0 := 0) hx hb hK hW had2 rfl rfl (by omega) (by omega) dX7_quick_130 (fun v3 hv3 hsv3 => ?_)
    obtain ⟨z4, rfl, hz4⟩ := tf_v0 hv3
    exact tf_reti (z := z4) hx hb hr hlocks hQ hW (show (-2147483648) ≤ (z4) ∧ (z4) ≤ 2147483647 by omega) dX7_quick_131
  have j_123 : ∀ (x8_123 : Int), 0 ≤ x8_123 ∧ x8_123 ≤ 1023 → ∀ (b0_123 : Nat), T b0_123 = some (0, 1024) → ∀ (y1_123 : Int), 0 ≤ y1_123 ∧ y1_123 ≤ 1023 → ∀ (y2_123 : Int), (-2147483648) ≤ y2_123 ∧ y2_123 ≤ 2147483647 → ∀ (H : Heap) (locs : List Loc), tf_n tf_kt g M_X7_quick T s.heap T H locs → ∀ (ls : Array Slot), lv_has ls 10 [(0, .ref a0), (8, .int (Int32.ofInt x8_123))] → W p l e R s m args below meth c H locs 0 0 Q (F0 m 123 ls [.int (Int32.ofInt y2_123), .int (Int32.ofInt y1_123), .ref b0_123]) := by
    intro x8_123 hx8_123 b0_123 hb0_123 y1_123 hy1_123 y2_123 hy2_123 H locs hW  ls hl
    refine tf_iast (t0 := 0) hx hb hK hW hb0_123 rfl rfl (by omega) (by omega) (by decide) (tf_u0 (by omega) (by omega)) dX7_quick_123 (fun H5 locs5 hW hs5 ht5 hq5 => ?_)
    exact j_124 (x8_123) ⟨by omega, by omega⟩ _ _ hW  _ (lv_sub hl [0, 1] rfl)
  have j_47 : ∀ (a5_47 : Nat), T a5_47 = some (18, 0) → ∀ (H : Heap) (locs : List Loc), tf_n tf_kt g M_X7_quick T s.heap T H locs → ∀ (ls : Array Slot), lv_has ls 10 [(0, .ref a0), (5, .ref a5_47)] → W p l e R s m args below meth c H locs 0 0 Q (F0 m 47 ls []) := by
    intro a5_47 ha5_47 H locs hW  ls hl
    refine lv_aload_n hx hb dX7_quick_47 rfl (lv_at hl 0 rfl) ?_
    refine tf_calll (va_runV (As := []) (rest := []) ⟨hx, hb, hml, hown, hts⟩ (c_X7_sightSeen l g T a0 ha0) (cwV 0 hts gv_X7_75 rfl rfl rfl hd_X7_sightSeen ⟨Nat.le_trans (by decide) hR1, Nat.le_trans (by decide) hR2⟩) (tf_preV hk hW ha0 (ci := 7) rfl rfl trivial) rfl rfl hl.1 rfl (lv_room (Nat.le_of_ble_eq_true rfl)) dX7_quick_48 ⟨Nat.zero_le _, Nat.zero_le _⟩) hW (by decide) (fun z6 H6 locs6 hW hF6 hp6 => ?_)
    obtain ⟨hp6_0, hp6_1⟩ := hp6
    refine lv_lstore (lv' := [(6, .long (Int64.ofInt z6)), (0, .ref a0), (5, .ref a5_47)]) hx hb dX7_quick_51 hl (by decide) rfl (fun ls hl => ?_)
    refine lv_lload hx hb dX7_quick_53 (lv_at hl 0 rfl) ?_
    refine tf_ldc2 (z := 6364136223846793005) hx hb hown (hts _ kl_X7_79) (by decide) dX7_quick_55 ?_
    refine tf_lmul_any hx hb dX7_quick_58 (fun z7 hz7 => ?_)
    refine tf_bipush hx hb dX7_quick_59 (by decide) ?_
    refine tf_lushr_k hx hb 54 (by decide) (by decide) (by decide) dX7_quick_61 (fun z8 hz8 kz8 => ?_)
    refine tf_l2i hx hb dX7_quick_62 ?_
    refine lv_istore (lv' := [(8, .int (Int32.ofInt z8)), (6, .long (Int64.ofInt z6)), (0, .ref a0), (5, .ref a5_47)]) hx hb dX7_quick_63 hl (by decide) rfl (fun ls hl => ?_)
    refine lv_aload_n hx hb dX7_quick_65 rfl (lv_at hl 2 rfl) ?_
    refine tf_get hx hb hts inlX7 hown hK (ci := 7) rfl hW ha0 rfl 3 rfl (by decide) (hts _ fl_X7_21) dX7_quick_66 (fun v9 hv9 hsv9 => ?_)
    obtain ⟨ad10, rfl, had10⟩ := tf_v1 hv9
    refine lv_iload hx hb dX7_quick_69 (lv_at hl 0 rfl) ?_
    refine tf_lald (t0 := 1) hx hb hK hW had10 rfl rfl (by omega) (by omega) dX7_quick_71 (fun v11 hv11 hsv11 => ?_)
    obtain ⟨z12, rfl, hz12⟩ := tf_v5 hv11
    refine lv_lload hx hb dX7_quick_72 (lv_at hl 1 rfl) ?_
    refine tf_lcmp hx hb ⟨by omega, by omega⟩ ⟨by omega, by omega⟩ dX7_quick_74 (fun z13 hz13 => ?_)
    refine tf_if_eq (tgt := 124) hx hb ⟨by omega, by omega⟩ dX7_quick_75 (by decide) (fun h14 => ?_) (fun h14 => ?_)
    · exact j_124 (z8) ⟨by omega, by omega⟩ _ _ hW  _ (lv_sub hl [2, 0] rfl)
    · refine lv_aload hx hb dX7_quick_78 (lv_at hl 3 rfl) ?_
      refine lv_aload_n hx hb dX7_quick_80 rfl (lv_at hl 2 rfl) ?_
      refine tf_get hx hb hts inlX7 hown hK (ci := 7) rfl hW ha0 rfl 0 rfl (by decide) (hts _ fl_X7_9) dX7_quick_81 (fun v15 hv15 hsv15 => ?_)
      obtain ⟨ad16, rfl, had16⟩ := tf_v1 hv15
      refine lv_aload_n hx hb dX7_quick_84 rfl (lv_at hl 2 rfl) ?_
      refine tf_get hx hb hts inlX7 hown hK (ci := 7) rfl hW ha0 rfl 2 rfl (by decide) (hts _ fl_X7_18) dX7_quick_85 (fun v17 hv17 hsv17 => ?_)
      obtain ⟨ad18, rfl, had18⟩ := tf_v1 hv17
      refine tf_calli (va_runV (As := [.ref ad16, .ref ad18]) (rest := []) ⟨hx, hb, hml, hown, hts⟩ (c_X1_tells l g T a5_47 ha5_47 ad16 had16 ad18 had18) (cwV 2 hts gv_X7_81 rfl rfl rfl hd_X1_tells ⟨Nat.le_trans (by decide) hR1, Nat.le_trans (by decide) hR2⟩) (tf_preV hk hW ha5_47 (ci := 1) rfl rfl trivial) rfl rfl hl.1 rfl (lv_room (Nat.le_of_ble_eq_true rfl)) dX7_quick_88 ⟨Nat.zero_le _, Nat.zero_le _⟩) hW (by decide) (fun z19 H19 locs19 hW hF19 hp19 => ?_)
      have hs20 := tf_keepF hF19 ha0 rfl rfl (by decide) hsv9
      obtain ⟨hp19_0, hp19_1⟩ := hp19
      refine lv_istore (lv' := [(9, .int (Int32.ofInt z19)), (8, .int (Int32.ofInt z8)), (6, .long (Int64.ofInt z6)), (0, .ref a0), (5, .ref a5_47)]) hx hb dX7_quick_91 hl (by decide) rfl (fun ls hl => ?_)
      refine lv_aload_n hx hb dX7_quick_93 rfl (lv_at hl 3 rfl) ?_
      refine tf_get hx hb hts inlX7 hown hK (ci := 7) rfl hW ha0 rfl 3 rfl (by decide) (hts _ fl_X7_21) dX7_quick_94 (fun v21 hv21 hsv21 => ?_)
      obtain rfl : v21 = .ref ad10 := Option.some.inj (hsv21.symm.trans hs20)
      refine lv_iload hx hb dX7_quick_97 (lv_at hl 1 rfl) ?_
      refine lv_lload hx hb dX7_quick_99 (lv_at hl 2 rfl) ?_
      refine tf_last (t0 := 1) hx hb hK hW had10 rfl rfl (by omega) (by omega) (by decide) (tf_u5 (by omega) (by omega)) dX7_quick_101 (fun H22 locs22 hW hs22 ht22 hq22 => ?_)
      have hs23 := tf_keepQ hs20 (hq22 _ (tf_ne ha0 had10 (by decide)))
      refine lv_aload_n hx hb dX7_quick_102 rfl (lv_at hl 3 rfl) ?_
      refine tf_get hx hb hts inlX7 hown hK (ci := 7) rfl hW ha0 rfl 4 rfl (by decide) (hts _ fl_X7_25) dX7_quick_103 (fun v24 hv24 hsv24 => ?_)
      obtain ⟨ad25, rfl, had25⟩ := tf_v1 hv24
      refine lv_iload hx hb dX7_quick_106 (lv_at hl 1 rfl) ?_
      refine lv_iload hx hb dX7_quick_108 (lv_at hl 0 rfl) ?_
      refine tf_iconst hx hb dX7_quick_110 ?_
      refine tf_icmp_ne (tgt := 121) hx hb ⟨by omega, by omega⟩ ⟨by decide, by decide⟩ dX7_quick_111 (by decide) (fun h26 => ?_) (fun h26 => ?_)
      · refine lv_iload hx hb dX7_quick_121 (lv_at hl 0 rfl) ?_
        exact j_123 (z8) ⟨by omega, by omega⟩ ad25 had25 (z8) ⟨by omega, by omega⟩ (z19) ⟨by omega, by omega⟩ _ _ hW  _ (lv_sub hl [3, 1] rfl)
      · refine lv_aload_n hx hb dX7_quick_114 rfl (lv_at hl 3 rfl) ?_
        refine tf_calli (va_runV (As := []) (rest := [.int (Int32.ofInt z8), .ref ad25]) ⟨hx, hb, hml, hown, hts⟩ (c_X7_lawlessQuick l g T a0 ha0) (cwV 0 hts gv_X7_65 rfl rfl rfl hd_X7_lawlessQuick ⟨Nat.le_trans (by decide) hR1, Nat.le_trans (by decide) hR2⟩) (tf_preV hk hW ha0 (ci := 7) rfl rfl trivial) rfl rfl hl.1 rfl (lv_room (Nat.le_of_ble_eq_true rfl)) dX7_quick_115 ⟨Nat.zero_le _, Nat.zero_le _⟩) hW (by decide) (fun z27 H27 locs27 hW hF27 hp27 => ?_)
        have hs28 := tf_keepF hF27 ha0 rfl rfl (by decide) hs23
        obtain ⟨hp27_0, hp27_1⟩ := hp27
        refine lv_goto (tgt := 123) hx hb dX7_quick_118 (by decide) ?_
        exact j_123 (z8) ⟨by omega, by omega⟩ ad25 had25 (z8) ⟨by omega, by omega⟩ (z27) ⟨by omega, by omega⟩ _ _ hW  _ (lv_sub hl [3, 1] rfl)
  refine tf_enter (As := [.ref a0, .ref a1, .ref a2, .int (Int32.ofInt x3), .int (Int32.ofInt x4)]) hargs (Nat.le_of_ble_eq_true rfl) (fun ls hl => ?_)
  have hl : lv_has ls 10 [(0, .ref a0), (1, .ref a1), (2, .ref a2), (3, .int (Int32.ofInt x3)), (4, .int (Int32.ofInt x4))] := hl
  refine lv_aload_n hx hb dX7_quick_0 rfl (lv_at hl 0 rfl) ?_
  refine lv_aload_n hx hb dX7_quick_1 rfl (lv_at hl 2 rfl) ?_
  refine lv_iload_n hx hb dX7_quick_2 rfl (lv_at hl 3 rfl) ?_
  refine lv_iload hx hb dX7_quick_3 (lv_at hl 4 rfl) ?_
  refine tf_callv (va_runV (As := [.ref a2, .int (Int32.ofInt x3), .int (Int32.ofInt x4)]) (rest := []) ⟨hx, hb, hml, hown, hts⟩ (c_X7_look l g T a0 ha0 a2 ha2 (x3) ⟨by omega, by omega⟩ (x4) ⟨by omega, by omega⟩ hE) (cwV 3 hts gv_X7_55 rfl rfl rfl hd_X7_look ⟨Nat.le_trans (by decide) hR1, Nat.le_trans (by decide) hR2⟩) (tf_preV hk hW ha0 (ci := 7) rfl rfl trivial) rfl rfl hl.1 rfl (lv_room (Nat.le_of_ble_eq_true rfl)) dX7_quick_5 ⟨Nat.zero_le _, Nat.zero_le _⟩) hW (by decide) (fun H29 locs29 hW hF29 hp29 => ?_)
  refine lv_aload_n hx hb dX7_quick_8 rfl (lv_at hl 1 rfl) ?_
  refine tf_calla (va_runV (As := []) (rest := []) ⟨hx, hb, hml, hown, hts⟩ (c_X3_lawInForce l g T a1 ha1) (cwV 0 hts gv_X7_59 rfl rfl rfl hd_X3_lawInForce ⟨Nat.le_trans (by decide) hR1, Nat.le_trans (by decide) hR2⟩) (tf_preV hk hW ha1 (ci := 3) rfl rfl trivial) rfl rfl hl.1 rfl (lv_room (Nat.le_of_ble_eq_true rfl)) dX7_quick_9 ⟨Nat.zero_le _, Nat.zero_le _⟩) hW (by decide) (fun z30 H30 locs30 hW hF30 hp30 => ?_)
  have hv30 : tf_v T 0 (2, 18, 0, 0, 0) z30 := hp30
  rcases tf_v2 hv30 with rfl | ⟨ad31, rfl, had31⟩
  · refine tf_Nastore (lv' := [(5, .null), (0, .ref a0), (1, .ref a1), (2, .ref a2), (3, .int (Int32.ofInt x3)), (4, .int (Int32.ofInt x4))]) hx hb dX7_quick_12 hl (by decide) rfl (fun ls hl => ?_)
    refine tf_aloadN2 hx hb dX7_quick_14 (lv_at hl 0 rfl) ?_
    refine lv_ifnonnullN hx hb dX7_quick_16 ?_
    refine lv_aload_n hx hb dX7_quick_19 rfl (lv_at hl 1 rfl) ?_
    refine tf_calli (va_runV (As := []) (rest := []) ⟨hx, hb, hml, hown, hts⟩ (c_X7_lawlessQuick l g T a0 ha0) (cwV 0 hts gv_X7_65 rfl rfl rfl hd_X7_lawlessQuick ⟨Nat.le_trans (by decide) hR1, Nat.le_trans (by decide) hR2⟩) (tf_preV hk hW ha0 (ci := 7) rfl rfl trivial) rfl rfl hl.1 rfl (lv_room (Nat.le_of_ble_eq_true rfl)) dX7_quick_20 ⟨Nat.zero_le _, Nat.zero_le _⟩) hW (by decide) (fun z32 H32 locs32 hW hF32 hp32 => ?_)
    obtain ⟨hp32_0, hp32_1⟩ := hp32
    exact tf_reti (z := z32) hx hb hr hlocks hQ hW (show (-2147483648) ≤ (z32) ∧ (z32) ≤ 2147483647 by omega) dX7_quick_23
  · refine lv_astore (lv' := [(5, .ref ad31), (0, .ref a0), (1, .ref a1), (2, .ref a2), (3, .int (Int32.ofInt x3)), (4, .int (Int32.ofInt x4))]) hx hb dX7_quick_12 hl (by decide) rfl (fun ls hl => ?_)
    refine lv_aload hx hb dX7_quick_14 (lv_at hl 0 rfl) ?_
    refine lv_ifnonnull (tgt := 24) hx hb dX7_quick_16 (by decide) ?_
    refine lv_aload hx hb dX7_quick_24 (lv_at hl 0 rfl) ?_
    refine lv_aload_n hx hb dX7_quick_26 rfl (lv_at hl 1 rfl) ?_
    refine tf_get hx hb hts inlX7 hown hK (ci := 7) rfl hW ha0 rfl 5 rfl (by decide) (hts _ fl_X7_28) dX7_quick_27 (fun v33 hv33 hsv33 => ?_)
    rcases tf_v2 hv33 with rfl | ⟨ad34, rfl, had34⟩
    · refine lv_acmp_eq (rx := (some ad31)) (ry := none) (tgt := 47) hx hb dX7_quick_30 (by decide) (fun _ => ?_) (fun _ => ?_)
      · exact j_47 ad31 had31 _ _ hW  _ (lv_sub hl [1, 0] rfl)
      · refine lv_aload_n hx hb dX7_quick_33 rfl (lv_at hl 1 rfl) ?_
        refine tf_get hx hb hts inlX7 hown hK (ci := 7) rfl hW ha0 rfl 3 rfl (by decide) (hts _ fl_X7_21) dX7_quick_34 (fun v35 hv35 hsv35 => ?_)
        obtain ⟨ad36, rfl, had36⟩ := tf_v1 hv35
        refine tf_lconst (z := 0) hx hb dX7_quick_37 (by decide) ?_
        refine tf_callv (va_runS (As := [.ref ad36, .long (Int64.ofInt 0)]) (rest := []) ⟨hx, hb, hml, hown, hts⟩ (c_J7_fill_d0a16 l g T ad36 had36 (0) ⟨by omega, by omega⟩) ⟨callB_of 2 hts (gw_ws cm_J7_fill_d0a16) rfl rfl rfl (hts _ (tw26 (i := 8) rfl)) (hts _ (tw33 (i := 20) rfl)) hd_J7_fill_d0a16.2 ⟨Nat.le_trans (by decide) hR1, Nat.le_trans (by decide) hR2⟩, hts _ (tw33 (i := 21) rfl)⟩ (tf_preS hk hW trivial) rfl rfl hl.1 rfl (lv_room (Nat.le_of_ble_eq_true rfl)) dX7_quick_38 ⟨Nat.zero_le _, Nat.zero_le _⟩) hW (by decide) (fun H37 locs37 hW hF37 hp37 => ?_)
        refine lv_aload_n hx hb dX7_quick_41 rfl (lv_at hl 1 rfl) ?_
        refine lv_aload hx hb dX7_quick_42 (lv_at hl 0 rfl) ?_
        refine tf_put hx hb hts inlX7 tyX7 tyX7_ok nmX7 hown hK (ci := 7) rfl hW ha0 rfl rfl 5 rfl (by decide) (by decide) (hts _ fl_X7_28) rfl (tf_u2 had31) rfl rfl dX7_quick_44 (fun H38 locs38 hW hs38 ht38 hq38 => ?_)
        exact j_47 ad31 had31 _ _ hW  _ (lv_sub hl [1, 0] rfl)
    · refine lv_acmp_eq (rx := (some ad31)) (ry := (some ad34)) (tgt := 47) hx hb dX7_quick_30 (by decide) (fun _ => ?_) (fun _ => ?_)
      · exact j_47 ad31 had31 _ _ hW  _ (lv_sub hl [1, 0] rfl)
      · refine lv_aload_n hx hb dX7_quick_33 rfl (lv_at hl 1 rfl) ?_
        refine tf_get hx hb hts inlX7 hown hK (ci := 7) rfl hW ha0 rfl 3 rfl (by decide) (hts _ fl_X7_21) dX7_quick_34 (fun v39 hv39 hsv39 => ?_)
        obtain ⟨ad40, rfl, had40⟩ := tf_v1 hv39
        refine tf_lconst (z := 0) hx hb dX7_quick_37 (by decide) ?_
        refine tf_callv (va_runS (As := [.ref ad40, .long (Int64.ofInt 0)]) (rest := []) ⟨hx, hb, hml, hown, hts⟩ (c_J7_fill_d0a16 l g T ad40 had40 (0) ⟨by omega, by omega⟩) ⟨callB_of 2 hts (gw_ws cm_J7_fill_d0a16) rfl rfl rfl (hts _ (tw26 (i := 8) rfl)) (hts _ (tw33 (i := 20) rfl)) hd_J7_fill_d0a16.2 ⟨Nat.le_trans (by decide) hR1, Nat.le_trans (by decide) hR2⟩, hts _ (tw33 (i := 21) rfl)⟩ (tf_preS hk hW trivial) rfl rfl hl.1 rfl (lv_room (Nat.le_of_ble_eq_true rfl)) dX7_quick_38 ⟨Nat.zero_le _, Nat.zero_le _⟩) hW (by decide) (fun H41 locs41 hW hF41 hp41 => ?_)
        refine lv_aload_n hx hb dX7_quick_41 rfl (lv_at hl 1 rfl) ?_
        refine lv_aload hx hb dX7_quick_42 (lv_at hl 0 rfl) ?_
        refine tf_put hx hb hts inlX7 tyX7 tyX7_ok nmX7 hown hK (ci := 7) rfl hW ha0 rfl rfl 5 rfl (by decide) (by decide) (hts _ fl_X7_28) rfl (tf_u2 had31) rfl rfl dX7_quick_44 (fun H42 locs42 hW hs42 ht42 hq42 => ?_)
        exact j_47 ad31 had31 _ _ hW  _ (lv_sub hl [1, 0] rfl)

abbrev M_X7_hoursAbove : List (Nat × Nat) := [(0, 0), (4, 0), (24, 5)]
set_option maxHeartbeats 4000000 in
set_option maxRecDepth 100000 in
theorem c_X7_hoursAbove (l : Launch) (g : tf_G) (T : tf_T) (a0 : Nat) (ha0 : T a0 = some (24, 0)) (a1 : Nat) (ha1 : T a1 = some (20, 0)) (a2 : Nat) (ha2 : T a2 = some (17, 0)) (x3 : Int) (hp3 : 51 ≤ x3 ∧ x3 ≤ 204) (x4 : Int) (hp4 : 0 ≤ x4 ∧ x4 ≤ 9999) (hE : tf_E g T) : Met l yX7_hoursAbove (cd_X7_hoursAbove :: wsL_law) ({ frames := 5, cells := 0, slots := 0, locals := 131 }) (tf_P g T [.ref a0, .ref a1, .ref a2, .int (Int32.ofInt x3), .int (Int32.ofInt x4)] (fun H => True)) (tf_Qi g M_X7_hoursAbove T (fun z _ _ => (-2147483648) ≤ z ∧ z ≤ 2147483647)) 0 0 (fun q => tf_B g ≤ q) := by
  refine Met.ofW (cc := cX7_hoursAbove) (maxL := 9) (ret := (some .int)) (by decide) rfl ?_
  intro p e s m args below meth c s₁ B hml hv
  obtain ⟨hargs, hk, hW0, hB, hpre⟩ := hv
  have hx := B.exec
  have hb := B.bytes
  have hr := B.returns
  have hts : ∀ w ∈ wsL_law, w.before args s = true := fun w h => atoms_spec (ws := cd_X7_hoursAbove :: wsL_law) B.pre w (List.mem_cons_of_mem _ h)
  have hown : s.vm.findClass RX7 = some m.cls := findClass_of_methodNamed B.named
  have hlocks := B.notSynchronized
  have hK := hk.1
  have hW := tf_n.start (M := M_X7_hoursAbove) hW0 hB
  obtain ⟨Q, hQ⟩ : ∃ q, q = MQ below (tf_Qi g M_X7_hoursAbove T (fun z _ _ => (-2147483648) ≤ z ∧ z ≤ 2147483647)) args s 0 0 (fun q => tf_B g ≤ q) := ⟨_, rfl⟩
  rw [← hQ]
  obtain ⟨R, hR⟩ : ∃ q, q = (headSpec (cd_X7_hoursAbove :: wsL_law) ({ frames := 5, cells := 0, slots := 0, locals := 131 })).room := ⟨_, rfl⟩
  rw [← hR]
  have hR1 : 5 ≤ R.frames := by rw [hR]; exact Nat.le_refl _
  have hR2 : 131 ≤ R.locals := by rw [hR]; exact Nat.le_refl _
  have hR3 : 0 ≤ R.cells := by rw [hR]; exact Nat.le_refl _
  have hR4 : 0 ≤ R.slots := by rw [hR]; exact Nat.le_refl _
  have hin := (name_of_methodNamed B.named B.method).1
  clear hR B
  have j_6 : ∀ (n_6 : Nat), 51 ≤ x3 ∧ x3 ≤ 204 → 0 ≤ x4 ∧ x4 ≤ 9999 → ∀ (x5_6 : Int), (-2147483648) ≤ x5_6 ∧ x5_6 ≤ 2147483647 → ∀ (x6_6 : Int), 0 ≤ x6_6 ∧ x6_6 ≤ 4 → (4 - x6_6 + 1 ≤ (n_6 : Int)) → ∀ (H : Heap) (locs : List Loc), tf_n tf_kt g M_X7_hoursAbove T s.heap T H locs → ∀ (ls : Array Slot), lv_has ls 9 [(0, .ref a0), (1, .ref a1), (2, .ref a2), (3, .int (Int32.ofInt x3)), (4, .int (Int32.ofInt x4)), (5, .int (Int32.ofInt x5_6)), (6, .int (Int32.ofInt x6_6))] → W p l e R s m args below meth c H locs 0 0 Q (F0 m 6 ls []) := by
    intro n_6
    induction n_6 with
    | zero =>
      intro hx3_6 hx4_6 x5_6 hx5_6 x6_6 hx6_6 hm_6
      exfalso; omega
    | succ n_6 ih_6 =>
      intro hx3_6 hx4_6 x5_6 hx5_6 x6_6 hx6_6 hm_6 H locs hW  ls hl
      have j_73 : 51 ≤ x3 ∧ x3 ≤ 204 → 0 ≤ x4 ∧ x4 ≤ 9999 → ∀ (x5_73 : Int), (-2147483648) ≤ x5_73 ∧ x5_73 ≤ 2147483647 → 0 ≤ x6_6 ∧ x6_6 ≤ 3 → ∀ (H : Heap) (locs : List Loc), tf_n tf_kt g M_X7_hoursAbove T s.heap T H locs → ∀ (ls : Array Slot), lv_has ls 9 [(0, .ref a0), (1, .ref a1), (2, .ref a2), (3, .int (Int32.ofInt x3)), (4, .int (Int32.ofInt x4)), (5, .int (Int32.ofInt x5_73)), (6, .int (Int32.ofInt x6_6))] → W p l e R s m args below meth c H locs 0 0 Q (F0 m 73 ls []) := by
        intro hx3_73 hx4_73 x5_73 hx5_73 hx6_73 H locs hW  ls hl
        refine lv_iinc (v := Int32.ofInt ((x6_6 + 1))) (lv' := [(6, .int (Int32.ofInt ((x6_6 + 1)))), (0, .ref a0), (1, .ref a1), (2, .ref a2), (3, .int (Int32.ofInt x3)), (4, .int (Int32.ofInt x4)), (5, .int (Int32.ofInt x5_73))]) hx hb dX7_hoursAbove_73 hl (k := 6) rfl (Int32.ofInt_add _ _).symm (by decide) rfl (fun ls hl => ?_)
        refine lv_goto (tgt := 6) hx hb dX7_hoursAbove_76 (by decide) ?_
        exact ih_6 ⟨by omega, by omega⟩ ⟨by omega, by omega⟩ (x5_73) ⟨by omega, by omega⟩ ((x6_6 + 1)) ⟨by omega, by omega⟩ (by omega) _ _ hW  _ (lv_sub hl [1, 2, 3, 4, 5, 6, 0] rfl)
      have j_42 : ∀ (n_42 : Nat), 51 ≤ x3 ∧ x3 ≤ 204 → 0 ≤ x4 ∧ x4 ≤ 9999 → ∀ (x5_42 : Int), (-2147483648) ≤ x5_42 ∧ x5_42 ≤ 2147483647 → 0 ≤ x6_6 ∧ x6_6 ≤ 3 → ∀ (x8_42 : Int), 1 ≤ x8_42 ∧ x8_42 ≤ 10 → (10 - x8_42 + 1 ≤ (n_42 : Int)) → ∀ (H : Heap) (locs : List Loc), tf_n tf_kt g M_X7_hoursAbove T s.heap T H locs → ∀ (ls : Array Slot), lv_has ls 9 [(0, .ref a0), (1, .ref a1), (2, .ref a2), (3, .int (Int32.ofInt x3)), (4, .int (Int32.ofInt x4)), (5, .int (Int32.ofInt x5_42)), (6, .int (Int32.ofInt x6_6)), (8, .int (Int32.ofInt x8_42))] → W p l e R s m args below meth c H locs 0 0 Q (F0 m 42 ls []) := by
        intro n_42
        induction n_42 with
        | zero =>
          intro hx3_42 hx4_42 x5_42 hx5_42 hx6_42 x8_42 hx8_42 hm_42
          exfalso; omega
        | succ n_42 ih_42 =>
          intro hx3_42 hx4_42 x5_42 hx5_42 hx6_42 x8_42 hx8_42 hm_42 H locs hW  ls hl
          refine lv_iload hx hb dX7_hoursAbove_42 (lv_at hl 7 rfl) ?_
          refine tf_bipush hx hb dX7_hoursAbove_44 (by decide) ?_
          refine tf_icmp_ge (tgt := 73) hx hb ⟨by omega, by omega⟩ ⟨by decide, by decide⟩ dX7_hoursAbove_46 (by decide) (fun h1 => ?_) (fun h1 => ?_)
          · exact j_73 ⟨by omega, by omega⟩ ⟨by omega, by omega⟩ (x5_42) ⟨by omega, by omega⟩ ⟨by omega, by omega⟩ _ _ hW  _ (lv_sub hl [0, 1, 2, 3, 4, 5, 6] rfl)
          · refine lv_iload hx hb dX7_hoursAbove_49 (lv_at hl 5 rfl) ?_
            refine lv_aload_n hx hb dX7_hoursAbove_51 rfl (lv_at hl 1 rfl) ?_
            refine tf_get hx hb hts inlX3 hown hK (ci := 3) rfl hW ha1 rfl 5 rfl (by decide) (hts _ fl_X7_97) dX7_hoursAbove_52 (fun v2 hv2 hsv2 => ?_)
            obtain ⟨ad3, rfl, had3⟩ := tf_v1 hv2
            refine lv_iload hx hb dX7_hoursAbove_55 (lv_at hl 6 rfl) ?_
            refine tf_bipush hx hb dX7_hoursAbove_57 (by decide) ?_
            refine tf_imul hx hb dX7_hoursAbove_59 ?_
            refine lv_iload hx hb dX7_hoursAbove_60 (lv_at hl 7 rfl) ?_
            refine tf_iadd hx hb dX7_hoursAbove_62 ?_
            refine tf_iald (t0 := 0) hx hb hK hW had3 rfl rfl (by omega) (by omega) dX7_hoursAbove_63 (fun v4 hv4 hsv4 => ?_)
            obtain ⟨z5, rfl, hz5⟩ := tf_v0 hv4
            refine tf_iadd_any hx hb dX7_hoursAbove_64 (fun z6 hz6 => ?_)
            refine lv_istore (lv' := [(5, .int (Int32.ofInt z6)), (0, .ref a0), (1, .ref a1), (2, .ref a2), (3, .int (Int32.ofInt x3)), (4, .int (Int32.ofInt x4)), (6, .int (Int32.ofInt x6_6)), (8, .int (Int32.ofInt x8_42))]) hx hb dX7_hoursAbove_65 hl (by decide) rfl (fun ls hl => ?_)
            refine lv_iinc (v := Int32.ofInt ((x8_42 + 1))) (lv' := [(8, .int (Int32.ofInt ((x8_42 + 1)))), (5, .int (Int32.ofInt z6)), (0, .ref a0), (1, .ref a1), (2, .ref a2), (3, .int (Int32.ofInt x3)), (4, .int (Int32.ofInt x4)), (6, .int (Int32.ofInt x6_6))]) hx hb dX7_hoursAbove_67 hl (k := 7) rfl (Int32.ofInt_add _ _).symm (by decide) rfl (fun ls hl => ?_)
            refine lv_goto (tgt := 42) hx hb dX7_hoursAbove_70 (by decide) ?_
            exact ih_42 ⟨by omega, by omega⟩ ⟨by omega, by omega⟩ (z6) ⟨by omega, by omega⟩ ⟨by omega, by omega⟩ ((x8_42 + 1)) ⟨by omega, by omega⟩ (by omega) _ _ hW  _ (lv_sub hl [2, 3, 4, 5, 6, 1, 7, 0] rfl)
      refine lv_iload hx hb dX7_hoursAbove_6 (lv_at hl 6 rfl) ?_
      refine tf_iconst hx hb dX7_hoursAbove_8 ?_
      refine tf_icmp_ge (tgt := 79) hx hb ⟨by omega, by omega⟩ ⟨by decide, by decide⟩ dX7_hoursAbove_9 (by decide) (fun h7 => ?_) (fun h7 => ?_)
      · refine lv_iload hx hb dX7_hoursAbove_79 (lv_at hl 5 rfl) ?_
        exact tf_reti (z := x5_6) hx hb hr hlocks hQ hW (show (-2147483648) ≤ (x5_6) ∧ (x5_6) ≤ 2147483647 by omega) dX7_hoursAbove_81
      · refine lv_aload_n hx hb dX7_hoursAbove_12 rfl (lv_at hl 1 rfl) ?_
        refine tf_get hx hb hts inlX3 hown hK (ci := 3) rfl hW ha1 rfl 6 rfl (by decide) (hts _ fl_X7_87) dX7_hoursAbove_13 (fun v8 hv8 hsv8 => ?_)
        obtain ⟨ad9, rfl, had9⟩ := tf_v1 hv8
        refine lv_iload hx hb dX7_hoursAbove_16 (lv_at hl 6 rfl) ?_
        refine tf_iald (t0 := 0) hx hb hK hW had9 rfl rfl (by omega) (by omega) dX7_hoursAbove_18 (fun v10 hv10 hsv10 => ?_)
        obtain ⟨z11, rfl, hz11⟩ := tf_v0 hv10
        refine tf_if_le (tgt := 73) hx hb ⟨by omega, by omega⟩ dX7_hoursAbove_19 (by decide) (fun h12 => ?_) (fun h12 => ?_)
        · exact j_73 ⟨by omega, by omega⟩ ⟨by omega, by omega⟩ (x5_6) ⟨by omega, by omega⟩ ⟨by omega, by omega⟩ _ _ hW  _ (lv_sub hl [0, 1, 2, 3, 4, 5, 6] rfl)
        · refine lv_aload_n hx hb dX7_hoursAbove_22 rfl (lv_at hl 0 rfl) ?_
          refine lv_aload_n hx hb dX7_hoursAbove_23 rfl (lv_at hl 1 rfl) ?_
          refine lv_aload_n hx hb dX7_hoursAbove_24 rfl (lv_at hl 2 rfl) ?_
          refine lv_iload_n hx hb dX7_hoursAbove_25 rfl (lv_at hl 3 rfl) ?_
          refine lv_iload hx hb dX7_hoursAbove_26 (lv_at hl 6 rfl) ?_
          refine tf_calli (va_runV (As := [.ref a1, .ref a2, .int (Int32.ofInt x3), .int (Int32.ofInt x6_6)]) (rest := []) ⟨hx, hb, hml, hown, hts⟩ (c_X7_quick l g T a0 ha0 a1 ha1 a2 ha2 (x3) ⟨by omega, by omega⟩ (x6_6) ⟨by omega, by omega⟩ hE) (cwV 4 hts gv_X7_90 rfl rfl rfl hd_X7_quick ⟨Nat.le_trans (by decide) hR1, Nat.le_trans (by decide) hR2⟩) (tf_preV hk hW ha0 (ci := 7) rfl rfl trivial) rfl rfl hl.1 rfl (lv_room (Nat.le_of_ble_eq_true rfl)) dX7_hoursAbove_28 ⟨Nat.zero_le _, Nat.zero_le _⟩) hW (by decide) (fun z13 H13 locs13 hW hF13 hp13 => ?_)
          obtain ⟨hp13_0, hp13_1⟩ := hp13
          refine lv_iload hx hb dX7_hoursAbove_31 (lv_at hl 4 rfl) ?_
          refine tf_calli (va_runSN (As := [.int (Int32.ofInt z13), .int (Int32.ofInt x4)]) (rest := []) ⟨hx, hb, hml, hown, hts⟩ (c_X9_leastPaceAbove l g T (z13) ⟨by omega, by omega⟩ (x4) ⟨by omega, by omega⟩) ⟨va_cnB 2 hts (gw_ws cm_X9_leastPaceAbove) rfl rfl rfl (hk.2.1 _ nw_18) (hts _ (tw1 (i := 2) rfl)) hd_X9_leastPaceAbove.2 ⟨Nat.le_trans (by decide) hR1, Nat.le_trans (by decide) hR2⟩, hts _ (tw38 (i := 4) rfl), trivial⟩ (tf_preS hk hW trivial) rfl rfl hl.1 rfl (lv_room (Nat.le_of_ble_eq_true rfl)) dX7_hoursAbove_33 ⟨Nat.zero_le _, Nat.zero_le _⟩) hW (by decide) (fun z14 H14 locs14 hW hF14 hp14 => ?_)
          obtain ⟨hp14_0, hp14_1⟩ := hp14
          refine lv_istore (lv' := [(7, .int (Int32.ofInt z14)), (0, .ref a0), (1, .ref a1), (2, .ref a2), (3, .int (Int32.ofInt x3)), (4, .int (Int32.ofInt x4)), (5, .int (Int32.ofInt x5_6)), (6, .int (Int32.ofInt x6_6))]) hx hb dX7_hoursAbove_36 hl (by decide) rfl (fun ls hl => ?_)
          refine lv_iload hx hb dX7_hoursAbove_38 (lv_at hl 0 rfl) ?_
          refine lv_istore (lv' := [(8, .int (Int32.ofInt z14)), (7, .int (Int32.ofInt z14)), (0, .ref a0), (1, .ref a1), (2, .ref a2), (3, .int (Int32.ofInt x3)), (4, .int (Int32.ofInt x4)), (5, .int (Int32.ofInt x5_6)), (6, .int (Int32.ofInt x6_6))]) hx hb dX7_hoursAbove_40 hl (by decide) rfl (fun ls hl => ?_)
          exact j_42 ((10 - z14 + 1 : Int)).toNat ⟨by omega, by omega⟩ ⟨by omega, by omega⟩ (x5_6) ⟨by omega, by omega⟩ ⟨by omega, by omega⟩ (z14) ⟨by omega, by omega⟩ (by omega) _ _ hW  _ (lv_sub hl [2, 3, 4, 5, 6, 7, 8, 0] rfl)
  refine tf_enter (As := [.ref a0, .ref a1, .ref a2, .int (Int32.ofInt x3), .int (Int32.ofInt x4)]) hargs (Nat.le_of_ble_eq_true rfl) (fun ls hl => ?_)
  have hl : lv_has ls 9 [(0, .ref a0), (1, .ref a1), (2, .ref a2), (3, .int (Int32.ofInt x3)), (4, .int (Int32.ofInt x4))] := hl
  refine tf_iconst hx hb dX7_hoursAbove_0 ?_
  refine lv_istore (lv' := [(5, .int (Int32.ofInt 0)), (0, .ref a0), (1, .ref a1), (2, .ref a2), (3, .int (Int32.ofInt x3)), (4, .int (Int32.ofInt x4))]) hx hb dX7_hoursAbove_1 hl (by decide) rfl (fun ls hl => ?_)
  refine tf_iconst hx hb dX7_hoursAbove_3 ?_
  refine lv_istore (lv' := [(6, .int (Int32.ofInt 0)), (5, .int (Int32.ofInt 0)), (0, .ref a0), (1, .ref a1), (2, .ref a2), (3, .int (Int32.ofInt x3)), (4, .int (Int32.ofInt x4))]) hx hb dX7_hoursAbove_4 hl (by decide) rfl (fun ls hl => ?_)
  exact j_6 ((4 - 0 + 1 : Int)).toNat ⟨by omega, by omega⟩ ⟨by omega, by omega⟩ (0) ⟨by omega, by omega⟩ (0) ⟨by omega, by omega⟩ (by omega) _ _ hW  _ (lv_sub hl [2, 3, 4, 5, 6, 1, 0] rfl)

abbrev M_X7_allOver : List (Nat × Nat) := [(0, 0), (4, 0), (24, 5)]
set_option maxHeartbeats 4000000 in
set_option maxRecDepth 100000 in
theorem c_X7_allOver (l : Launch) (g : tf_G) (T : tf_T) (a0 : Nat) (ha0 : T a0 = some (24, 0)) (a1 : Nat) (ha1 : T a1 = some (20, 0)) (a2 : Nat) (ha2 : T a2 = some (17, 0)) (hE : tf_E g T) : Met l yX7_allOver (cd_X7_allOver :: wsL_law) ({ frames := 6, cells := 0, slots := 0, locals := 159 }) (tf_P g T [.ref a0, .ref a1, .ref a2] (fun H => True)) (tf_Qi g M_X7_allOver T (fun z _ _ => (-2147483648) ≤ z ∧ z ≤ 2147483647)) 0 0 (fun q => tf_B g ≤ q) := by
  refine Met.ofW (cc := cX7_allOver) (maxL := 9) (ret := (some .int)) (by decide) rfl ?_
  intro p e s m args below meth c s₁ B hml hv
  obtain ⟨hargs, hk, hW0, hB, hpre⟩ := hv
  have hx := B.exec
  have hb := B.bytes
  have hr := B.returns
  have hts : ∀ w ∈ wsL_law, w.before args s = true := fun w h => atoms_spec (ws := cd_X7_allOver :: wsL_law) B.pre w (List.mem_cons_of_mem _ h)
  have hown : s.vm.findClass RX7 = some m.cls := findClass_of_methodNamed B.named
  have hlocks := B.notSynchronized
  have hK := hk.1
  have hW := tf_n.start (M := M_X7_allOver) hW0 hB
  obtain ⟨Q, hQ⟩ : ∃ q, q = MQ below (tf_Qi g M_X7_allOver T (fun z _ _ => (-2147483648) ≤ z ∧ z ≤ 2147483647)) args s 0 0 (fun q => tf_B g ≤ q) := ⟨_, rfl⟩
  rw [← hQ]
  obtain ⟨R, hR⟩ : ∃ q, q = (headSpec (cd_X7_allOver :: wsL_law) ({ frames := 6, cells := 0, slots := 0, locals := 159 })).room := ⟨_, rfl⟩
  rw [← hR]
  have hR1 : 6 ≤ R.frames := by rw [hR]; exact Nat.le_refl _
  have hR2 : 159 ≤ R.locals := by rw [hR]; exact Nat.le_refl _
  have hR3 : 0 ≤ R.cells := by rw [hR]; exact Nat.le_refl _
  have hR4 : 0 ≤ R.slots := by rw [hR]; exact Nat.le_refl _
  have hin := (name_of_methodNamed B.named B.method).1
  clear hR B
  have j_5 : ∀ (n_5 : Nat), ∀ (x3_5 : Int), (-2147483648) ≤ x3_5 ∧ x3_5 ≤ 2147483647 → ∀ (x4_5 : Int), 0 ≤ x4_5 ∧ x4_5 ≤ 100 → (100 - x4_5 + 1 ≤ (n_5 : Int)) → ∀ (H : Heap) (locs : List Loc), tf_n tf_kt g M_X7_allOver T s.heap T H locs → ∀ (ls : Array Slot), lv_has ls 9 [(0, .ref a0), (1, .ref a1), (2, .ref a2), (3, .int (Int32.ofInt x3_5)), (4, .int (Int32.ofInt x4_5))] → W p l e R s m args below meth c H locs 0 0 Q (F0 m 5 ls []) := by
    intro n_5
    induction n_5 with
    | zero =>
      intro x3_5 hx3_5 x4_5 hx4_5 hm_5
      exfalso; omega
    | succ n_5 ih_5 =>
      intro x3_5 hx3_5 x4_5 hx4_5 hm_5 H locs hW  ls hl
      have j_74 : (-2147483648) ≤ x3_5 ∧ x3_5 ≤ 2147483647 → 0 ≤ x4_5 ∧ x4_5 ≤ 99 → ∀ (x7_74 : Int), 0 ≤ x7_74 ∧ x7_74 ≤ 2147483647 → ∀ (H : Heap) (locs : List Loc), tf_n tf_kt g M_X7_allOver T s.heap T H locs → ∀ (ls : Array Slot), lv_has ls 9 [(0, .ref a0), (1, .ref a1), (2, .ref a2), (3, .int (Int32.ofInt x3_5)), (4, .int (Int32.ofInt x4_5)), (7, .int (Int32.ofInt x7_74))] → W p l e R s m args below meth c H locs 0 0 Q (F0 m 74 ls []) := by
        intro hx3_74 hx4_74 x7_74 hx7_74 H locs hW  ls hl
        refine lv_aload_n hx hb dX7_allOver_74 rfl (lv_at hl 0 rfl) ?_
        refine tf_get hx hb hts inlX7 hown hK (ci := 7) rfl hW ha0 rfl 1 rfl (by decide) (hts _ fl_X7_15) dX7_allOver_75 (fun v1 hv1 hsv1 => ?_)
        obtain ⟨ad2, rfl, had2⟩ := tf_v1 hv1
        refine lv_iload hx hb dX7_allOver_78 (lv_at hl 4 rfl) ?_
        refine lv_iload hx hb dX7_allOver_80 (lv_at hl 5 rfl) ?_
        refine tf_iast (t0 := 0) hx hb hK hW had2 rfl rfl (by omega) (by omega) (by decide) (tf_u0 (by omega) (by omega)) dX7_allOver_82 (fun H3 locs3 hW hs3 ht3 hq3 => ?_)
        refine lv_iload_n hx hb dX7_allOver_83 rfl (lv_at hl 3 rfl) ?_
        refine lv_iload hx hb dX7_allOver_84 (lv_at hl 5 rfl) ?_
        refine tf_iadd_any hx hb dX7_allOver_86 (fun z4 hz4 => ?_)
        refine lv_istore_n (lv' := [(3, .int (Int32.ofInt z4)), (0, .ref a0), (1, .ref a1), (2, .ref a2), (4, .int (Int32.ofInt x4_5)), (7, .int (Int32.ofInt x7_74))]) hx hb dX7_allOver_87 rfl hl (by decide) rfl (fun ls hl => ?_)
        refine lv_iinc (v := Int32.ofInt ((x4_5 + 1))) (lv' := [(4, .int (Int32.ofInt ((x4_5 + 1)))), (3, .int (Int32.ofInt z4)), (0, .ref a0), (1, .ref a1), (2, .ref a2), (7, .int (Int32.ofInt x7_74))]) hx hb dX7_allOver_88 hl (k := 4) rfl (Int32.ofInt_add _ _).symm (by decide) rfl (fun ls hl => ?_)
        refine lv_goto (tgt := 5) hx hb dX7_allOver_91 (by decide) ?_
        exact ih_5 (z4) ⟨by omega, by omega⟩ ((x4_5 + 1)) ⟨by omega, by omega⟩ (by omega) _ _ hW  _ (lv_sub hl [2, 3, 4, 1, 0] rfl)
      refine lv_iload hx hb dX7_allOver_5 (lv_at hl 4 rfl) ?_
      refine tf_bipush hx hb dX7_allOver_7 (by decide) ?_
      refine tf_icmp_ge (tgt := 94) hx hb ⟨by omega, by omega⟩ ⟨by decide, by decide⟩ dX7_allOver_9 (by decide) (fun h5 => ?_) (fun h5 => ?_)
      · refine lv_iload_n hx hb dX7_allOver_94 rfl (lv_at hl 3 rfl) ?_
        exact tf_reti (z := x3_5) hx hb hr hlocks hQ hW (show (-2147483648) ≤ (x3_5) ∧ (x3_5) ≤ 2147483647 by omega) dX7_allOver_95
      · refine lv_iload hx hb dX7_allOver_12 (lv_at hl 4 rfl) ?_
        refine tf_calli (va_runSN (As := [.int (Int32.ofInt x4_5)]) (rest := []) ⟨hx, hb, hml, hown, hts⟩ (c_X9_spotOf l g T (x4_5) ⟨by omega, by omega⟩) ⟨va_cnB 1 hts (gw_ws cm_X9_spotOf) rfl rfl rfl (hk.2.1 _ nw_19) (hts _ (tw1 (i := 2) rfl)) hd_X9_spotOf.2 ⟨Nat.le_trans (by decide) hR1, Nat.le_trans (by decide) hR2⟩, hts _ (tw9 (i := 2) rfl), trivial⟩ (tf_preS hk hW trivial) rfl rfl hl.1 rfl (lv_room (Nat.le_of_ble_eq_true rfl)) dX7_allOver_14 ⟨Nat.zero_le _, Nat.zero_le _⟩) hW (by decide) (fun z6 H6 locs6 hW hF6 hp6 => ?_)
        obtain ⟨hp6_0, hp6_1⟩ := hp6
        refine lv_istore (lv' := [(5, .int (Int32.ofInt z6)), (0, .ref a0), (1, .ref a1), (2, .ref a2), (3, .int (Int32.ofInt x3_5)), (4, .int (Int32.ofInt x4_5))]) hx hb dX7_allOver_17 hl (by decide) rfl (fun ls hl => ?_)
        refine lv_aload_n hx hb dX7_allOver_19 rfl (lv_at hl 3 rfl) ?_
        refine tf_get hx hb hts inlX0 hown hK (ci := 0) rfl hW ha2 rfl 3 rfl (by decide) (hts _ fl_X7_104) dX7_allOver_20 (fun v7 hv7 hsv7 => ?_)
        obtain ⟨ad8, rfl, had8⟩ := tf_v1 hv7
        refine lv_iload hx hb dX7_allOver_23 (lv_at hl 0 rfl) ?_
        refine tf_iald (t0 := 0) hx hb hK hW had8 rfl rfl (by omega) (by omega) dX7_allOver_25 (fun v9 hv9 hsv9 => ?_)
        obtain ⟨z10, rfl, hz10⟩ := tf_v0 hv9
        refine lv_istore (lv' := [(6, .int (Int32.ofInt z10)), (5, .int (Int32.ofInt z6)), (0, .ref a0), (1, .ref a1), (2, .ref a2), (3, .int (Int32.ofInt x3_5)), (4, .int (Int32.ofInt x4_5))]) hx hb dX7_allOver_26 hl (by decide) rfl (fun ls hl => ?_)
        refine tf_iconst hx hb dX7_allOver_28 ?_
        refine lv_istore (lv' := [(7, .int (Int32.ofInt 0)), (6, .int (Int32.ofInt z10)), (5, .int (Int32.ofInt z6)), (0, .ref a0), (1, .ref a1), (2, .ref a2), (3, .int (Int32.ofInt x3_5)), (4, .int (Int32.ofInt x4_5))]) hx hb dX7_allOver_29 hl (by decide) rfl (fun ls hl => ?_)
        refine lv_iload hx hb dX7_allOver_31 (lv_at hl 1 rfl) ?_
        refine tf_iconst hx hb dX7_allOver_33 ?_
        refine tf_iconst hx hb dX7_allOver_34 ?_
        refine tf_calli (va_runSN (As := [.int (Int32.ofInt z10), .int (Int32.ofInt 1), .int (Int32.ofInt 3)]) (rest := []) ⟨hx, hb, hml, hown, hts⟩ (c_X9_isWithin l g T (z10) ⟨by omega, by omega⟩ (1) ⟨by omega, by omega⟩ (3) ⟨by omega, by omega⟩) ⟨va_cnB 3 hts (gw_ws cm_X9_isWithin) rfl rfl rfl (hk.2.1 _ nw_20) (hts _ (tw1 (i := 2) rfl)) hd_X9_isWithin.2 ⟨Nat.le_trans (by decide) hR1, Nat.le_trans (by decide) hR2⟩, hts _ (tw8 (i := 17) rfl), trivial⟩ (tf_preS hk hW trivial) rfl rfl hl.1 rfl (lv_room (Nat.le_of_ble_eq_true rfl)) dX7_allOver_35 ⟨Nat.zero_le _, Nat.zero_le _⟩) hW (by decide) (fun z11 H11 locs11 hW hF11 hp11 => ?_)
        rcases hp11 with ⟨rfl, h12, h13⟩ | ⟨rfl, h14⟩
        · refine tf_if_eq (tgt := 74) hx hb ⟨by decide, by decide⟩ dX7_allOver_38 (by decide) (fun h15 => ?_) (fun h15 => ?_)
          · exfalso; omega
          · refine lv_aload_n hx hb dX7_allOver_41 rfl (lv_at hl 3 rfl) ?_
            refine lv_aload_n hx hb dX7_allOver_42 rfl (lv_at hl 4 rfl) ?_
            refine lv_aload_n hx hb dX7_allOver_43 rfl (lv_at hl 5 rfl) ?_
            refine lv_iload hx hb dX7_allOver_44 (lv_at hl 2 rfl) ?_
            refine lv_aload_n hx hb dX7_allOver_46 rfl (lv_at hl 4 rfl) ?_
            refine tf_get hx hb hts inlX3 hown hK (ci := 3) rfl hW ha1 rfl 3 rfl (by decide) (hts _ fl_X7_111) dX7_allOver_47 (fun v16 hv16 hsv16 => ?_)
            obtain ⟨ad17, rfl, had17⟩ := tf_v1 hv16
            refine lv_iload hx hb dX7_allOver_50 (lv_at hl 1 rfl) ?_
            refine tf_iald (t0 := 0) hx hb hK hW had17 rfl rfl (by omega) (by omega) dX7_allOver_52 (fun v18 hv18 hsv18 => ?_)
            obtain ⟨z19, rfl, hz19⟩ := tf_v0 hv18
            refine tf_calli (va_runV (As := [.ref a1, .ref a2, .int (Int32.ofInt z6), .int (Int32.ofInt z19)]) (rest := []) ⟨hx, hb, hml, hown, hts⟩ (c_X7_hoursAbove l g T a0 ha0 a1 ha1 a2 ha2 (z6) ⟨by omega, by omega⟩ (z19) ⟨by omega, by omega⟩ hE) (cwV 4 hts gv_X7_114 rfl rfl rfl hd_X7_hoursAbove ⟨Nat.le_trans (by decide) hR1, Nat.le_trans (by decide) hR2⟩) (tf_preV hk hW ha0 (ci := 7) rfl rfl trivial) rfl rfl hl.1 rfl (lv_room (Nat.le_of_ble_eq_true rfl)) dX7_allOver_53 ⟨Nat.zero_le _, Nat.zero_le _⟩) hW (by decide) (fun z20 H20 locs20 hW hF20 hp20 => ?_)
            obtain ⟨hp20_0, hp20_1⟩ := hp20
            refine lv_istore (lv' := [(8, .int (Int32.ofInt z20)), (7, .int (Int32.ofInt 0)), (6, .int (Int32.ofInt z10)), (5, .int (Int32.ofInt z6)), (0, .ref a0), (1, .ref a1), (2, .ref a2), (3, .int (Int32.ofInt x3_5)), (4, .int (Int32.ofInt x4_5))]) hx hb dX7_allOver_56 hl (by decide) rfl (fun ls hl => ?_)
            refine tf_iconst hx hb dX7_allOver_58 ?_
            refine lv_iload hx hb dX7_allOver_59 (lv_at hl 0 rfl) ?_
            refine lv_aload_n hx hb dX7_allOver_61 rfl (lv_at hl 5 rfl) ?_
            refine tf_get hx hb hts inlX3 hown hK (ci := 3) rfl hW ha1 rfl 4 rfl (by decide) (hts _ fl_X7_117) dX7_allOver_62 (fun v21 hv21 hsv21 => ?_)
            obtain ⟨ad22, rfl, had22⟩ := tf_v1 hv21
            refine lv_iload hx hb dX7_allOver_65 (lv_at hl 2 rfl) ?_
            refine tf_iald (t0 := 0) hx hb hK hW had22 rfl rfl (by omega) (by omega) dX7_allOver_67 (fun v23 hv23 hsv23 => ?_)
            obtain ⟨z24, rfl, hz24⟩ := tf_v0 hv23
            refine tf_isub_any hx hb dX7_allOver_68 (fun z25 hz25 => ?_)
            refine tf_mmax hx hb hml hl hown (hts _ (tw33 (i := 9) rfl)) (hts _ (tw10 (i := 1) rfl)) (hts _ (tw10 (i := 2) rfl)) (hts _ (tw10 (i := 3) rfl)) ⟨by decide, by decide⟩ ⟨by omega, by omega⟩ (Nat.le_of_ble_eq_true rfl) (Nat.le_trans (by decide) hR1) (Nat.le_trans (by decide) hR2) (Nat.zero_le _) (Nat.zero_le _) dX7_allOver_69 (fun z26 hz26 => ?_)
            refine lv_istore (lv' := [(7, .int (Int32.ofInt z26)), (8, .int (Int32.ofInt z20)), (6, .int (Int32.ofInt z10)), (5, .int (Int32.ofInt z6)), (0, .ref a0), (1, .ref a1), (2, .ref a2), (3, .int (Int32.ofInt x3_5)), (4, .int (Int32.ofInt x4_5))]) hx hb dX7_allOver_72 hl (by decide) rfl (fun ls hl => ?_)
            exact j_74 ⟨by omega, by omega⟩ ⟨by omega, by omega⟩ (z26) ⟨by omega, by omega⟩ _ _ hW  _ (lv_sub hl [4, 5, 6, 7, 8, 0] rfl)
        · refine tf_if_eq (tgt := 74) hx hb ⟨by decide, by decide⟩ dX7_allOver_38 (by decide) (fun h27 => ?_) (fun h27 => ?_)
          · exact j_74 ⟨by omega, by omega⟩ ⟨by omega, by omega⟩ (0) ⟨by omega, by omega⟩ _ _ hW  _ (lv_sub hl [3, 4, 5, 6, 7, 0] rfl)
          · exfalso; omega
  refine tf_enter (As := [.ref a0, .ref a1, .ref a2]) hargs (Nat.le_of_ble_eq_true rfl) (fun ls hl => ?_)
  have hl : lv_has ls 9 [(0, .ref a0), (1, .ref a1), (2, .ref a2)] := hl
  refine tf_iconst hx hb dX7_allOver_0 ?_
  refine lv_istore_n (lv' := [(3, .int (Int32.ofInt 0)), (0, .ref a0), (1, .ref a1), (2, .ref a2)]) hx hb dX7_allOver_1 rfl hl (by decide) rfl (fun ls hl => ?_)
  refine tf_iconst hx hb dX7_allOver_2 ?_
  refine lv_istore (lv' := [(4, .int (Int32.ofInt 0)), (3, .int (Int32.ofInt 0)), (0, .ref a0), (1, .ref a1), (2, .ref a2)]) hx hb dX7_allOver_3 hl (by decide) rfl (fun ls hl => ?_)
  exact j_5 ((100 - 0 + 1 : Int)).toNat (0) ⟨by omega, by omega⟩ (0) ⟨by omega, by omega⟩ (by omega) _ _ hW  _ (lv_sub hl [2, 3, 4, 1, 0] rfl)

abbrev M_X7_leastPaceOverLines : List (Nat × Nat) := [(0, 0), (4, 0), (24, 5)]
set_option maxHeartbeats 4000000 in
set_option maxRecDepth 100000 in
theorem c_X7_leastPaceOverLines (l : Launch) (g : tf_G) (T : tf_T) (a0 : Nat) (ha0 : T a0 = some (24, 0)) (a1 : Nat) (ha1 : T a1 = some (20, 0)) (a2 : Nat) (ha2 : T a2 = some (17, 0)) (x3 : Int) (hp3 : 0 ≤ x3 ∧ x3 ≤ 3) (hE : tf_E g T) : Met l yX7_leastPaceOverLines (cd_X7_leastPaceOverLines :: wsL_law) ({ frames := 5, cells := 0, slots := 0, locals := 131 }) (tf_P g T [.ref a0, .ref a1, .ref a2, .int (Int32.ofInt x3)] (fun H => True)) (tf_Qi g M_X7_leastPaceOverLines T (fun z _ _ => (-2147483648) ≤ z ∧ z ≤ 2147483647)) 0 0 (fun q => tf_B g ≤ q) := by
  refine Met.ofW (cc := cX7_leastPaceOverLines) (maxL := 9) (ret := (some .int)) (by decide) rfl ?_
  intro p e s m args below meth c s₁ B hml hv
  obtain ⟨hargs, hk, hW0, hB, hpre⟩ := hv
  have hx := B.exec
  have hb := B.bytes
  have hr := B.returns
  have hts : ∀ w ∈ wsL_law, w.before args s = true := fun w h => atoms_spec (ws := cd_X7_leastPaceOverLines :: wsL_law) B.pre w (List.mem_cons_of_mem _ h)
  have hown : s.vm.findClass RX7 = some m.cls := findClass_of_methodNamed B.named
  have hlocks := B.notSynchronized
  have hK := hk.1
  have hW := tf_n.start (M := M_X7_leastPaceOverLines) hW0 hB
  obtain ⟨Q, hQ⟩ : ∃ q, q = MQ below (tf_Qi g M_X7_leastPaceOverLines T (fun z _ _ => (-2147483648) ≤ z ∧ z ≤ 2147483647)) args s 0 0 (fun q => tf_B g ≤ q) := ⟨_, rfl⟩
  rw [← hQ]
  obtain ⟨R, hR⟩ : ∃ q, q = (headSpec (cd_X7_leastPaceOverLines :: wsL_law) ({ frames := 5, cells := 0, slots := 0, locals := 131 })).room := ⟨_, rfl⟩
  rw [← hR]
  have hR1 : 5 ≤ R.frames := by rw [hR]; exact Nat.le_refl _
  have hR2 : 131 ≤ R.locals := by rw [hR]; exact Nat.le_refl _
  have hR3 : 0 ≤ R.cells := by rw [hR]; exact Nat.le_refl _
  have hR4 : 0 ≤ R.slots := by rw [hR]; exact Nat.le_refl _
  have hin := (name_of_methodNamed B.named B.method).1
  clear hR B
  have j_7 : ∀ (n_7 : Nat), 0 ≤ x3 ∧ x3 ≤ 3 → ∀ (x4_7 : Int), 1 ≤ x4_7 ∧ x4_7 ≤ 10 → ∀ (x5_7 : Int), 0 ≤ x5_7 ∧ x5_7 ≤ 100 → (100 - x5_7 + 1 ≤ (n_7 : Int)) → ∀ (H : Heap) (locs : List Loc), tf_n tf_kt g M_X7_leastPaceOverLines T s.heap T H locs → ∀ (ls : Array Slot), lv_has ls 9 [(0, .ref a0), (1, .ref a1), (2, .ref a2), (3, .int (Int32.ofInt x3)), (4, .int (Int32.ofInt x4_7)), (5, .int (Int32.ofInt x5_7))] → W p l e R s m args below meth c H locs 0 0 Q (F0 m 7 ls []) := by
    intro n_7
    induction n_7 with
    | zero =>
      intro hx3_7 x4_7 hx4_7 x5_7 hx5_7 hm_7
      exfalso; omega
    | succ n_7 ih_7 =>
      intro hx3_7 x4_7 hx4_7 x5_7 hx5_7 hm_7 H locs hW  ls hl
      have j_70 : 0 ≤ x3 ∧ x3 ≤ 3 → ∀ (x4_70 : Int), 1 ≤ x4_70 ∧ x4_70 ≤ 10 → 0 ≤ x5_7 ∧ x5_7 ≤ 99 → ∀ (H : Heap) (locs : List Loc), tf_n tf_kt g M_X7_leastPaceOverLines T s.heap T H locs → ∀ (ls : Array Slot), lv_has ls 9 [(0, .ref a0), (1, .ref a1), (2, .ref a2), (3, .int (Int32.ofInt x3)), (4, .int (Int32.ofInt x4_70)), (5, .int (Int32.ofInt x5_7))] → W p l e R s m args below meth c H locs 0 0 Q (F0 m 70 ls []) := by
        intro hx3_70 x4_70 hx4_70 hx5_70 H locs hW  ls hl
        refine lv_iinc (v := Int32.ofInt ((x5_7 + 1))) (lv' := [(5, .int (Int32.ofInt ((x5_7 + 1)))), (0, .ref a0), (1, .ref a1), (2, .ref a2), (3, .int (Int32.ofInt x3)), (4, .int (Int32.ofInt x4_70))]) hx hb dX7_leastPaceOverLines_70 hl (k := 5) rfl (Int32.ofInt_add _ _).symm (by decide) rfl (fun ls hl => ?_)
        refine lv_goto (tgt := 7) hx hb dX7_leastPaceOverLines_73 (by decide) ?_
        exact ih_7 ⟨by omega, by omega⟩ (x4_70) ⟨by omega, by omega⟩ ((x5_7 + 1)) ⟨by omega, by omega⟩ (by omega) _ _ hW  _ (lv_sub hl [1, 2, 3, 4, 5, 0] rfl)
      refine lv_iload hx hb dX7_leastPaceOverLines_7 (lv_at hl 5 rfl) ?_
      refine tf_bipush hx hb dX7_leastPaceOverLines_9 (by decide) ?_
      refine tf_icmp_ge (tgt := 76) hx hb ⟨by omega, by omega⟩ ⟨by decide, by decide⟩ dX7_leastPaceOverLines_11 (by decide) (fun h1 => ?_) (fun h1 => ?_)
      · refine lv_iload hx hb dX7_leastPaceOverLines_76 (lv_at hl 4 rfl) ?_
        exact tf_reti (z := x4_7) hx hb hr hlocks hQ hW (show (-2147483648) ≤ (x4_7) ∧ (x4_7) ≤ 2147483647 by omega) dX7_leastPaceOverLines_78
      · refine lv_iload hx hb dX7_leastPaceOverLines_14 (lv_at hl 5 rfl) ?_
        refine tf_calli (va_runSN (As := [.int (Int32.ofInt x5_7)]) (rest := []) ⟨hx, hb, hml, hown, hts⟩ (c_X9_spotOf l g T (x5_7) ⟨by omega, by omega⟩) ⟨va_cnB 1 hts (gw_ws cm_X9_spotOf) rfl rfl rfl (hk.2.1 _ nw_19) (hts _ (tw1 (i := 2) rfl)) hd_X9_spotOf.2 ⟨Nat.le_trans (by decide) hR1, Nat.le_trans (by decide) hR2⟩, hts _ (tw9 (i := 2) rfl), trivial⟩ (tf_preS hk hW trivial) rfl rfl hl.1 rfl (lv_room (Nat.le_of_ble_eq_true rfl)) dX7_leastPaceOverLines_16 ⟨Nat.zero_le _, Nat.zero_le _⟩) hW (by decide) (fun z2 H2 locs2 hW hF2 hp2 => ?_)
        obtain ⟨hp2_0, hp2_1⟩ := hp2
        refine lv_istore (lv' := [(6, .int (Int32.ofInt z2)), (0, .ref a0), (1, .ref a1), (2, .ref a2), (3, .int (Int32.ofInt x3)), (4, .int (Int32.ofInt x4_7)), (5, .int (Int32.ofInt x5_7))]) hx hb dX7_leastPaceOverLines_19 hl (by decide) rfl (fun ls hl => ?_)
        refine lv_aload_n hx hb dX7_leastPaceOverLines_21 rfl (lv_at hl 3 rfl) ?_
        refine tf_get hx hb hts inlX0 hown hK (ci := 0) rfl hW ha2 rfl 3 rfl (by decide) (hts _ fl_X7_104) dX7_leastPaceOverLines_22 (fun v3 hv3 hsv3 => ?_)
        obtain ⟨ad4, rfl, had4⟩ := tf_v1 hv3
        refine lv_iload hx hb dX7_leastPaceOverLines_25 (lv_at hl 0 rfl) ?_
        refine tf_iald (t0 := 0) hx hb hK hW had4 rfl rfl (by omega) (by omega) dX7_leastPaceOverLines_27 (fun v5 hv5 hsv5 => ?_)
        obtain ⟨z6, rfl, hz6⟩ := tf_v0 hv5
        refine lv_istore (lv' := [(7, .int (Int32.ofInt z6)), (6, .int (Int32.ofInt z2)), (0, .ref a0), (1, .ref a1), (2, .ref a2), (3, .int (Int32.ofInt x3)), (4, .int (Int32.ofInt x4_7)), (5, .int (Int32.ofInt x5_7))]) hx hb dX7_leastPaceOverLines_28 hl (by decide) rfl (fun ls hl => ?_)
        refine lv_iload hx hb dX7_leastPaceOverLines_30 (lv_at hl 0 rfl) ?_
        refine tf_iconst hx hb dX7_leastPaceOverLines_32 ?_
        refine tf_iconst hx hb dX7_leastPaceOverLines_33 ?_
        refine tf_calli (va_runSN (As := [.int (Int32.ofInt z6), .int (Int32.ofInt 1), .int (Int32.ofInt 3)]) (rest := []) ⟨hx, hb, hml, hown, hts⟩ (c_X9_isWithin l g T (z6) ⟨by omega, by omega⟩ (1) ⟨by omega, by omega⟩ (3) ⟨by omega, by omega⟩) ⟨va_cnB 3 hts (gw_ws cm_X9_isWithin) rfl rfl rfl (hk.2.1 _ nw_20) (hts _ (tw1 (i := 2) rfl)) hd_X9_isWithin.2 ⟨Nat.le_trans (by decide) hR1, Nat.le_trans (by decide) hR2⟩, hts _ (tw8 (i := 17) rfl), trivial⟩ (tf_preS hk hW trivial) rfl rfl hl.1 rfl (lv_room (Nat.le_of_ble_eq_true rfl)) dX7_leastPaceOverLines_34 ⟨Nat.zero_le _, Nat.zero_le _⟩) hW (by decide) (fun z7 H7 locs7 hW hF7 hp7 => ?_)
        rcases hp7 with ⟨rfl, h8, h9⟩ | ⟨rfl, h10⟩
        · refine tf_if_eq (tgt := 70) hx hb ⟨by decide, by decide⟩ dX7_leastPaceOverLines_37 (by decide) (fun h11 => ?_) (fun h11 => ?_)
          · exfalso; omega
          · refine lv_aload_n hx hb dX7_leastPaceOverLines_40 rfl (lv_at hl 2 rfl) ?_
            refine lv_aload_n hx hb dX7_leastPaceOverLines_41 rfl (lv_at hl 3 rfl) ?_
            refine lv_aload_n hx hb dX7_leastPaceOverLines_42 rfl (lv_at hl 4 rfl) ?_
            refine lv_iload hx hb dX7_leastPaceOverLines_43 (lv_at hl 1 rfl) ?_
            refine lv_iload_n hx hb dX7_leastPaceOverLines_45 rfl (lv_at hl 5 rfl) ?_
            refine tf_calli (va_runV (As := [.ref a1, .ref a2, .int (Int32.ofInt z2), .int (Int32.ofInt x3)]) (rest := []) ⟨hx, hb, hml, hown, hts⟩ (c_X7_quick l g T a0 ha0 a1 ha1 a2 ha2 (z2) ⟨by omega, by omega⟩ (x3) ⟨by omega, by omega⟩ hE) (cwV 4 hts gv_X7_90 rfl rfl rfl hd_X7_quick ⟨Nat.le_trans (by decide) hR1, Nat.le_trans (by decide) hR2⟩) (tf_preV hk hW ha0 (ci := 7) rfl rfl trivial) rfl rfl hl.1 rfl (lv_room (Nat.le_of_ble_eq_true rfl)) dX7_leastPaceOverLines_46 ⟨Nat.zero_le _, Nat.zero_le _⟩) hW (by decide) (fun z12 H12 locs12 hW hF12 hp12 => ?_)
            obtain ⟨hp12_0, hp12_1⟩ := hp12
            refine lv_istore (lv' := [(8, .int (Int32.ofInt z12)), (7, .int (Int32.ofInt z6)), (6, .int (Int32.ofInt z2)), (0, .ref a0), (1, .ref a1), (2, .ref a2), (3, .int (Int32.ofInt x3)), (4, .int (Int32.ofInt x4_7)), (5, .int (Int32.ofInt x5_7))]) hx hb dX7_leastPaceOverLines_49 hl (by decide) rfl (fun ls hl => ?_)
            refine lv_iload hx hb dX7_leastPaceOverLines_51 (lv_at hl 7 rfl) ?_
            refine lv_iload hx hb dX7_leastPaceOverLines_53 (lv_at hl 0 rfl) ?_
            refine lv_aload_n hx hb dX7_leastPaceOverLines_55 rfl (lv_at hl 4 rfl) ?_
            refine tf_get hx hb hts inlX3 hown hK (ci := 3) rfl hW ha1 rfl 3 rfl (by decide) (hts _ fl_X7_111) dX7_leastPaceOverLines_56 (fun v13 hv13 hsv13 => ?_)
            obtain ⟨ad14, rfl, had14⟩ := tf_v1 hv13
            refine lv_iload hx hb dX7_leastPaceOverLines_59 (lv_at hl 1 rfl) ?_
            refine tf_iald (t0 := 0) hx hb hK hW had14 rfl rfl (by omega) (by omega) dX7_leastPaceOverLines_61 (fun v15 hv15 hsv15 => ?_)
            obtain ⟨z16, rfl, hz16⟩ := tf_v0 hv15
            refine tf_calli (va_runSN (As := [.int (Int32.ofInt z12), .int (Int32.ofInt z16)]) (rest := [.int (Int32.ofInt x4_7)]) ⟨hx, hb, hml, hown, hts⟩ (c_X9_leastPaceAbove l g T (z12) ⟨by omega, by omega⟩ (z16) ⟨by omega, by omega⟩) ⟨va_cnB 2 hts (gw_ws cm_X9_leastPaceAbove) rfl rfl rfl (hk.2.1 _ nw_18) (hts _ (tw1 (i := 2) rfl)) hd_X9_leastPaceAbove.2 ⟨Nat.le_trans (by decide) hR1, Nat.le_trans (by decide) hR2⟩, hts _ (tw38 (i := 4) rfl), trivial⟩ (tf_preS hk hW trivial) rfl rfl hl.1 rfl (lv_room (Nat.le_of_ble_eq_true rfl)) dX7_leastPaceOverLines_62 ⟨Nat.zero_le _, Nat.zero_le _⟩) hW (by decide) (fun z17 H17 locs17 hW hF17 hp17 => ?_)
            obtain ⟨hp17_0, hp17_1⟩ := hp17
            refine tf_mmin hx hb hml hl hown (hts _ (tw55 (i := 4) rfl)) (hts _ (tw18 (i := 17) rfl)) (hts _ (tw10 (i := 2) rfl)) (hts _ (tw18 (i := 18) rfl)) ⟨by omega, by omega⟩ ⟨by omega, by omega⟩ (Nat.le_of_ble_eq_true rfl) (Nat.le_trans (by decide) hR1) (Nat.le_trans (by decide) hR2) (Nat.zero_le _) (Nat.zero_le _) dX7_leastPaceOverLines_65 (fun z18 hz18 => ?_)
            refine lv_istore (lv' := [(4, .int (Int32.ofInt z18)), (8, .int (Int32.ofInt z12)), (7, .int (Int32.ofInt z6)), (6, .int (Int32.ofInt z2)), (0, .ref a0), (1, .ref a1), (2, .ref a2), (3, .int (Int32.ofInt x3)), (5, .int (Int32.ofInt x5_7))]) hx hb dX7_leastPaceOverLines_68 hl (by decide) rfl (fun ls hl => ?_)
            exact j_70 ⟨by omega, by omega⟩ (z18) ⟨by omega, by omega⟩ ⟨by omega, by omega⟩ _ _ hW  _ (lv_sub hl [4, 5, 6, 7, 0, 8] rfl)
        · refine tf_if_eq (tgt := 70) hx hb ⟨by decide, by decide⟩ dX7_leastPaceOverLines_37 (by decide) (fun h19 => ?_) (fun h19 => ?_)
          · exact j_70 ⟨by omega, by omega⟩ (x4_7) ⟨by omega, by omega⟩ ⟨by omega, by omega⟩ _ _ hW  _ (lv_sub hl [2, 3, 4, 5, 6, 7] rfl)
          · exfalso; omega
  refine tf_enter (As := [.ref a0, .ref a1, .ref a2, .int (Int32.ofInt x3)]) hargs (Nat.le_of_ble_eq_true rfl) (fun ls hl => ?_)
  have hl : lv_has ls 9 [(0, .ref a0), (1, .ref a1), (2, .ref a2), (3, .int (Int32.ofInt x3))] := hl
  refine tf_bipush hx hb dX7_leastPaceOverLines_0 (by decide) ?_
  refine lv_istore (lv' := [(4, .int (Int32.ofInt 10)), (0, .ref a0), (1, .ref a1), (2, .ref a2), (3, .int (Int32.ofInt x3))]) hx hb dX7_leastPaceOverLines_2 hl (by decide) rfl (fun ls hl => ?_)
  refine tf_iconst hx hb dX7_leastPaceOverLines_4 ?_
  refine lv_istore (lv' := [(5, .int (Int32.ofInt 0)), (4, .int (Int32.ofInt 10)), (0, .ref a0), (1, .ref a1), (2, .ref a2), (3, .int (Int32.ofInt x3))]) hx hb dX7_leastPaceOverLines_5 hl (by decide) rfl (fun ls hl => ?_)
  exact j_7 ((100 - 0 + 1 : Int)).toNat ⟨by omega, by omega⟩ (10) ⟨by omega, by omega⟩ (0) ⟨by omega, by omega⟩ (by omega) _ _ hW  _ (lv_sub hl [2, 3, 4, 5, 1, 0] rfl)

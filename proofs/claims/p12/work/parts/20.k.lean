abbrev M_X2_readPart : List (Nat × Nat) := [(0, 0), (19, 1), (19, 4), (19, 5), (19, 6), (19, 7)]
def K_X2_readPart (l : Launch) (g : tf_G) (T : tf_T) (n : Nat) : Prop := ∀ (a0 : Nat) (ha0 : T a0 = some (19, 0)) (x1 : Int) (hp1 : 0 ≤ x1 ∧ x1 ≤ 8) (t0 : Nat) (ht0 : T t0 = some (21, 0)) (hfu : 8 - x1 ≤ (n : Int)), Met l yX2_readPart (cd_X2_readPart :: wsL_law) ({ frames := 6 * n + 10, cells := 0, slots := 0, locals := 90 * n + 200 }) (tf_P g T [.ref a0, .int (Int32.ofInt x1)] (fun H => tf_s H a0 (g.1.2 2 3) = some (.ref t0) ∧ (∃ z : Int, tf_s H t0 (g.1.2 4 2) = some (.int (Int32.ofInt z)) ∧ 1 ≤ z ∧ z ≤ 401))) (tf_Qi g M_X2_readPart T (fun z _ _ => z = 0 ∨ z = 1)) 0 0 (fun q => tf_B g ≤ q)
abbrev M_X2_readTerm : List (Nat × Nat) := [(0, 0), (19, 1), (19, 4), (19, 5), (19, 6), (19, 7)]
def K_X2_readTerm (l : Launch) (g : tf_G) (T : tf_T) (n : Nat) : Prop := ∀ (a0 : Nat) (ha0 : T a0 = some (19, 0)) (x1 : Int) (hp1 : 0 ≤ x1 ∧ x1 ≤ 8) (t0 : Nat) (ht0 : T t0 = some (21, 0)) (hfu : 8 - x1 ≤ (n : Int)), Met l yX2_readTerm (cd_X2_readTerm :: wsL_law) ({ frames := 6 * n + 12, cells := 0, slots := 0, locals := 90 * n + 225 }) (tf_P g T [.ref a0, .int (Int32.ofInt x1)] (fun H => tf_s H a0 (g.1.2 2 3) = some (.ref t0) ∧ (∃ z : Int, tf_s H t0 (g.1.2 4 2) = some (.int (Int32.ofInt z)) ∧ 1 ≤ z ∧ z ≤ 401))) (tf_Qi g M_X2_readTerm T (fun z _ _ => z = 0 ∨ z = 1)) 0 0 (fun q => tf_B g ≤ q)
abbrev M_X2_readSum : List (Nat × Nat) := [(0, 0), (19, 1), (19, 4), (19, 5), (19, 6), (19, 7)]
def K_X2_readSum (l : Launch) (g : tf_G) (T : tf_T) (n : Nat) : Prop := ∀ (a0 : Nat) (ha0 : T a0 = some (19, 0)) (x1 : Int) (hp1 : 0 ≤ x1 ∧ x1 ≤ 8) (t0 : Nat) (ht0 : T t0 = some (21, 0)) (hfu : 8 - x1 ≤ (n : Int)), Met l yX2_readSum (cd_X2_readSum :: wsL_law) ({ frames := 6 * n + 14, cells := 0, slots := 0, locals := 90 * n + 250 }) (tf_P g T [.ref a0, .int (Int32.ofInt x1)] (fun H => tf_s H a0 (g.1.2 2 3) = some (.ref t0) ∧ (∃ z : Int, tf_s H t0 (g.1.2 4 2) = some (.int (Int32.ofInt z)) ∧ 1 ≤ z ∧ z ≤ 401))) (tf_Qi g M_X2_readSum T (fun z _ _ => z = 0 ∨ z = 1)) 0 0 (fun q => tf_B g ≤ q)
abbrev M_X2_readComparison : List (Nat × Nat) := [(0, 0), (19, 1), (19, 4), (19, 5), (19, 6), (19, 7)]
def K_X2_readComparison (l : Launch) (g : tf_G) (T : tf_T) (n : Nat) : Prop := ∀ (a0 : Nat) (ha0 : T a0 = some (19, 0)) (x1 : Int) (hp1 : 0 ≤ x1 ∧ x1 ≤ 8) (t0 : Nat) (ht0 : T t0 = some (21, 0)) (hfu : 8 - x1 ≤ (n : Int)), Met l yX2_readComparison (cd_X2_readComparison :: wsL_law) ({ frames := 6 * n + 16, cells := 0, slots := 0, locals := 90 * n + 275 }) (tf_P g T [.ref a0, .int (Int32.ofInt x1)] (fun H => tf_s H a0 (g.1.2 2 3) = some (.ref t0) ∧ (∃ z : Int, tf_s H t0 (g.1.2 4 2) = some (.int (Int32.ofInt z)) ∧ 1 ≤ z ∧ z ≤ 401))) (tf_Qi g M_X2_readComparison T (fun z _ _ => z = 0 ∨ z = 1)) 0 0 (fun q => tf_B g ≤ q)
abbrev M_X2_readPlain : List (Nat × Nat) := [(0, 0), (19, 1), (19, 4), (19, 5), (19, 6), (19, 7)]
def K_X2_readPlain (l : Launch) (g : tf_G) (T : tf_T) (n : Nat) : Prop := ∀ (a0 : Nat) (ha0 : T a0 = some (19, 0)) (x1 : Int) (hp1 : 0 ≤ x1 ∧ x1 ≤ 8) (t0 : Nat) (ht0 : T t0 = some (21, 0)) (hfu : 8 - x1 ≤ (n : Int)), Met l yX2_readPlain (cd_X2_readPlain :: wsL_law) ({ frames := 6 * n + 18, cells := 0, slots := 0, locals := 90 * n + 300 }) (tf_P g T [.ref a0, .int (Int32.ofInt x1)] (fun H => tf_s H a0 (g.1.2 2 3) = some (.ref t0) ∧ (∃ z : Int, tf_s H t0 (g.1.2 4 2) = some (.int (Int32.ofInt z)) ∧ 1 ≤ z ∧ z ≤ 401))) (tf_Qi g M_X2_readPlain T (fun z _ _ => z = 0 ∨ z = 1)) 0 0 (fun q => tf_B g ≤ q)
abbrev M_X2_readBoth : List (Nat × Nat) := [(0, 0), (19, 1), (19, 4), (19, 5), (19, 6), (19, 7)]
def K_X2_readBoth (l : Launch) (g : tf_G) (T : tf_T) (n : Nat) : Prop := ∀ (a0 : Nat) (ha0 : T a0 = some (19, 0)) (x1 : Int) (hp1 : 0 ≤ x1 ∧ x1 ≤ 8) (t0 : Nat) (ht0 : T t0 = some (21, 0)) (hfu : 8 - x1 ≤ (n : Int)), Met l yX2_readBoth (cd_X2_readBoth :: wsL_law) ({ frames := 6 * n + 20, cells := 0, slots := 0, locals := 90 * n + 325 }) (tf_P g T [.ref a0, .int (Int32.ofInt x1)] (fun H => tf_s H a0 (g.1.2 2 3) = some (.ref t0) ∧ (∃ z : Int, tf_s H t0 (g.1.2 4 2) = some (.int (Int32.ofInt z)) ∧ 1 ≤ z ∧ z ≤ 401))) (tf_Qi g M_X2_readBoth T (fun z _ _ => z = 0 ∨ z = 1)) 0 0 (fun q => tf_B g ≤ q)
abbrev M_X2_readTest : List (Nat × Nat) := [(0, 0), (19, 1), (19, 4), (19, 5), (19, 6), (19, 7)]
def K_X2_readTest (l : Launch) (g : tf_G) (T : tf_T) (n : Nat) : Prop := ∀ (a0 : Nat) (ha0 : T a0 = some (19, 0)) (x1 : Int) (hp1 : 0 ≤ x1 ∧ x1 ≤ 8) (t0 : Nat) (ht0 : T t0 = some (21, 0)) (hfu : 8 - x1 ≤ (n : Int)), Met l yX2_readTest (cd_X2_readTest :: wsL_law) ({ frames := 6 * n + 22, cells := 0, slots := 0, locals := 90 * n + 350 }) (tf_P g T [.ref a0, .int (Int32.ofInt x1)] (fun H => tf_s H a0 (g.1.2 2 3) = some (.ref t0) ∧ (∃ z : Int, tf_s H t0 (g.1.2 4 2) = some (.int (Int32.ofInt z)) ∧ 1 ≤ z ∧ z ≤ 401))) (tf_Qi g M_X2_readTest T (fun z _ _ => z = 0 ∨ z = 1)) 0 0 (fun q => tf_B g ≤ q)
set_option maxHeartbeats 4000000 in
set_option maxRecDepth 100000 in
theorem c_X2_readPart (l : Launch) (g : tf_G) (T : tf_T) (n : Nat) (hS : ∀ n1, n = n1 + 1 → K_X2_readSum l g T n1) : K_X2_readPart l g T n := by
  intro a0 ha0 x1 hp1 t0 ht0 hfu
  refine Met.ofW (cc := cX2_readPart) (maxL := 4) (ret := (some .boolean)) (by decide) rfl ?_
  intro p e s m args below meth c s₁ B hml hv
  obtain ⟨hargs, hk, hW0, hB, hpre⟩ := hv
  obtain ⟨he0, ⟨ze1, he1, hze1⟩⟩ := hpre
  have hx := B.exec
  have hb := B.bytes
  have hr := B.returns
  have hts : ∀ w ∈ wsL_law, w.before args s = true := fun w h => atoms_spec (ws := cd_X2_readPart :: wsL_law) B.pre w (List.mem_cons_of_mem _ h)
  have hown : s.vm.findClass RX2 = some m.cls := findClass_of_methodNamed B.named
  have hlocks := B.notSynchronized
  have hK := hk.1
  have hW := tf_n.start (M := M_X2_readPart) hW0 hB
  obtain ⟨Q, hQ⟩ : ∃ q, q = MQ below (tf_Qi g M_X2_readPart T (fun z _ _ => z = 0 ∨ z = 1)) args s 0 0 (fun q => tf_B g ≤ q) := ⟨_, rfl⟩
  rw [← hQ]
  obtain ⟨R, hR⟩ : ∃ q, q = (headSpec (cd_X2_readPart :: wsL_law) ({ frames := 6 * n + 10, cells := 0, slots := 0, locals := 90 * n + 200 })).room := ⟨_, rfl⟩
  rw [← hR]
  have hR1 : 6 * n + 10 ≤ R.frames := by rw [hR]; exact Nat.le_refl _
  have hR2 : 90 * n + 200 ≤ R.locals := by rw [hR]; exact Nat.le_refl _
  have hR3 : 0 ≤ R.cells := by rw [hR]; exact Nat.le_refl _
  have hR4 : 0 ≤ R.slots := by rw [hR]; exact Nat.le_refl _
  have hin := (name_of_methodNamed B.named B.method).1
  clear hR B
  have j_147 : ∀ (y1_147 : Int), 0 ≤ y1_147 ∧ y1_147 ≤ 1 → ∀ (y2_147 : Int), (-2147483648) ≤ y2_147 ∧ y2_147 ≤ 2147483647 → ∀ (y3_147 : Int), 16 ≤ y3_147 ∧ y3_147 ≤ 2000 → ∀ (H : Heap) (locs : List Loc), tf_n tf_kt g M_X2_readPart T s.heap T H locs → tf_s H a0 (g.1.2 2 3) = some (.ref t0) → tf_s H t0 (g.1.2 4 2) = some (.int (Int32.ofInt ze1)) → ∀ (ls : Array Slot), lv_has ls 4 [(0, .ref a0)] → W p l e R s m args below meth c H locs 0 0 Q (F0 m 147 ls [.int (Int32.ofInt y3_147), .int (Int32.ofInt y2_147), .int (Int32.ofInt y1_147), .ref a0]) := by
    intro y1_147 hy1_147 y2_147 hy2_147 y3_147 hy3_147 H locs hW hs3_147 hs2_147 ls hl
    refine tf_isub_any hx hb dX2_readPart_147 (fun z1 hz1 => ?_)
    refine tf_callv (va_runV (As := [.int (Int32.ofInt y1_147), .int (Int32.ofInt z1)]) (rest := []) ⟨hx, hb, hml, hown, hts⟩ (c_X2_add l g T a0 ha0 (y1_147) ⟨by omega, by omega⟩ (z1) ⟨by omega, by omega⟩) (cwV 2 hts gv_X2_93 rfl rfl rfl hd_X2_add ⟨Nat.le_trans (show 1 + 1 ≤ 6 * n + 10 by omega) hR1, Nat.le_trans (show 8 + (3 + 11) + (24) ≤ 90 * n + 200 by omega) hR2⟩) (tf_preV hk hW ha0 (ci := 2) rfl rfl trivial) rfl rfl hl.1 rfl (lv_room (Nat.le_of_ble_eq_true rfl)) dX2_readPart_148 ⟨Nat.zero_le _, Nat.zero_le _⟩) hW (by decide) (fun H2 locs2 hW hF2 hp2 => ?_)
    have hs3 := tf_keepF hF2 ha0 rfl rfl (by decide) hs3_147
    have hs4 := tf_keepF hF2 ht0 rfl rfl (by decide) hs2_147
    refine lv_aload_n hx hb dX2_readPart_151 rfl (lv_at hl 0 rfl) ?_
    refine tf_callv (va_runV (As := []) (rest := []) ⟨hx, hb, hml, hown, hts⟩ (c_X2_next l g T a0 ha0 t0 ht0) (cwV 0 hts gv_X2_73 rfl rfl rfl hd_X2_next ⟨Nat.le_trans (show 1 + 1 ≤ 6 * n + 10 by omega) hR1, Nat.le_trans (show 8 + (1 + 11) + (40) ≤ 90 * n + 200 by omega) hR2⟩) (tf_preV hk hW ha0 (ci := 2) rfl rfl ⟨hs3, ⟨_, hs4, by omega, by omega⟩⟩) rfl rfl hl.1 rfl (lv_room (Nat.le_of_ble_eq_true rfl)) dX2_readPart_152 ⟨Nat.zero_le _, Nat.zero_le _⟩) hW (by decide) (fun H5 locs5 hW hF5 hp5 => ?_)
    have hs6 := tf_keepF hF5 ha0 rfl rfl (by decide) hs3
    have hs7 := tf_keepF hF5 ht0 rfl rfl (by decide) hs4
    refine tf_iconst hx hb dX2_readPart_155 ?_
    exact tf_retz (z := 1) hx hb hr hlocks hQ hW (by omega) (show (1) = 0 ∨ (1) = 1 by omega) dX2_readPart_156
  have j_131 : ∀ (x2_131 : Int), 0 ≤ x2_131 ∧ x2_131 ≤ 1 → ∀ (y1_131 : Int), 0 ≤ y1_131 ∧ y1_131 ≤ 1 → ∀ (f5_131 : Int), (-2147483648) ≤ f5_131 ∧ f5_131 ≤ 2147483647 → ∀ (H : Heap) (locs : List Loc), tf_n tf_kt g M_X2_readPart T s.heap T H locs → tf_s H a0 (g.1.2 2 3) = some (.ref t0) → tf_s H t0 (g.1.2 4 2) = some (.int (Int32.ofInt ze1)) → tf_s H a0 (g.1.2 2 5) = some (.int (Int32.ofInt f5_131)) → ∀ (ls : Array Slot), lv_has ls 4 [(0, .ref a0), (2, .int (Int32.ofInt x2_131))] → W p l e R s m args below meth c H locs 0 0 Q (F0 m 131 ls [.int (Int32.ofInt y1_131), .ref a0]) := by
    intro x2_131 hx2_131 y1_131 hy1_131 f5_131 hf5_131 H locs hW hs3_131 hs2_131 hs5_131 ls hl
    refine lv_aload_n hx hb dX2_readPart_131 rfl (lv_at hl 0 rfl) ?_
    refine tf_get hx hb hts inlX2 hown hK (ci := 2) rfl hW ha0 rfl 5 rfl (by decide) (hts _ fl_X2_32) dX2_readPart_132 (fun v8 hv8 hsv8 => ?_)
    obtain rfl : v8 = .int (Int32.ofInt f5_131) := Option.some.inj (hsv8.symm.trans hs5_131)
    refine lv_iload_n hx hb dX2_readPart_135 rfl (lv_at hl 1 rfl) ?_
    refine tf_if_eq (tgt := 145) hx hb ⟨by omega, by omega⟩ dX2_readPart_136 (by decide) (fun h9 => ?_) (fun h9 => ?_)
    · refine tf_bipush hx hb dX2_readPart_145 (by decide) ?_
      exact j_147 (y1_131) ⟨by omega, by omega⟩ (f5_131) ⟨by omega, by omega⟩ (16) ⟨by omega, by omega⟩ _ _ hW hs3_131 hs2_131 _ (lv_sub hl [0] rfl)
    · refine tf_sipush hx hb dX2_readPart_139 (by decide) ?_
      refine lv_goto (tgt := 147) hx hb dX2_readPart_142 (by decide) ?_
      exact j_147 (y1_131) ⟨by omega, by omega⟩ (f5_131) ⟨by omega, by omega⟩ (2000) ⟨by omega, by omega⟩ _ _ hW hs3_131 hs2_131 _ (lv_sub hl [0] rfl)
  have j_106 : ∀ (H : Heap) (locs : List Loc), tf_n tf_kt g M_X2_readPart T s.heap T H locs → ∀ (ls : Array Slot), lv_has ls 4 [(0, .ref a0)] → W p l e R s m args below meth c H locs 0 0 Q (F0 m 106 ls []) := by
    intro  H locs hW  ls hl
    refine lv_aload_n hx hb dX2_readPart_106 rfl (lv_at hl 0 rfl) ?_
    refine tf_calli (va_runV (As := []) (rest := []) ⟨hx, hb, hml, hown, hts⟩ (c_X2_failHere l g T a0 ha0) (cwV 0 hts gv_X2_66 rfl rfl rfl hd_X2_failHere ⟨Nat.le_trans (show 1 + 1 ≤ 6 * n + 10 by omega) hR1, Nat.le_trans (show 8 + (1 + 11) + (24) ≤ 90 * n + 200 by omega) hR2⟩) (tf_preV hk hW ha0 (ci := 2) rfl rfl trivial) rfl rfl hl.1 rfl (lv_room (Nat.le_of_ble_eq_true rfl)) dX2_readPart_107 ⟨Nat.zero_le _, Nat.zero_le _⟩) hW (by decide) (fun z10 H10 locs10 hW hF10 hp10 => ?_)
    have hp10 : z10 = 0 ∨ z10 = 1 := hp10
    exact tf_retz (z := z10) hx hb hr hlocks hQ hW (by omega) (show (z10) = 0 ∨ (z10) = 1 by omega) dX2_readPart_110
  have j_97 : ∀ (x2_97 : Int), 0 ≤ x2_97 ∧ x2_97 ≤ 1 → ∀ (f5_97 : Int), (-2147483648) ≤ f5_97 ∧ f5_97 ≤ 2147483647 → ∀ (H : Heap) (locs : List Loc), tf_n tf_kt g M_X2_readPart T s.heap T H locs → tf_s H a0 (g.1.2 2 3) = some (.ref t0) → tf_s H t0 (g.1.2 4 2) = some (.int (Int32.ofInt ze1)) → tf_s H a0 (g.1.2 2 5) = some (.int (Int32.ofInt f5_97)) → ∀ (ls : Array Slot), lv_has ls 4 [(0, .ref a0), (2, .int (Int32.ofInt x2_97))] → W p l e R s m args below meth c H locs 0 0 Q (F0 m 97 ls []) := by
    intro x2_97 hx2_97 f5_97 hf5_97 H locs hW hs3_97 hs2_97 hs5_97 ls hl
    refine lv_aload_n hx hb dX2_readPart_97 rfl (lv_at hl 0 rfl) ?_
    refine tf_get hx hb hts inlX2 hown hK (ci := 2) rfl hW ha0 rfl 6 rfl (by decide) (hts _ fl_X2_35) dX2_readPart_98 (fun v11 hv11 hsv11 => ?_)
    obtain ⟨z12, rfl, hz12⟩ := tf_v0 hv11
    refine tf_bipush hx hb dX2_readPart_101 (by decide) ?_
    refine tf_icmp_lt (tgt := 111) hx hb ⟨by omega, by omega⟩ ⟨by decide, by decide⟩ dX2_readPart_103 (by decide) (fun h13 => ?_) (fun h13 => ?_)
    · refine lv_aload_n hx hb dX2_readPart_111 rfl (lv_at hl 0 rfl) ?_
      refine lv_dup hx hb dX2_readPart_112 rfl ?_
      refine tf_get hx hb hts inlX2 hown hK (ci := 2) rfl hW ha0 rfl 6 rfl (by decide) (hts _ fl_X2_35) dX2_readPart_113 (fun v14 hv14 hsv14 => ?_)
      obtain rfl : v14 = .int (Int32.ofInt z12) := Option.some.inj (hsv14.symm.trans hsv11)
      refine tf_iconst hx hb dX2_readPart_116 ?_
      refine tf_iadd hx hb dX2_readPart_117 ?_
      refine tf_put hx hb hts inlX2 tyX2 tyX2_ok nmX2 hown hK (ci := 2) rfl hW ha0 rfl rfl 6 rfl (by decide) (by decide) (hts _ fl_X2_35) rfl (tf_u0 (by omega) (by omega)) rfl rfl dX2_readPart_118 (fun H15 locs15 hW hs15 ht15 hq15 => ?_)
      have hs16 := (ht15 3 (by decide) (by decide)).trans hs3_97
      have hs17 := tf_keepQ hs2_97 (hq15 _ (tf_ne ht0 ha0 (by decide)))
      have hs18 := (ht15 5 (by decide) (by decide)).trans hs5_97
      refine lv_aload_n hx hb dX2_readPart_121 rfl (lv_at hl 0 rfl) ?_
      refine lv_iload_n hx hb dX2_readPart_122 rfl (lv_at hl 1 rfl) ?_
      refine tf_if_eq (tgt := 130) hx hb ⟨by omega, by omega⟩ dX2_readPart_123 (by decide) (fun h19 => ?_) (fun h19 => ?_)
      · refine tf_iconst hx hb dX2_readPart_130 ?_
        exact j_131 (x2_97) ⟨by omega, by omega⟩ (1) ⟨by omega, by omega⟩ (f5_97) ⟨by omega, by omega⟩ _ _ hW hs16 hs17 hs18 _ (lv_sub hl [0, 1] rfl)
      · refine tf_iconst hx hb dX2_readPart_126 ?_
        refine lv_goto (tgt := 131) hx hb dX2_readPart_127 (by decide) ?_
        exact j_131 (x2_97) ⟨by omega, by omega⟩ (0) ⟨by omega, by omega⟩ (f5_97) ⟨by omega, by omega⟩ _ _ hW hs16 hs17 hs18 _ (lv_sub hl [0, 1] rfl)
    · exact j_106  _ _ hW  _ (lv_sub hl [0] rfl)
  have j_88 : ∀ (x2_88 : Int), 0 ≤ x2_88 ∧ x2_88 ≤ 1 → ∀ (y0_88 : Int), 0 ≤ y0_88 ∧ y0_88 ≤ 1 → ∀ (f5_88 : Int), (-2147483648) ≤ f5_88 ∧ f5_88 ≤ 2147483647 → ∀ (H : Heap) (locs : List Loc), tf_n tf_kt g M_X2_readPart T s.heap T H locs → tf_s H a0 (g.1.2 2 3) = some (.ref t0) → tf_s H t0 (g.1.2 4 2) = some (.int (Int32.ofInt ze1)) → tf_s H a0 (g.1.2 2 5) = some (.int (Int32.ofInt f5_88)) → ∀ (ls : Array Slot), lv_has ls 4 [(0, .ref a0), (2, .int (Int32.ofInt x2_88))] → W p l e R s m args below meth c H locs 0 0 Q (F0 m 88 ls [.int (Int32.ofInt y0_88)]) := by
    intro x2_88 hx2_88 y0_88 hy0_88 f5_88 hf5_88 H locs hW hs3_88 hs2_88 hs5_88 ls hl
    refine lv_istore_n (lv' := [(3, .int (Int32.ofInt y0_88)), (0, .ref a0), (2, .int (Int32.ofInt x2_88))]) hx hb dX2_readPart_88 rfl hl (by decide) rfl (fun ls hl => ?_)
    refine lv_iload_n hx hb dX2_readPart_89 rfl (lv_at hl 2 rfl) ?_
    refine tf_if_ne (tgt := 97) hx hb ⟨by omega, by omega⟩ dX2_readPart_90 (by decide) (fun h20 => ?_) (fun h20 => ?_)
    · exact j_97 (x2_88) ⟨by omega, by omega⟩ (f5_88) ⟨by omega, by omega⟩ _ _ hW hs3_88 hs2_88 hs5_88 _ (lv_sub hl [1, 2] rfl)
    · refine lv_iload_n hx hb dX2_readPart_93 rfl (lv_at hl 0 rfl) ?_
      refine tf_if_eq (tgt := 106) hx hb ⟨by omega, by omega⟩ dX2_readPart_94 (by decide) (fun h21 => ?_) (fun h21 => ?_)
      · exact j_106  _ _ hW  _ (lv_sub hl [1] rfl)
      · exact j_97 (x2_88) ⟨by omega, by omega⟩ (f5_88) ⟨by omega, by omega⟩ _ _ hW hs3_88 hs2_88 hs5_88 _ (lv_sub hl [1, 2] rfl)
  have j_87 : ∀ (x2_87 : Int), 0 ≤ x2_87 ∧ x2_87 ≤ 1 → ∀ (f5_87 : Int), (-2147483648) ≤ f5_87 ∧ f5_87 ≤ 2147483647 → ∀ (H : Heap) (locs : List Loc), tf_n tf_kt g M_X2_readPart T s.heap T H locs → tf_s H a0 (g.1.2 2 3) = some (.ref t0) → tf_s H t0 (g.1.2 4 2) = some (.int (Int32.ofInt ze1)) → tf_s H a0 (g.1.2 2 5) = some (.int (Int32.ofInt f5_87)) → ∀ (ls : Array Slot), lv_has ls 4 [(0, .ref a0), (2, .int (Int32.ofInt x2_87))] → W p l e R s m args below meth c H locs 0 0 Q (F0 m 87 ls []) := by
    intro x2_87 hx2_87 f5_87 hf5_87 H locs hW hs3_87 hs2_87 hs5_87 ls hl
    refine tf_iconst hx hb dX2_readPart_87 ?_
    exact j_88 (x2_87) ⟨by omega, by omega⟩ (0) ⟨by omega, by omega⟩ (f5_87) ⟨by omega, by omega⟩ _ _ hW hs3_87 hs2_87 hs5_87 _ (lv_sub hl [0, 1] rfl)
  refine tf_enter (As := [.ref a0, .int (Int32.ofInt x1)]) hargs (Nat.le_of_ble_eq_true rfl) (fun ls hl => ?_)
  have hl : lv_has ls 4 [(0, .ref a0), (1, .int (Int32.ofInt x1))] := hl
  refine lv_aload_n hx hb dX2_readPart_0 rfl (lv_at hl 0 rfl) ?_
  refine tf_get hx hb hts inlX2 hown hK (ci := 2) rfl hW ha0 rfl 5 rfl (by decide) (hts _ fl_X2_32) dX2_readPart_1 (fun v22 hv22 hsv22 => ?_)
  obtain ⟨z23, rfl, hz23⟩ := tf_v0 hv22
  refine tf_sipush hx hb dX2_readPart_4 (by decide) ?_
  refine tf_icmp_ne (tgt := 51) hx hb ⟨by omega, by omega⟩ ⟨by decide, by decide⟩ dX2_readPart_7 (by decide) (fun h24 => ?_) (fun h24 => ?_)
  · refine lv_aload_n hx hb dX2_readPart_51 rfl (lv_at hl 0 rfl) ?_
    refine tf_get hx hb hts inlX2 hown hK (ci := 2) rfl hW ha0 rfl 5 rfl (by decide) (hts _ fl_X2_32) dX2_readPart_52 (fun v25 hv25 hsv25 => ?_)
    obtain rfl : v25 = .int (Int32.ofInt z23) := Option.some.inj (hsv25.symm.trans hsv22)
    refine tf_sipush hx hb dX2_readPart_55 (by decide) ?_
    refine tf_sipush hx hb dX2_readPart_58 (by decide) ?_
    refine tf_calli (va_runSN (As := [.int (Int32.ofInt z23), .int (Int32.ofInt 2000), .int (Int32.ofInt 3000)]) (rest := []) ⟨hx, hb, hml, hown, hts⟩ (c_X9_isWithin l g T (z23) ⟨by omega, by omega⟩ (2000) ⟨by omega, by omega⟩ (3000) ⟨by omega, by omega⟩) ⟨va_cnB 3 hts (gw_ws cm_X9_isWithin) rfl rfl rfl (hk.2.1 _ nw_17) (hts _ (tw1 (i := 2) rfl)) hd_X9_isWithin.2 ⟨Nat.le_trans (show 1 + 1 ≤ 6 * n + 10 by omega) hR1, Nat.le_trans (show 8 + (3 + 11) + (24) ≤ 90 * n + 200 by omega) hR2⟩, hts _ (tw8 (i := 17) rfl), trivial⟩ (tf_preS hk hW trivial) rfl rfl hl.1 rfl (lv_room (Nat.le_of_ble_eq_true rfl)) dX2_readPart_61 ⟨Nat.zero_le _, Nat.zero_le _⟩) hW (by decide) (fun z26 H26 locs26 hW hF26 hp26 => ?_)
    have hs27 := tf_keepF hF26 ha0 rfl rfl (by decide) he0
    have hs28 := tf_keepF hF26 ht0 rfl rfl (by decide) he1
    have hs29 := tf_keepF hF26 ha0 rfl rfl (by decide) hsv22
    rcases hp26 with ⟨rfl, h30, h31⟩ | ⟨rfl, h32⟩
    · refine lv_istore_n (lv' := [(2, .int (Int32.ofInt 1)), (0, .ref a0), (1, .int (Int32.ofInt x1))]) hx hb dX2_readPart_64 rfl hl (by decide) rfl (fun ls hl => ?_)
      refine lv_aload_n hx hb dX2_readPart_65 rfl (lv_at hl 1 rfl) ?_
      refine tf_get hx hb hts inlX2 hown hK (ci := 2) rfl hW ha0 rfl 5 rfl (by decide) (hts _ fl_X2_32) dX2_readPart_66 (fun v33 hv33 hsv33 => ?_)
      obtain rfl : v33 = .int (Int32.ofInt z23) := Option.some.inj (hsv33.symm.trans hs29)
      refine tf_bipush hx hb dX2_readPart_69 (by decide) ?_
      refine tf_icmp_lt (tgt := 87) hx hb ⟨by omega, by omega⟩ ⟨by decide, by decide⟩ dX2_readPart_71 (by decide) (fun h34 => ?_) (fun h34 => ?_)
      · exfalso; omega
      · refine lv_aload_n hx hb dX2_readPart_74 rfl (lv_at hl 1 rfl) ?_
        refine tf_get hx hb hts inlX2 hown hK (ci := 2) rfl hW ha0 rfl 5 rfl (by decide) (hts _ fl_X2_32) dX2_readPart_75 (fun v35 hv35 hsv35 => ?_)
        obtain rfl : v35 = .int (Int32.ofInt z23) := Option.some.inj (hsv35.symm.trans hs29)
        refine tf_bipush hx hb dX2_readPart_78 (by decide) ?_
        refine tf_icmp_ge (tgt := 87) hx hb ⟨by omega, by omega⟩ ⟨by decide, by decide⟩ dX2_readPart_80 (by decide) (fun h36 => ?_) (fun h36 => ?_)
        · exact j_87 (1) ⟨by omega, by omega⟩ (z23) ⟨by omega, by omega⟩ _ _ hW hs27 hs28 hs29 _ (lv_sub hl [1, 0] rfl)
        · exfalso; omega
    · refine lv_istore_n (lv' := [(2, .int (Int32.ofInt 0)), (0, .ref a0), (1, .int (Int32.ofInt x1))]) hx hb dX2_readPart_64 rfl hl (by decide) rfl (fun ls hl => ?_)
      refine lv_aload_n hx hb dX2_readPart_65 rfl (lv_at hl 1 rfl) ?_
      refine tf_get hx hb hts inlX2 hown hK (ci := 2) rfl hW ha0 rfl 5 rfl (by decide) (hts _ fl_X2_32) dX2_readPart_66 (fun v37 hv37 hsv37 => ?_)
      obtain rfl : v37 = .int (Int32.ofInt z23) := Option.some.inj (hsv37.symm.trans hs29)
      refine tf_bipush hx hb dX2_readPart_69 (by decide) ?_
      refine tf_icmp_lt (tgt := 87) hx hb ⟨by omega, by omega⟩ ⟨by decide, by decide⟩ dX2_readPart_71 (by decide) (fun h38 => ?_) (fun h38 => ?_)
      · exact j_87 (0) ⟨by omega, by omega⟩ (z23) ⟨by omega, by omega⟩ _ _ hW hs27 hs28 hs29 _ (lv_sub hl [1, 0] rfl)
      · refine lv_aload_n hx hb dX2_readPart_74 rfl (lv_at hl 1 rfl) ?_
        refine tf_get hx hb hts inlX2 hown hK (ci := 2) rfl hW ha0 rfl 5 rfl (by decide) (hts _ fl_X2_32) dX2_readPart_75 (fun v39 hv39 hsv39 => ?_)
        obtain rfl : v39 = .int (Int32.ofInt z23) := Option.some.inj (hsv39.symm.trans hs29)
        refine tf_bipush hx hb dX2_readPart_78 (by decide) ?_
        refine tf_icmp_ge (tgt := 87) hx hb ⟨by omega, by omega⟩ ⟨by decide, by decide⟩ dX2_readPart_80 (by decide) (fun h40 => ?_) (fun h40 => ?_)
        · exact j_87 (0) ⟨by omega, by omega⟩ (z23) ⟨by omega, by omega⟩ _ _ hW hs27 hs28 hs29 _ (lv_sub hl [1, 0] rfl)
        · refine tf_iconst hx hb dX2_readPart_83 ?_
          refine lv_goto (tgt := 88) hx hb dX2_readPart_84 (by decide) ?_
          exact j_88 (0) ⟨by omega, by omega⟩ (1) ⟨by omega, by omega⟩ (z23) ⟨by omega, by omega⟩ _ _ hW hs27 hs28 hs29 _ (lv_sub hl [1, 0] rfl)
  · refine lv_iload_n hx hb dX2_readPart_10 rfl (lv_at hl 1 rfl) ?_
    refine tf_bipush hx hb dX2_readPart_11 (by decide) ?_
    refine tf_icmp_lt (tgt := 21) hx hb ⟨by omega, by omega⟩ ⟨by decide, by decide⟩ dX2_readPart_13 (by decide) (fun h41 => ?_) (fun h41 => ?_)
    · refine lv_aload_n hx hb dX2_readPart_21 rfl (lv_at hl 0 rfl) ?_
      refine tf_callv (va_runV (As := []) (rest := []) ⟨hx, hb, hml, hown, hts⟩ (c_X2_next l g T a0 ha0 t0 ht0) (cwV 0 hts gv_X2_73 rfl rfl rfl hd_X2_next ⟨Nat.le_trans (show 1 + 1 ≤ 6 * n + 10 by omega) hR1, Nat.le_trans (show 8 + (1 + 11) + (40) ≤ 90 * n + 200 by omega) hR2⟩) (tf_preV hk hW ha0 (ci := 2) rfl rfl ⟨he0, ⟨_, he1, by omega, by omega⟩⟩) rfl rfl hl.1 rfl (lv_room (Nat.le_of_ble_eq_true rfl)) dX2_readPart_22 ⟨Nat.zero_le _, Nat.zero_le _⟩) hW (by decide) (fun H42 locs42 hW hF42 hp42 => ?_)
      have hs43 := tf_keepF hF42 ha0 rfl rfl (by decide) he0
      have hs44 := tf_keepF hF42 ht0 rfl rfl (by decide) he1
      refine lv_aload_n hx hb dX2_readPart_25 rfl (lv_at hl 0 rfl) ?_
      refine lv_iload_n hx hb dX2_readPart_26 rfl (lv_at hl 1 rfl) ?_
      refine tf_iconst hx hb dX2_readPart_27 ?_
      refine tf_iadd hx hb dX2_readPart_28 ?_
      obtain ⟨n1, hn1⟩ : ∃ n1, n = n1 + 1 := ⟨n - 1, by omega⟩
      refine tf_calli (va_runV (As := [.int (Int32.ofInt ((x1 + 1)))]) (rest := []) ⟨hx, hb, hml, hown, hts⟩ (hS n1 hn1 a0 ha0 ((x1 + 1)) ⟨by omega, by omega⟩ t0 ht0 (by omega)) (cwV 1 hts gv_X2_70 rfl rfl rfl hd_X2_readSum ⟨Nat.le_trans (show 6 * n1 + 14 + 1 ≤ 6 * n + 10 by omega) hR1, Nat.le_trans (show 8 + (4 + 11) + (90 * n1 + 250) ≤ 90 * n + 200 by omega) hR2⟩) (tf_preV hk hW ha0 (ci := 2) rfl rfl ⟨hs43, ⟨_, hs44, by omega, by omega⟩⟩) rfl rfl hl.1 rfl (lv_room (Nat.le_of_ble_eq_true rfl)) dX2_readPart_29 ⟨Nat.zero_le _, Nat.zero_le _⟩) hW (by decide) (fun z45 H45 locs45 hW hF45 hp45 => ?_)
      have hs46 := tf_keepF hF45 ha0 rfl rfl (by decide) hs43
      have hs47 := tf_keepF hF45 ht0 rfl rfl (by decide) hs44
      have hp45 : z45 = 0 ∨ z45 = 1 := hp45
      refine tf_if_eq (tgt := 49) hx hb ⟨by omega, by omega⟩ dX2_readPart_32 (by decide) (fun h48 => ?_) (fun h48 => ?_)
      · refine tf_iconst hx hb dX2_readPart_49 ?_
        exact tf_retz (z := 0) hx hb hr hlocks hQ hW (by omega) (show (0) = 0 ∨ (0) = 1 by omega) dX2_readPart_50
      · refine lv_aload_n hx hb dX2_readPart_35 rfl (lv_at hl 0 rfl) ?_
        refine tf_sipush hx hb dX2_readPart_36 (by decide) ?_
        refine tf_calli (va_runV (As := [.int (Int32.ofInt 1093)]) (rest := []) ⟨hx, hb, hml, hown, hts⟩ (c_X2_pass l g T a0 ha0 (1093) ⟨by omega, by omega⟩ t0 ht0) (cwV 1 hts gv_X2_63 rfl rfl rfl hd_X2_pass ⟨Nat.le_trans (show 2 + 1 ≤ 6 * n + 10 by omega) hR1, Nat.le_trans (show 8 + (2 + 11) + (60) ≤ 90 * n + 200 by omega) hR2⟩) (tf_preV hk hW ha0 (ci := 2) rfl rfl ⟨hs46, ⟨_, hs47, by omega, by omega⟩⟩) rfl rfl hl.1 rfl (lv_room (Nat.le_of_ble_eq_true rfl)) dX2_readPart_39 ⟨Nat.zero_le _, Nat.zero_le _⟩) hW (by decide) (fun z49 H49 locs49 hW hF49 hp49 => ?_)
        have hs50 := tf_keepF hF49 ha0 rfl rfl (by decide) hs46
        have hs51 := tf_keepF hF49 ht0 rfl rfl (by decide) hs47
        have hp49 : z49 = 0 ∨ z49 = 1 := hp49
        refine tf_if_eq (tgt := 49) hx hb ⟨by omega, by omega⟩ dX2_readPart_42 (by decide) (fun h52 => ?_) (fun h52 => ?_)
        · refine tf_iconst hx hb dX2_readPart_49 ?_
          exact tf_retz (z := 0) hx hb hr hlocks hQ hW (by omega) (show (0) = 0 ∨ (0) = 1 by omega) dX2_readPart_50
        · refine tf_iconst hx hb dX2_readPart_45 ?_
          refine lv_goto (tgt := 50) hx hb dX2_readPart_46 (by decide) ?_
          exact tf_retz (z := 1) hx hb hr hlocks hQ hW (by omega) (show (1) = 0 ∨ (1) = 1 by omega) dX2_readPart_50
    · refine lv_aload_n hx hb dX2_readPart_16 rfl (lv_at hl 0 rfl) ?_
      refine tf_calli (va_runV (As := []) (rest := []) ⟨hx, hb, hml, hown, hts⟩ (c_X2_failHere l g T a0 ha0) (cwV 0 hts gv_X2_66 rfl rfl rfl hd_X2_failHere ⟨Nat.le_trans (show 1 + 1 ≤ 6 * n + 10 by omega) hR1, Nat.le_trans (show 8 + (1 + 11) + (24) ≤ 90 * n + 200 by omega) hR2⟩) (tf_preV hk hW ha0 (ci := 2) rfl rfl trivial) rfl rfl hl.1 rfl (lv_room (Nat.le_of_ble_eq_true rfl)) dX2_readPart_17 ⟨Nat.zero_le _, Nat.zero_le _⟩) hW (by decide) (fun z53 H53 locs53 hW hF53 hp53 => ?_)
      have hs54 := tf_keepF hF53 ha0 rfl rfl (by decide) he0
      have hs55 := tf_keepF hF53 ht0 rfl rfl (by decide) he1
      have hs56 := tf_keepF hF53 ha0 rfl rfl (by decide) hsv22
      have hp53 : z53 = 0 ∨ z53 = 1 := hp53
      exact tf_retz (z := z53) hx hb hr hlocks hQ hW (by omega) (show (z53) = 0 ∨ (z53) = 1 by omega) dX2_readPart_20

set_option maxHeartbeats 4000000 in
set_option maxRecDepth 100000 in
theorem c_X2_readTerm (l : Launch) (g : tf_G) (T : tf_T) (n : Nat) (hP : K_X2_readPart l g T n) : K_X2_readTerm l g T n := by
  intro a0 ha0 x1 hp1 t0 ht0 hfu
  refine Met.ofW (cc := cX2_readTerm) (maxL := 4) (ret := (some .boolean)) (by decide) rfl ?_
  intro p e s m args below meth c s₁ B hml hv
  obtain ⟨hargs, hk, hW0, hB, hpre⟩ := hv
  obtain ⟨he0, ⟨ze1, he1, hze1⟩⟩ := hpre
  have hx := B.exec
  have hb := B.bytes
  have hr := B.returns
  have hts : ∀ w ∈ wsL_law, w.before args s = true := fun w h => atoms_spec (ws := cd_X2_readTerm :: wsL_law) B.pre w (List.mem_cons_of_mem _ h)
  have hown : s.vm.findClass RX2 = some m.cls := findClass_of_methodNamed B.named
  have hlocks := B.notSynchronized
  have hK := hk.1
  have hW := tf_n.start (M := M_X2_readTerm) hW0 hB
  obtain ⟨Q, hQ⟩ : ∃ q, q = MQ below (tf_Qi g M_X2_readTerm T (fun z _ _ => z = 0 ∨ z = 1)) args s 0 0 (fun q => tf_B g ≤ q) := ⟨_, rfl⟩
  rw [← hQ]
  obtain ⟨R, hR⟩ : ∃ q, q = (headSpec (cd_X2_readTerm :: wsL_law) ({ frames := 6 * n + 12, cells := 0, slots := 0, locals := 90 * n + 225 })).room := ⟨_, rfl⟩
  rw [← hR]
  have hR1 : 6 * n + 12 ≤ R.frames := by rw [hR]; exact Nat.le_refl _
  have hR2 : 90 * n + 225 ≤ R.locals := by rw [hR]; exact Nat.le_refl _
  have hR3 : 0 ≤ R.cells := by rw [hR]; exact Nat.le_refl _
  have hR4 : 0 ≤ R.slots := by rw [hR]; exact Nat.le_refl _
  have hin := (name_of_methodNamed B.named B.method).1
  clear hR B
  have j_12 : ∀ (n_12 : Nat), 0 ≤ x1 ∧ x1 ≤ 8 → ∀ (x2_12 : Int), 0 ≤ x2_12 ∧ x2_12 ≤ 401 → (401 - x2_12 + 1 ≤ (n_12 : Int)) → ∀ (H : Heap) (locs : List Loc), tf_n tf_kt g M_X2_readTerm T s.heap T H locs → tf_s H a0 (g.1.2 2 3) = some (.ref t0) → tf_s H t0 (g.1.2 4 2) = some (.int (Int32.ofInt ze1)) → ∀ (ls : Array Slot), lv_has ls 4 [(0, .ref a0), (1, .int (Int32.ofInt x1)), (2, .int (Int32.ofInt x2_12))] → W p l e R s m args below meth c H locs 0 0 Q (F0 m 12 ls []) := by
    intro n_12
    induction n_12 with
    | zero =>
      intro hx1_12 x2_12 hx2_12 hm_12
      exfalso; omega
    | succ n_12 ih_12 =>
      intro hx1_12 x2_12 hx2_12 hm_12 H locs hW hs3_12 hs2_12 ls hl
      have j_54 : 0 ≤ x1 ∧ x1 ≤ 8 → 0 ≤ x2_12 ∧ x2_12 ≤ 400 → ∀ (y0_54 : Int), 4 ≤ y0_54 ∧ y0_54 ≤ 5 → ∀ (H : Heap) (locs : List Loc), tf_n tf_kt g M_X2_readTerm T s.heap T H locs → tf_s H a0 (g.1.2 2 3) = some (.ref t0) → tf_s H t0 (g.1.2 4 2) = some (.int (Int32.ofInt ze1)) → ∀ (ls : Array Slot), lv_has ls 4 [(0, .ref a0), (1, .int (Int32.ofInt x1)), (2, .int (Int32.ofInt x2_12))] → W p l e R s m args below meth c H locs 0 0 Q (F0 m 54 ls [.int (Int32.ofInt y0_54)]) := by
        intro hx1_54 hx2_54 y0_54 hy0_54 H locs hW hs3_54 hs2_54 ls hl
        refine lv_istore_n (lv' := [(3, .int (Int32.ofInt y0_54)), (0, .ref a0), (1, .int (Int32.ofInt x1)), (2, .int (Int32.ofInt x2_12))]) hx hb dX2_readTerm_54 rfl hl (by decide) rfl (fun ls hl => ?_)
        refine lv_aload_n hx hb dX2_readTerm_55 rfl (lv_at hl 1 rfl) ?_
        refine tf_callv (va_runV (As := []) (rest := []) ⟨hx, hb, hml, hown, hts⟩ (c_X2_next l g T a0 ha0 t0 ht0) (cwV 0 hts gv_X2_73 rfl rfl rfl hd_X2_next ⟨Nat.le_trans (show 1 + 1 ≤ 6 * n + 12 by omega) hR1, Nat.le_trans (show 8 + (1 + 11) + (40) ≤ 90 * n + 225 by omega) hR2⟩) (tf_preV hk hW ha0 (ci := 2) rfl rfl ⟨hs3_54, ⟨_, hs2_54, by omega, by omega⟩⟩) rfl rfl hl.1 rfl (lv_room (Nat.le_of_ble_eq_true rfl)) dX2_readTerm_56 ⟨Nat.zero_le _, Nat.zero_le _⟩) hW (by decide) (fun H1 locs1 hW hF1 hp1 => ?_)
        have hs2 := tf_keepF hF1 ha0 rfl rfl (by decide) hs3_54
        have hs3 := tf_keepF hF1 ht0 rfl rfl (by decide) hs2_54
        refine lv_aload_n hx hb dX2_readTerm_59 rfl (lv_at hl 1 rfl) ?_
        refine lv_iload_n hx hb dX2_readTerm_60 rfl (lv_at hl 2 rfl) ?_
        refine tf_calli (va_runV (As := [.int (Int32.ofInt x1)]) (rest := []) ⟨hx, hb, hml, hown, hts⟩ (hP a0 ha0 (x1) ⟨by omega, by omega⟩ t0 ht0 (by omega)) (cwV 1 hts gv_X2_103 rfl rfl rfl hd_X2_readPart ⟨Nat.le_trans (show 6 * n + 10 + 1 ≤ 6 * n + 12 by omega) hR1, Nat.le_trans (show 8 + (4 + 11) + (90 * n + 200) ≤ 90 * n + 225 by omega) hR2⟩) (tf_preV hk hW ha0 (ci := 2) rfl rfl ⟨hs2, ⟨_, hs3, by omega, by omega⟩⟩) rfl rfl hl.1 rfl (lv_room (Nat.le_of_ble_eq_true rfl)) dX2_readTerm_61 ⟨Nat.zero_le _, Nat.zero_le _⟩) hW (by decide) (fun z4 H4 locs4 hW hF4 hp4 => ?_)
        have hs5 := tf_keepF hF4 ha0 rfl rfl (by decide) hs2
        have hs6 := tf_keepF hF4 ht0 rfl rfl (by decide) hs3
        have hp4 : z4 = 0 ∨ z4 = 1 := hp4
        refine tf_if_ne (tgt := 69) hx hb ⟨by omega, by omega⟩ dX2_readTerm_64 (by decide) (fun h7 => ?_) (fun h7 => ?_)
        · refine lv_aload_n hx hb dX2_readTerm_69 rfl (lv_at hl 1 rfl) ?_
          refine lv_iload_n hx hb dX2_readTerm_70 rfl (lv_at hl 0 rfl) ?_
          refine tf_iconst hx hb dX2_readTerm_71 ?_
          refine tf_callv (va_runV (As := [.int (Int32.ofInt y0_54), .int (Int32.ofInt 0)]) (rest := []) ⟨hx, hb, hml, hown, hts⟩ (c_X2_add l g T a0 ha0 (y0_54) ⟨by omega, by omega⟩ (0) ⟨by omega, by omega⟩) (cwV 2 hts gv_X2_93 rfl rfl rfl hd_X2_add ⟨Nat.le_trans (show 1 + 1 ≤ 6 * n + 12 by omega) hR1, Nat.le_trans (show 8 + (3 + 11) + (24) ≤ 90 * n + 225 by omega) hR2⟩) (tf_preV hk hW ha0 (ci := 2) rfl rfl trivial) rfl rfl hl.1 rfl (lv_room (Nat.le_of_ble_eq_true rfl)) dX2_readTerm_72 ⟨Nat.zero_le _, Nat.zero_le _⟩) hW (by decide) (fun H8 locs8 hW hF8 hp8 => ?_)
          have hs9 := tf_keepF hF8 ha0 rfl rfl (by decide) hs5
          have hs10 := tf_keepF hF8 ht0 rfl rfl (by decide) hs6
          refine lv_iinc (v := Int32.ofInt ((x2_12 + 1))) (lv' := [(2, .int (Int32.ofInt ((x2_12 + 1)))), (3, .int (Int32.ofInt y0_54)), (0, .ref a0), (1, .int (Int32.ofInt x1))]) hx hb dX2_readTerm_75 hl (k := 3) rfl (Int32.ofInt_add _ _).symm (by decide) rfl (fun ls hl => ?_)
          refine lv_goto (tgt := 12) hx hb dX2_readTerm_78 (by decide) ?_
          exact ih_12 ⟨by omega, by omega⟩ ((x2_12 + 1)) ⟨by omega, by omega⟩ (by omega) _ _ hW hs9 hs10 _ (lv_sub hl [2, 3, 0] rfl)
        · refine tf_iconst hx hb dX2_readTerm_67 ?_
          exact tf_retz (z := 0) hx hb hr hlocks hQ hW (by omega) (show (0) = 0 ∨ (0) = 1 by omega) dX2_readTerm_68
      have j_39 : 0 ≤ x1 ∧ x1 ≤ 8 → 0 ≤ x2_12 ∧ x2_12 ≤ 400 → ∀ (f5_39 : Int), 1042 ≤ f5_39 ∧ f5_39 ≤ 1047 → ∀ (H : Heap) (locs : List Loc), tf_n tf_kt g M_X2_readTerm T s.heap T H locs → tf_s H a0 (g.1.2 2 3) = some (.ref t0) → tf_s H t0 (g.1.2 4 2) = some (.int (Int32.ofInt ze1)) → tf_s H a0 (g.1.2 2 5) = some (.int (Int32.ofInt f5_39)) → ∀ (ls : Array Slot), lv_has ls 4 [(0, .ref a0), (1, .int (Int32.ofInt x1)), (2, .int (Int32.ofInt x2_12))] → W p l e R s m args below meth c H locs 0 0 Q (F0 m 39 ls []) := by
        intro hx1_39 hx2_39 f5_39 hf5_39 H locs hW hs3_39 hs2_39 hs5_39 ls hl
        refine lv_aload_n hx hb dX2_readTerm_39 rfl (lv_at hl 0 rfl) ?_
        refine tf_get hx hb hts inlX2 hown hK (ci := 2) rfl hW ha0 rfl 5 rfl (by decide) (hts _ fl_X2_32) dX2_readTerm_40 (fun v11 hv11 hsv11 => ?_)
        obtain rfl : v11 = .int (Int32.ofInt f5_39) := Option.some.inj (hsv11.symm.trans hs5_39)
        refine tf_sipush hx hb dX2_readTerm_43 (by decide) ?_
        refine tf_icmp_ne (tgt := 53) hx hb ⟨by omega, by omega⟩ ⟨by decide, by decide⟩ dX2_readTerm_46 (by decide) (fun h12 => ?_) (fun h12 => ?_)
        · refine tf_iconst hx hb dX2_readTerm_53 ?_
          exact j_54 ⟨by omega, by omega⟩ ⟨by omega, by omega⟩ (5) ⟨by omega, by omega⟩ _ _ hW hs3_39 hs2_39 _ (lv_sub hl [0, 1, 2] rfl)
        · refine tf_iconst hx hb dX2_readTerm_49 ?_
          refine lv_goto (tgt := 54) hx hb dX2_readTerm_50 (by decide) ?_
          exact j_54 ⟨by omega, by omega⟩ ⟨by omega, by omega⟩ (4) ⟨by omega, by omega⟩ _ _ hW hs3_39 hs2_39 _ (lv_sub hl [0, 1, 2] rfl)
      refine lv_iload_n hx hb dX2_readTerm_12 rfl (lv_at hl 2 rfl) ?_
      refine tf_sipush hx hb dX2_readTerm_13 (by decide) ?_
      refine tf_icmp_gt (tgt := 81) hx hb ⟨by omega, by omega⟩ ⟨by decide, by decide⟩ dX2_readTerm_16 (by decide) (fun h13 => ?_) (fun h13 => ?_)
      · refine tf_iconst hx hb dX2_readTerm_81 ?_
        exact tf_retz (z := 1) hx hb hr hlocks hQ hW (by omega) (show (1) = 0 ∨ (1) = 1 by omega) dX2_readTerm_82
      · refine lv_aload_n hx hb dX2_readTerm_19 rfl (lv_at hl 0 rfl) ?_
        refine tf_get hx hb hts inlX2 hown hK (ci := 2) rfl hW ha0 rfl 5 rfl (by decide) (hts _ fl_X2_32) dX2_readTerm_20 (fun v14 hv14 hsv14 => ?_)
        obtain ⟨z15, rfl, hz15⟩ := tf_v0 hv14
        refine tf_sipush hx hb dX2_readTerm_23 (by decide) ?_
        refine tf_icmp_eq (tgt := 39) hx hb ⟨by omega, by omega⟩ ⟨by decide, by decide⟩ dX2_readTerm_26 (by decide) (fun h16 => ?_) (fun h16 => ?_)
        · exact j_39 ⟨by omega, by omega⟩ ⟨by omega, by omega⟩ (z15) ⟨by omega, by omega⟩ _ _ hW hs3_12 hs2_12 hsv14 _ (lv_sub hl [0, 1, 2] rfl)
        · refine lv_aload_n hx hb dX2_readTerm_29 rfl (lv_at hl 0 rfl) ?_
          refine tf_get hx hb hts inlX2 hown hK (ci := 2) rfl hW ha0 rfl 5 rfl (by decide) (hts _ fl_X2_32) dX2_readTerm_30 (fun v17 hv17 hsv17 => ?_)
          obtain rfl : v17 = .int (Int32.ofInt z15) := Option.some.inj (hsv17.symm.trans hsv14)
          refine tf_sipush hx hb dX2_readTerm_33 (by decide) ?_
          refine tf_icmp_ne (tgt := 81) hx hb ⟨by omega, by omega⟩ ⟨by decide, by decide⟩ dX2_readTerm_36 (by decide) (fun h18 => ?_) (fun h18 => ?_)
          · refine tf_iconst hx hb dX2_readTerm_81 ?_
            exact tf_retz (z := 1) hx hb hr hlocks hQ hW (by omega) (show (1) = 0 ∨ (1) = 1 by omega) dX2_readTerm_82
          · exact j_39 ⟨by omega, by omega⟩ ⟨by omega, by omega⟩ (z15) ⟨by omega, by omega⟩ _ _ hW hs3_12 hs2_12 hsv14 _ (lv_sub hl [0, 1, 2] rfl)
  refine tf_enter (As := [.ref a0, .int (Int32.ofInt x1)]) hargs (Nat.le_of_ble_eq_true rfl) (fun ls hl => ?_)
  have hl : lv_has ls 4 [(0, .ref a0), (1, .int (Int32.ofInt x1))] := hl
  refine lv_aload_n hx hb dX2_readTerm_0 rfl (lv_at hl 0 rfl) ?_
  refine lv_iload_n hx hb dX2_readTerm_1 rfl (lv_at hl 1 rfl) ?_
  refine tf_calli (va_runV (As := [.int (Int32.ofInt x1)]) (rest := []) ⟨hx, hb, hml, hown, hts⟩ (hP a0 ha0 (x1) ⟨by omega, by omega⟩ t0 ht0 (by omega)) (cwV 1 hts gv_X2_103 rfl rfl rfl hd_X2_readPart ⟨Nat.le_trans (show 6 * n + 10 + 1 ≤ 6 * n + 12 by omega) hR1, Nat.le_trans (show 8 + (4 + 11) + (90 * n + 200) ≤ 90 * n + 225 by omega) hR2⟩) (tf_preV hk hW ha0 (ci := 2) rfl rfl ⟨he0, ⟨_, he1, by omega, by omega⟩⟩) rfl rfl hl.1 rfl (lv_room (Nat.le_of_ble_eq_true rfl)) dX2_readTerm_2 ⟨Nat.zero_le _, Nat.zero_le _⟩) hW (by decide) (fun z19 H19 locs19 hW hF19 hp19 => ?_)
  have hs20 := tf_keepF hF19 ha0 rfl rfl (by decide) he0
  have hs21 := tf_keepF hF19 ht0 rfl rfl (by decide) he1
  have hp19 : z19 = 0 ∨ z19 = 1 := hp19
  refine tf_if_ne (tgt := 10) hx hb ⟨by omega, by omega⟩ dX2_readTerm_5 (by decide) (fun h22 => ?_) (fun h22 => ?_)
  · refine tf_iconst hx hb dX2_readTerm_10 ?_
    refine lv_istore_n (lv' := [(2, .int (Int32.ofInt 0)), (0, .ref a0), (1, .int (Int32.ofInt x1))]) hx hb dX2_readTerm_11 rfl hl (by decide) rfl (fun ls hl => ?_)
    exact j_12 ((401 - 0 + 1 : Int)).toNat ⟨by omega, by omega⟩ (0) ⟨by omega, by omega⟩ (by omega) _ _ hW hs20 hs21 _ (lv_sub hl [1, 2, 0] rfl)
  · refine tf_iconst hx hb dX2_readTerm_8 ?_
    exact tf_retz (z := 0) hx hb hr hlocks hQ hW (by omega) (show (0) = 0 ∨ (0) = 1 by omega) dX2_readTerm_9

set_option maxHeartbeats 4000000 in
set_option maxRecDepth 100000 in
theorem c_X2_readSum (l : Launch) (g : tf_G) (T : tf_T) (n : Nat) (hT : K_X2_readTerm l g T n) : K_X2_readSum l g T n := by
  intro a0 ha0 x1 hp1 t0 ht0 hfu
  refine Met.ofW (cc := cX2_readSum) (maxL := 4) (ret := (some .boolean)) (by decide) rfl ?_
  intro p e s m args below meth c s₁ B hml hv
  obtain ⟨hargs, hk, hW0, hB, hpre⟩ := hv
  obtain ⟨he0, ⟨ze1, he1, hze1⟩⟩ := hpre
  have hx := B.exec
  have hb := B.bytes
  have hr := B.returns
  have hts : ∀ w ∈ wsL_law, w.before args s = true := fun w h => atoms_spec (ws := cd_X2_readSum :: wsL_law) B.pre w (List.mem_cons_of_mem _ h)
  have hown : s.vm.findClass RX2 = some m.cls := findClass_of_methodNamed B.named
  have hlocks := B.notSynchronized
  have hK := hk.1
  have hW := tf_n.start (M := M_X2_readSum) hW0 hB
  obtain ⟨Q, hQ⟩ : ∃ q, q = MQ below (tf_Qi g M_X2_readSum T (fun z _ _ => z = 0 ∨ z = 1)) args s 0 0 (fun q => tf_B g ≤ q) := ⟨_, rfl⟩
  rw [← hQ]
  obtain ⟨R, hR⟩ : ∃ q, q = (headSpec (cd_X2_readSum :: wsL_law) ({ frames := 6 * n + 14, cells := 0, slots := 0, locals := 90 * n + 250 })).room := ⟨_, rfl⟩
  rw [← hR]
  have hR1 : 6 * n + 14 ≤ R.frames := by rw [hR]; exact Nat.le_refl _
  have hR2 : 90 * n + 250 ≤ R.locals := by rw [hR]; exact Nat.le_refl _
  have hR3 : 0 ≤ R.cells := by rw [hR]; exact Nat.le_refl _
  have hR4 : 0 ≤ R.slots := by rw [hR]; exact Nat.le_refl _
  have hin := (name_of_methodNamed B.named B.method).1
  clear hR B
  have j_12 : ∀ (n_12 : Nat), 0 ≤ x1 ∧ x1 ≤ 8 → ∀ (x2_12 : Int), 0 ≤ x2_12 ∧ x2_12 ≤ 401 → (401 - x2_12 + 1 ≤ (n_12 : Int)) → ∀ (H : Heap) (locs : List Loc), tf_n tf_kt g M_X2_readSum T s.heap T H locs → tf_s H a0 (g.1.2 2 3) = some (.ref t0) → tf_s H t0 (g.1.2 4 2) = some (.int (Int32.ofInt ze1)) → ∀ (ls : Array Slot), lv_has ls 4 [(0, .ref a0), (1, .int (Int32.ofInt x1)), (2, .int (Int32.ofInt x2_12))] → W p l e R s m args below meth c H locs 0 0 Q (F0 m 12 ls []) := by
    intro n_12
    induction n_12 with
    | zero =>
      intro hx1_12 x2_12 hx2_12 hm_12
      exfalso; omega
    | succ n_12 ih_12 =>
      intro hx1_12 x2_12 hx2_12 hm_12 H locs hW hs3_12 hs2_12 ls hl
      have j_54 : 0 ≤ x1 ∧ x1 ≤ 8 → 0 ≤ x2_12 ∧ x2_12 ≤ 400 → ∀ (y0_54 : Int), 2 ≤ y0_54 ∧ y0_54 ≤ 3 → ∀ (H : Heap) (locs : List Loc), tf_n tf_kt g M_X2_readSum T s.heap T H locs → tf_s H a0 (g.1.2 2 3) = some (.ref t0) → tf_s H t0 (g.1.2 4 2) = some (.int (Int32.ofInt ze1)) → ∀ (ls : Array Slot), lv_has ls 4 [(0, .ref a0), (1, .int (Int32.ofInt x1)), (2, .int (Int32.ofInt x2_12))] → W p l e R s m args below meth c H locs 0 0 Q (F0 m 54 ls [.int (Int32.ofInt y0_54)]) := by
        intro hx1_54 hx2_54 y0_54 hy0_54 H locs hW hs3_54 hs2_54 ls hl
        refine lv_istore_n (lv' := [(3, .int (Int32.ofInt y0_54)), (0, .ref a0), (1, .int (Int32.ofInt x1)), (2, .int (Int32.ofInt x2_12))]) hx hb dX2_readSum_54 rfl hl (by decide) rfl (fun ls hl => ?_)
        refine lv_aload_n hx hb dX2_readSum_55 rfl (lv_at hl 1 rfl) ?_
        refine tf_callv (va_runV (As := []) (rest := []) ⟨hx, hb, hml, hown, hts⟩ (c_X2_next l g T a0 ha0 t0 ht0) (cwV 0 hts gv_X2_73 rfl rfl rfl hd_X2_next ⟨Nat.le_trans (show 1 + 1 ≤ 6 * n + 14 by omega) hR1, Nat.le_trans (show 8 + (1 + 11) + (40) ≤ 90 * n + 250 by omega) hR2⟩) (tf_preV hk hW ha0 (ci := 2) rfl rfl ⟨hs3_54, ⟨_, hs2_54, by omega, by omega⟩⟩) rfl rfl hl.1 rfl (lv_room (Nat.le_of_ble_eq_true rfl)) dX2_readSum_56 ⟨Nat.zero_le _, Nat.zero_le _⟩) hW (by decide) (fun H1 locs1 hW hF1 hp1 => ?_)
        have hs2 := tf_keepF hF1 ha0 rfl rfl (by decide) hs3_54
        have hs3 := tf_keepF hF1 ht0 rfl rfl (by decide) hs2_54
        refine lv_aload_n hx hb dX2_readSum_59 rfl (lv_at hl 1 rfl) ?_
        refine lv_iload_n hx hb dX2_readSum_60 rfl (lv_at hl 2 rfl) ?_
        refine tf_calli (va_runV (As := [.int (Int32.ofInt x1)]) (rest := []) ⟨hx, hb, hml, hown, hts⟩ (hT a0 ha0 (x1) ⟨by omega, by omega⟩ t0 ht0 (by omega)) (cwV 1 hts gv_X2_100 rfl rfl rfl hd_X2_readTerm ⟨Nat.le_trans (show 6 * n + 12 + 1 ≤ 6 * n + 14 by omega) hR1, Nat.le_trans (show 8 + (4 + 11) + (90 * n + 225) ≤ 90 * n + 250 by omega) hR2⟩) (tf_preV hk hW ha0 (ci := 2) rfl rfl ⟨hs2, ⟨_, hs3, by omega, by omega⟩⟩) rfl rfl hl.1 rfl (lv_room (Nat.le_of_ble_eq_true rfl)) dX2_readSum_61 ⟨Nat.zero_le _, Nat.zero_le _⟩) hW (by decide) (fun z4 H4 locs4 hW hF4 hp4 => ?_)
        have hs5 := tf_keepF hF4 ha0 rfl rfl (by decide) hs2
        have hs6 := tf_keepF hF4 ht0 rfl rfl (by decide) hs3
        have hp4 : z4 = 0 ∨ z4 = 1 := hp4
        refine tf_if_ne (tgt := 69) hx hb ⟨by omega, by omega⟩ dX2_readSum_64 (by decide) (fun h7 => ?_) (fun h7 => ?_)
        · refine lv_aload_n hx hb dX2_readSum_69 rfl (lv_at hl 1 rfl) ?_
          refine lv_iload_n hx hb dX2_readSum_70 rfl (lv_at hl 0 rfl) ?_
          refine tf_iconst hx hb dX2_readSum_71 ?_
          refine tf_callv (va_runV (As := [.int (Int32.ofInt y0_54), .int (Int32.ofInt 0)]) (rest := []) ⟨hx, hb, hml, hown, hts⟩ (c_X2_add l g T a0 ha0 (y0_54) ⟨by omega, by omega⟩ (0) ⟨by omega, by omega⟩) (cwV 2 hts gv_X2_93 rfl rfl rfl hd_X2_add ⟨Nat.le_trans (show 1 + 1 ≤ 6 * n + 14 by omega) hR1, Nat.le_trans (show 8 + (3 + 11) + (24) ≤ 90 * n + 250 by omega) hR2⟩) (tf_preV hk hW ha0 (ci := 2) rfl rfl trivial) rfl rfl hl.1 rfl (lv_room (Nat.le_of_ble_eq_true rfl)) dX2_readSum_72 ⟨Nat.zero_le _, Nat.zero_le _⟩) hW (by decide) (fun H8 locs8 hW hF8 hp8 => ?_)
          have hs9 := tf_keepF hF8 ha0 rfl rfl (by decide) hs5
          have hs10 := tf_keepF hF8 ht0 rfl rfl (by decide) hs6
          refine lv_iinc (v := Int32.ofInt ((x2_12 + 1))) (lv' := [(2, .int (Int32.ofInt ((x2_12 + 1)))), (3, .int (Int32.ofInt y0_54)), (0, .ref a0), (1, .int (Int32.ofInt x1))]) hx hb dX2_readSum_75 hl (k := 3) rfl (Int32.ofInt_add _ _).symm (by decide) rfl (fun ls hl => ?_)
          refine lv_goto (tgt := 12) hx hb dX2_readSum_78 (by decide) ?_
          exact ih_12 ⟨by omega, by omega⟩ ((x2_12 + 1)) ⟨by omega, by omega⟩ (by omega) _ _ hW hs9 hs10 _ (lv_sub hl [2, 3, 0] rfl)
        · refine tf_iconst hx hb dX2_readSum_67 ?_
          exact tf_retz (z := 0) hx hb hr hlocks hQ hW (by omega) (show (0) = 0 ∨ (0) = 1 by omega) dX2_readSum_68
      have j_39 : 0 ≤ x1 ∧ x1 ≤ 8 → 0 ≤ x2_12 ∧ x2_12 ≤ 400 → ∀ (f5_39 : Int), 1043 ≤ f5_39 ∧ f5_39 ≤ 1045 → ∀ (H : Heap) (locs : List Loc), tf_n tf_kt g M_X2_readSum T s.heap T H locs → tf_s H a0 (g.1.2 2 3) = some (.ref t0) → tf_s H t0 (g.1.2 4 2) = some (.int (Int32.ofInt ze1)) → tf_s H a0 (g.1.2 2 5) = some (.int (Int32.ofInt f5_39)) → ∀ (ls : Array Slot), lv_has ls 4 [(0, .ref a0), (1, .int (Int32.ofInt x1)), (2, .int (Int32.ofInt x2_12))] → W p l e R s m args below meth c H locs 0 0 Q (F0 m 39 ls []) := by
        intro hx1_39 hx2_39 f5_39 hf5_39 H locs hW hs3_39 hs2_39 hs5_39 ls hl
        refine lv_aload_n hx hb dX2_readSum_39 rfl (lv_at hl 0 rfl) ?_
        refine tf_get hx hb hts inlX2 hown hK (ci := 2) rfl hW ha0 rfl 5 rfl (by decide) (hts _ fl_X2_32) dX2_readSum_40 (fun v11 hv11 hsv11 => ?_)
        obtain rfl : v11 = .int (Int32.ofInt f5_39) := Option.some.inj (hsv11.symm.trans hs5_39)
        refine tf_sipush hx hb dX2_readSum_43 (by decide) ?_
        refine tf_icmp_ne (tgt := 53) hx hb ⟨by omega, by omega⟩ ⟨by decide, by decide⟩ dX2_readSum_46 (by decide) (fun h12 => ?_) (fun h12 => ?_)
        · refine tf_iconst hx hb dX2_readSum_53 ?_
          exact j_54 ⟨by omega, by omega⟩ ⟨by omega, by omega⟩ (3) ⟨by omega, by omega⟩ _ _ hW hs3_39 hs2_39 _ (lv_sub hl [0, 1, 2] rfl)
        · refine tf_iconst hx hb dX2_readSum_49 ?_
          refine lv_goto (tgt := 54) hx hb dX2_readSum_50 (by decide) ?_
          exact j_54 ⟨by omega, by omega⟩ ⟨by omega, by omega⟩ (2) ⟨by omega, by omega⟩ _ _ hW hs3_39 hs2_39 _ (lv_sub hl [0, 1, 2] rfl)
      refine lv_iload_n hx hb dX2_readSum_12 rfl (lv_at hl 2 rfl) ?_
      refine tf_sipush hx hb dX2_readSum_13 (by decide) ?_
      refine tf_icmp_gt (tgt := 81) hx hb ⟨by omega, by omega⟩ ⟨by decide, by decide⟩ dX2_readSum_16 (by decide) (fun h13 => ?_) (fun h13 => ?_)
      · refine tf_iconst hx hb dX2_readSum_81 ?_
        exact tf_retz (z := 1) hx hb hr hlocks hQ hW (by omega) (show (1) = 0 ∨ (1) = 1 by omega) dX2_readSum_82
      · refine lv_aload_n hx hb dX2_readSum_19 rfl (lv_at hl 0 rfl) ?_
        refine tf_get hx hb hts inlX2 hown hK (ci := 2) rfl hW ha0 rfl 5 rfl (by decide) (hts _ fl_X2_32) dX2_readSum_20 (fun v14 hv14 hsv14 => ?_)
        obtain ⟨z15, rfl, hz15⟩ := tf_v0 hv14
        refine tf_sipush hx hb dX2_readSum_23 (by decide) ?_
        refine tf_icmp_eq (tgt := 39) hx hb ⟨by omega, by omega⟩ ⟨by decide, by decide⟩ dX2_readSum_26 (by decide) (fun h16 => ?_) (fun h16 => ?_)
        · exact j_39 ⟨by omega, by omega⟩ ⟨by omega, by omega⟩ (z15) ⟨by omega, by omega⟩ _ _ hW hs3_12 hs2_12 hsv14 _ (lv_sub hl [0, 1, 2] rfl)
        · refine lv_aload_n hx hb dX2_readSum_29 rfl (lv_at hl 0 rfl) ?_
          refine tf_get hx hb hts inlX2 hown hK (ci := 2) rfl hW ha0 rfl 5 rfl (by decide) (hts _ fl_X2_32) dX2_readSum_30 (fun v17 hv17 hsv17 => ?_)
          obtain rfl : v17 = .int (Int32.ofInt z15) := Option.some.inj (hsv17.symm.trans hsv14)
          refine tf_sipush hx hb dX2_readSum_33 (by decide) ?_
          refine tf_icmp_ne (tgt := 81) hx hb ⟨by omega, by omega⟩ ⟨by decide, by decide⟩ dX2_readSum_36 (by decide) (fun h18 => ?_) (fun h18 => ?_)
          · refine tf_iconst hx hb dX2_readSum_81 ?_
            exact tf_retz (z := 1) hx hb hr hlocks hQ hW (by omega) (show (1) = 0 ∨ (1) = 1 by omega) dX2_readSum_82
          · exact j_39 ⟨by omega, by omega⟩ ⟨by omega, by omega⟩ (z15) ⟨by omega, by omega⟩ _ _ hW hs3_12 hs2_12 hsv14 _ (lv_sub hl [0, 1, 2] rfl)
  refine tf_enter (As := [.ref a0, .int (Int32.ofInt x1)]) hargs (Nat.le_of_ble_eq_true rfl) (fun ls hl => ?_)
  have hl : lv_has ls 4 [(0, .ref a0), (1, .int (Int32.ofInt x1))] := hl
  refine lv_aload_n hx hb dX2_readSum_0 rfl (lv_at hl 0 rfl) ?_
  refine lv_iload_n hx hb dX2_readSum_1 rfl (lv_at hl 1 rfl) ?_
  refine tf_calli (va_runV (As := [.int (Int32.ofInt x1)]) (rest := []) ⟨hx, hb, hml, hown, hts⟩ (hT a0 ha0 (x1) ⟨by omega, by omega⟩ t0 ht0 (by omega)) (cwV 1 hts gv_X2_100 rfl rfl rfl hd_X2_readTerm ⟨Nat.le_trans (show 6 * n + 12 + 1 ≤ 6 * n + 14 by omega) hR1, Nat.le_trans (show 8 + (4 + 11) + (90 * n + 225) ≤ 90 * n + 250 by omega) hR2⟩) (tf_preV hk hW ha0 (ci := 2) rfl rfl ⟨he0, ⟨_, he1, by omega, by omega⟩⟩) rfl rfl hl.1 rfl (lv_room (Nat.le_of_ble_eq_true rfl)) dX2_readSum_2 ⟨Nat.zero_le _, Nat.zero_le _⟩) hW (by decide) (fun z19 H19 locs19 hW hF19 hp19 => ?_)
  have hs20 := tf_keepF hF19 ha0 rfl rfl (by decide) he0
  have hs21 := tf_keepF hF19 ht0 rfl rfl (by decide) he1
  have hp19 : z19 = 0 ∨ z19 = 1 := hp19
  refine tf_if_ne (tgt := 10) hx hb ⟨by omega, by omega⟩ dX2_readSum_5 (by decide) (fun h22 => ?_) (fun h22 => ?_)
  · refine tf_iconst hx hb dX2_readSum_10 ?_
    refine lv_istore_n (lv' := [(2, .int (Int32.ofInt 0)), (0, .ref a0), (1, .int (Int32.ofInt x1))]) hx hb dX2_readSum_11 rfl hl (by decide) rfl (fun ls hl => ?_)
    exact j_12 ((401 - 0 + 1 : Int)).toNat ⟨by omega, by omega⟩ (0) ⟨by omega, by omega⟩ (by omega) _ _ hW hs20 hs21 _ (lv_sub hl [1, 2, 0] rfl)
  · refine tf_iconst hx hb dX2_readSum_8 ?_
    exact tf_retz (z := 0) hx hb hr hlocks hQ hW (by omega) (show (0) = 0 ∨ (0) = 1 by omega) dX2_readSum_9

set_option maxHeartbeats 4000000 in
set_option maxRecDepth 100000 in
theorem c_X2_readComparison (l : Launch) (g : tf_G) (T : tf_T) (n : Nat) (hS : K_X2_readSum l g T n) : K_X2_readComparison l g T n := by
  intro a0 ha0 x1 hp1 t0 ht0 hfu
  refine Met.ofW (cc := cX2_readComparison) (maxL := 3) (ret := (some .boolean)) (by decide) rfl ?_
  intro p e s m args below meth c s₁ B hml hv
  obtain ⟨hargs, hk, hW0, hB, hpre⟩ := hv
  obtain ⟨he0, ⟨ze1, he1, hze1⟩⟩ := hpre
  have hx := B.exec
  have hb := B.bytes
  have hr := B.returns
  have hts : ∀ w ∈ wsL_law, w.before args s = true := fun w h => atoms_spec (ws := cd_X2_readComparison :: wsL_law) B.pre w (List.mem_cons_of_mem _ h)
  have hown : s.vm.findClass RX2 = some m.cls := findClass_of_methodNamed B.named
  have hlocks := B.notSynchronized
  have hK := hk.1
  have hW := tf_n.start (M := M_X2_readComparison) hW0 hB
  obtain ⟨Q, hQ⟩ : ∃ q, q = MQ below (tf_Qi g M_X2_readComparison T (fun z _ _ => z = 0 ∨ z = 1)) args s 0 0 (fun q => tf_B g ≤ q) := ⟨_, rfl⟩
  rw [← hQ]
  obtain ⟨R, hR⟩ : ∃ q, q = (headSpec (cd_X2_readComparison :: wsL_law) ({ frames := 6 * n + 16, cells := 0, slots := 0, locals := 90 * n + 275 })).room := ⟨_, rfl⟩
  rw [← hR]
  have hR1 : 6 * n + 16 ≤ R.frames := by rw [hR]; exact Nat.le_refl _
  have hR2 : 90 * n + 275 ≤ R.locals := by rw [hR]; exact Nat.le_refl _
  have hR3 : 0 ≤ R.cells := by rw [hR]; exact Nat.le_refl _
  have hR4 : 0 ≤ R.slots := by rw [hR]; exact Nat.le_refl _
  have hin := (name_of_methodNamed B.named B.method).1
  clear hR B
  have j_63 : 0 ≤ x1 ∧ x1 ≤ 8 → ∀ (x2_63 : Int), 6 ≤ x2_63 ∧ x2_63 ≤ 8 → ∀ (H : Heap) (locs : List Loc), tf_n tf_kt g M_X2_readComparison T s.heap T H locs → tf_s H a0 (g.1.2 2 3) = some (.ref t0) → tf_s H t0 (g.1.2 4 2) = some (.int (Int32.ofInt ze1)) → ∀ (ls : Array Slot), lv_has ls 3 [(0, .ref a0), (1, .int (Int32.ofInt x1)), (2, .int (Int32.ofInt x2_63))] → W p l e R s m args below meth c H locs 0 0 Q (F0 m 63 ls []) := by
    intro hx1_63 x2_63 hx2_63 H locs hW hs3_63 hs2_63 ls hl
    refine lv_aload_n hx hb dX2_readComparison_63 rfl (lv_at hl 0 rfl) ?_
    refine tf_callv (va_runV (As := []) (rest := []) ⟨hx, hb, hml, hown, hts⟩ (c_X2_next l g T a0 ha0 t0 ht0) (cwV 0 hts gv_X2_73 rfl rfl rfl hd_X2_next ⟨Nat.le_trans (show 1 + 1 ≤ 6 * n + 16 by omega) hR1, Nat.le_trans (show 8 + (1 + 11) + (40) ≤ 90 * n + 275 by omega) hR2⟩) (tf_preV hk hW ha0 (ci := 2) rfl rfl ⟨hs3_63, ⟨_, hs2_63, by omega, by omega⟩⟩) rfl rfl hl.1 rfl (lv_room (Nat.le_of_ble_eq_true rfl)) dX2_readComparison_64 ⟨Nat.zero_le _, Nat.zero_le _⟩) hW (by decide) (fun H1 locs1 hW hF1 hp1 => ?_)
    have hs2 := tf_keepF hF1 ha0 rfl rfl (by decide) hs3_63
    have hs3 := tf_keepF hF1 ht0 rfl rfl (by decide) hs2_63
    refine lv_aload_n hx hb dX2_readComparison_67 rfl (lv_at hl 0 rfl) ?_
    refine lv_iload_n hx hb dX2_readComparison_68 rfl (lv_at hl 1 rfl) ?_
    refine tf_calli (va_runV (As := [.int (Int32.ofInt x1)]) (rest := []) ⟨hx, hb, hml, hown, hts⟩ (hS a0 ha0 (x1) ⟨by omega, by omega⟩ t0 ht0 (by omega)) (cwV 1 hts gv_X2_70 rfl rfl rfl hd_X2_readSum ⟨Nat.le_trans (show 6 * n + 14 + 1 ≤ 6 * n + 16 by omega) hR1, Nat.le_trans (show 8 + (4 + 11) + (90 * n + 250) ≤ 90 * n + 275 by omega) hR2⟩) (tf_preV hk hW ha0 (ci := 2) rfl rfl ⟨hs2, ⟨_, hs3, by omega, by omega⟩⟩) rfl rfl hl.1 rfl (lv_room (Nat.le_of_ble_eq_true rfl)) dX2_readComparison_69 ⟨Nat.zero_le _, Nat.zero_le _⟩) hW (by decide) (fun z4 H4 locs4 hW hF4 hp4 => ?_)
    have hs5 := tf_keepF hF4 ha0 rfl rfl (by decide) hs2
    have hs6 := tf_keepF hF4 ht0 rfl rfl (by decide) hs3
    have hp4 : z4 = 0 ∨ z4 = 1 := hp4
    refine tf_if_ne (tgt := 77) hx hb ⟨by omega, by omega⟩ dX2_readComparison_72 (by decide) (fun h7 => ?_) (fun h7 => ?_)
    · refine lv_aload_n hx hb dX2_readComparison_77 rfl (lv_at hl 0 rfl) ?_
      refine lv_iload_n hx hb dX2_readComparison_78 rfl (lv_at hl 2 rfl) ?_
      refine tf_iconst hx hb dX2_readComparison_79 ?_
      refine tf_callv (va_runV (As := [.int (Int32.ofInt x2_63), .int (Int32.ofInt 0)]) (rest := []) ⟨hx, hb, hml, hown, hts⟩ (c_X2_add l g T a0 ha0 (x2_63) ⟨by omega, by omega⟩ (0) ⟨by omega, by omega⟩) (cwV 2 hts gv_X2_93 rfl rfl rfl hd_X2_add ⟨Nat.le_trans (show 1 + 1 ≤ 6 * n + 16 by omega) hR1, Nat.le_trans (show 8 + (3 + 11) + (24) ≤ 90 * n + 275 by omega) hR2⟩) (tf_preV hk hW ha0 (ci := 2) rfl rfl trivial) rfl rfl hl.1 rfl (lv_room (Nat.le_of_ble_eq_true rfl)) dX2_readComparison_80 ⟨Nat.zero_le _, Nat.zero_le _⟩) hW (by decide) (fun H8 locs8 hW hF8 hp8 => ?_)
      have hs9 := tf_keepF hF8 ha0 rfl rfl (by decide) hs5
      have hs10 := tf_keepF hF8 ht0 rfl rfl (by decide) hs6
      refine tf_iconst hx hb dX2_readComparison_83 ?_
      exact tf_retz (z := 1) hx hb hr hlocks hQ hW (by omega) (show (1) = 0 ∨ (1) = 1 by omega) dX2_readComparison_84
    · refine tf_iconst hx hb dX2_readComparison_75 ?_
      exact tf_retz (z := 0) hx hb hr hlocks hQ hW (by omega) (show (0) = 0 ∨ (0) = 1 by omega) dX2_readComparison_76
  refine tf_enter (As := [.ref a0, .int (Int32.ofInt x1)]) hargs (Nat.le_of_ble_eq_true rfl) (fun ls hl => ?_)
  have hl : lv_has ls 3 [(0, .ref a0), (1, .int (Int32.ofInt x1))] := hl
  refine lv_aload_n hx hb dX2_readComparison_0 rfl (lv_at hl 0 rfl) ?_
  refine lv_iload_n hx hb dX2_readComparison_1 rfl (lv_at hl 1 rfl) ?_
  refine tf_calli (va_runV (As := [.int (Int32.ofInt x1)]) (rest := []) ⟨hx, hb, hml, hown, hts⟩ (hS a0 ha0 (x1) ⟨by omega, by omega⟩ t0 ht0 (by omega)) (cwV 1 hts gv_X2_70 rfl rfl rfl hd_X2_readSum ⟨Nat.le_trans (show 6 * n + 14 + 1 ≤ 6 * n + 16 by omega) hR1, Nat.le_trans (show 8 + (4 + 11) + (90 * n + 250) ≤ 90 * n + 275 by omega) hR2⟩) (tf_preV hk hW ha0 (ci := 2) rfl rfl ⟨he0, ⟨_, he1, by omega, by omega⟩⟩) rfl rfl hl.1 rfl (lv_room (Nat.le_of_ble_eq_true rfl)) dX2_readComparison_2 ⟨Nat.zero_le _, Nat.zero_le _⟩) hW (by decide) (fun z11 H11 locs11 hW hF11 hp11 => ?_)
  have hs12 := tf_keepF hF11 ha0 rfl rfl (by decide) he0
  have hs13 := tf_keepF hF11 ht0 rfl rfl (by decide) he1
  have hp11 : z11 = 0 ∨ z11 = 1 := hp11
  refine tf_if_ne (tgt := 10) hx hb ⟨by omega, by omega⟩ dX2_readComparison_5 (by decide) (fun h14 => ?_) (fun h14 => ?_)
  · refine lv_aload_n hx hb dX2_readComparison_10 rfl (lv_at hl 0 rfl) ?_
    refine tf_get hx hb hts inlX2 hown hK (ci := 2) rfl hW ha0 rfl 5 rfl (by decide) (hts _ fl_X2_32) dX2_readComparison_11 (fun v15 hv15 hsv15 => ?_)
    obtain ⟨z16, rfl, hz16⟩ := tf_v0 hv15
    refine tf_sipush hx hb dX2_readComparison_14 (by decide) ?_
    refine tf_icmp_ne (tgt := 26) hx hb ⟨by omega, by omega⟩ ⟨by decide, by decide⟩ dX2_readComparison_17 (by decide) (fun h17 => ?_) (fun h17 => ?_)
    · refine lv_aload_n hx hb dX2_readComparison_26 rfl (lv_at hl 0 rfl) ?_
      refine tf_get hx hb hts inlX2 hown hK (ci := 2) rfl hW ha0 rfl 5 rfl (by decide) (hts _ fl_X2_32) dX2_readComparison_27 (fun v18 hv18 hsv18 => ?_)
      obtain rfl : v18 = .int (Int32.ofInt z16) := Option.some.inj (hsv18.symm.trans hsv15)
      refine tf_sipush hx hb dX2_readComparison_30 (by decide) ?_
      refine tf_icmp_ne (tgt := 42) hx hb ⟨by omega, by omega⟩ ⟨by decide, by decide⟩ dX2_readComparison_33 (by decide) (fun h19 => ?_) (fun h19 => ?_)
      · refine lv_aload_n hx hb dX2_readComparison_42 rfl (lv_at hl 0 rfl) ?_
        refine tf_get hx hb hts inlX2 hown hK (ci := 2) rfl hW ha0 rfl 5 rfl (by decide) (hts _ fl_X2_32) dX2_readComparison_43 (fun v20 hv20 hsv20 => ?_)
        obtain rfl : v20 = .int (Int32.ofInt z16) := Option.some.inj (hsv20.symm.trans hsv15)
        refine tf_sipush hx hb dX2_readComparison_46 (by decide) ?_
        refine tf_icmp_ne (tgt := 58) hx hb ⟨by omega, by omega⟩ ⟨by decide, by decide⟩ dX2_readComparison_49 (by decide) (fun h21 => ?_) (fun h21 => ?_)
        · refine lv_aload_n hx hb dX2_readComparison_58 rfl (lv_at hl 0 rfl) ?_
          refine tf_calli (va_runV (As := []) (rest := []) ⟨hx, hb, hml, hown, hts⟩ (c_X2_failHere l g T a0 ha0) (cwV 0 hts gv_X2_66 rfl rfl rfl hd_X2_failHere ⟨Nat.le_trans (show 1 + 1 ≤ 6 * n + 16 by omega) hR1, Nat.le_trans (show 8 + (1 + 11) + (24) ≤ 90 * n + 275 by omega) hR2⟩) (tf_preV hk hW ha0 (ci := 2) rfl rfl trivial) rfl rfl hl.1 rfl (lv_room (Nat.le_of_ble_eq_true rfl)) dX2_readComparison_59 ⟨Nat.zero_le _, Nat.zero_le _⟩) hW (by decide) (fun z22 H22 locs22 hW hF22 hp22 => ?_)
          have hs23 := tf_keepF hF22 ha0 rfl rfl (by decide) hs12
          have hs24 := tf_keepF hF22 ht0 rfl rfl (by decide) hs13
          have hs25 := tf_keepF hF22 ha0 rfl rfl (by decide) hsv15
          have hp22 : z22 = 0 ∨ z22 = 1 := hp22
          exact tf_retz (z := z22) hx hb hr hlocks hQ hW (by omega) (show (z22) = 0 ∨ (z22) = 1 by omega) dX2_readComparison_62
        · refine tf_bipush hx hb dX2_readComparison_52 (by decide) ?_
          refine lv_istore_n (lv' := [(2, .int (Int32.ofInt 8)), (0, .ref a0), (1, .int (Int32.ofInt x1))]) hx hb dX2_readComparison_54 rfl hl (by decide) rfl (fun ls hl => ?_)
          refine lv_goto (tgt := 63) hx hb dX2_readComparison_55 (by decide) ?_
          exact j_63 ⟨by omega, by omega⟩ (8) ⟨by omega, by omega⟩ _ _ hW hs12 hs13 _ (lv_sub hl [1, 2, 0] rfl)
      · refine tf_bipush hx hb dX2_readComparison_36 (by decide) ?_
        refine lv_istore_n (lv' := [(2, .int (Int32.ofInt 7)), (0, .ref a0), (1, .int (Int32.ofInt x1))]) hx hb dX2_readComparison_38 rfl hl (by decide) rfl (fun ls hl => ?_)
        refine lv_goto (tgt := 63) hx hb dX2_readComparison_39 (by decide) ?_
        exact j_63 ⟨by omega, by omega⟩ (7) ⟨by omega, by omega⟩ _ _ hW hs12 hs13 _ (lv_sub hl [1, 2, 0] rfl)
    · refine tf_bipush hx hb dX2_readComparison_20 (by decide) ?_
      refine lv_istore_n (lv' := [(2, .int (Int32.ofInt 6)), (0, .ref a0), (1, .int (Int32.ofInt x1))]) hx hb dX2_readComparison_22 rfl hl (by decide) rfl (fun ls hl => ?_)
      refine lv_goto (tgt := 63) hx hb dX2_readComparison_23 (by decide) ?_
      exact j_63 ⟨by omega, by omega⟩ (6) ⟨by omega, by omega⟩ _ _ hW hs12 hs13 _ (lv_sub hl [1, 2, 0] rfl)
  · refine tf_iconst hx hb dX2_readComparison_8 ?_
    exact tf_retz (z := 0) hx hb hr hlocks hQ hW (by omega) (show (0) = 0 ∨ (0) = 1 by omega) dX2_readComparison_9

set_option maxHeartbeats 4000000 in
set_option maxRecDepth 100000 in
theorem c_X2_readPlain (l : Launch) (g : tf_G) (T : tf_T) (n : Nat) (hT : ∀ n1, n = n1 + 1 → K_X2_readTest l g T n1) (hC : K_X2_readComparison l g T n) : K_X2_readPlain l g T n := by
  intro a0 ha0 x1 hp1 t0 ht0 hfu
  refine Met.ofW (cc := cX2_readPlain) (maxL := 3) (ret := (some .boolean)) (by decide) rfl ?_
  intro p e s m args below meth c s₁ B hml hv
  obtain ⟨hargs, hk, hW0, hB, hpre⟩ := hv
  obtain ⟨he0, ⟨ze1, he1, hze1⟩⟩ := hpre
  have hx := B.exec
  have hb := B.bytes
  have hr := B.returns
  have hts : ∀ w ∈ wsL_law, w.before args s = true := fun w h => atoms_spec (ws := cd_X2_readPlain :: wsL_law) B.pre w (List.mem_cons_of_mem _ h)
  have hown : s.vm.findClass RX2 = some m.cls := findClass_of_methodNamed B.named
  have hlocks := B.notSynchronized
  have hK := hk.1
  have hW := tf_n.start (M := M_X2_readPlain) hW0 hB
  obtain ⟨Q, hQ⟩ : ∃ q, q = MQ below (tf_Qi g M_X2_readPlain T (fun z _ _ => z = 0 ∨ z = 1)) args s 0 0 (fun q => tf_B g ≤ q) := ⟨_, rfl⟩
  rw [← hQ]
  obtain ⟨R, hR⟩ : ∃ q, q = (headSpec (cd_X2_readPlain :: wsL_law) ({ frames := 6 * n + 18, cells := 0, slots := 0, locals := 90 * n + 300 })).room := ⟨_, rfl⟩
  rw [← hR]
  have hR1 : 6 * n + 18 ≤ R.frames := by rw [hR]; exact Nat.le_refl _
  have hR2 : 90 * n + 300 ≤ R.locals := by rw [hR]; exact Nat.le_refl _
  have hR3 : 0 ≤ R.cells := by rw [hR]; exact Nat.le_refl _
  have hR4 : 0 ≤ R.slots := by rw [hR]; exact Nat.le_refl _
  have hin := (name_of_methodNamed B.named B.method).1
  clear hR B
  have j_84 : ∀ (x2_84 : Int), 0 ≤ x2_84 ∧ x2_84 ≤ 401 → ∀ (H : Heap) (locs : List Loc), tf_n tf_kt g M_X2_readPlain T s.heap T H locs → ∀ (ls : Array Slot), lv_has ls 3 [(0, .ref a0), (2, .int (Int32.ofInt x2_84))] → W p l e R s m args below meth c H locs 0 0 Q (F0 m 84 ls []) := by
    intro x2_84 hx2_84 H locs hW  ls hl
    refine lv_iload_n hx hb dX2_readPlain_84 rfl (lv_at hl 1 rfl) ?_
    refine tf_iconst hx hb dX2_readPlain_85 ?_
    refine tf_irem hx hb ⟨by omega, by omega⟩ (by omega) ⟨by decide, by decide⟩ (by decide) dX2_readPlain_86 ?_
    refine tf_name (fun z1 ez1 => ?_)
    refine tf_iconst hx hb dX2_readPlain_87 ?_
    refine tf_icmp_ne (tgt := 98) hx hb ⟨by omega, by omega⟩ ⟨by decide, by decide⟩ dX2_readPlain_88 (by decide) (fun h2 => ?_) (fun h2 => ?_)
    · refine tf_iconst hx hb dX2_readPlain_98 ?_
      exact tf_retz (z := 1) hx hb hr hlocks hQ hW (by omega) (show (1) = 0 ∨ (1) = 1 by omega) dX2_readPlain_99
    · refine lv_aload_n hx hb dX2_readPlain_91 rfl (lv_at hl 0 rfl) ?_
      refine tf_bipush hx hb dX2_readPlain_92 (by decide) ?_
      refine tf_iconst hx hb dX2_readPlain_94 ?_
      refine tf_callv (va_runV (As := [.int (Int32.ofInt 9), .int (Int32.ofInt 0)]) (rest := []) ⟨hx, hb, hml, hown, hts⟩ (c_X2_add l g T a0 ha0 (9) ⟨by omega, by omega⟩ (0) ⟨by omega, by omega⟩) (cwV 2 hts gv_X2_93 rfl rfl rfl hd_X2_add ⟨Nat.le_trans (show 1 + 1 ≤ 6 * n + 18 by omega) hR1, Nat.le_trans (show 8 + (3 + 11) + (24) ≤ 90 * n + 300 by omega) hR2⟩) (tf_preV hk hW ha0 (ci := 2) rfl rfl trivial) rfl rfl hl.1 rfl (lv_room (Nat.le_of_ble_eq_true rfl)) dX2_readPlain_95 ⟨Nat.zero_le _, Nat.zero_le _⟩) hW (by decide) (fun H3 locs3 hW hF3 hp3 => ?_)
      refine tf_iconst hx hb dX2_readPlain_98 ?_
      exact tf_retz (z := 1) hx hb hr hlocks hQ hW (by omega) (show (1) = 0 ∨ (1) = 1 by omega) dX2_readPlain_99
  have j_27 : 0 ≤ x1 ∧ x1 ≤ 8 → ∀ (x2_27 : Int), 0 ≤ x2_27 ∧ x2_27 ≤ 401 → ∀ (f5_27 : Int), (-2147483648) ≤ f5_27 ∧ f5_27 ≤ 2147483647 → ∀ (H : Heap) (locs : List Loc), tf_n tf_kt g M_X2_readPlain T s.heap T H locs → tf_s H a0 (g.1.2 2 3) = some (.ref t0) → tf_s H t0 (g.1.2 4 2) = some (.int (Int32.ofInt ze1)) → tf_s H a0 (g.1.2 2 5) = some (.int (Int32.ofInt f5_27)) → ∀ (ls : Array Slot), lv_has ls 3 [(0, .ref a0), (1, .int (Int32.ofInt x1)), (2, .int (Int32.ofInt x2_27))] → W p l e R s m args below meth c H locs 0 0 Q (F0 m 27 ls []) := by
    intro hx1_27 x2_27 hx2_27 f5_27 hf5_27 H locs hW hs3_27 hs2_27 hs5_27 ls hl
    refine lv_aload_n hx hb dX2_readPlain_27 rfl (lv_at hl 0 rfl) ?_
    refine tf_get hx hb hts inlX2 hown hK (ci := 2) rfl hW ha0 rfl 5 rfl (by decide) (hts _ fl_X2_32) dX2_readPlain_28 (fun v4 hv4 hsv4 => ?_)
    obtain rfl : v4 = .int (Int32.ofInt f5_27) := Option.some.inj (hsv4.symm.trans hs5_27)
    refine tf_sipush hx hb dX2_readPlain_31 (by decide) ?_
    refine tf_icmp_ne (tgt := 74) hx hb ⟨by omega, by omega⟩ ⟨by decide, by decide⟩ dX2_readPlain_34 (by decide) (fun h5 => ?_) (fun h5 => ?_)
    · refine lv_aload_n hx hb dX2_readPlain_74 rfl (lv_at hl 0 rfl) ?_
      refine lv_iload_n hx hb dX2_readPlain_75 rfl (lv_at hl 1 rfl) ?_
      refine tf_calli (va_runV (As := [.int (Int32.ofInt x1)]) (rest := []) ⟨hx, hb, hml, hown, hts⟩ (hC a0 ha0 (x1) ⟨by omega, by omega⟩ t0 ht0 (by omega)) (cwV 1 hts gv_X2_97 rfl rfl rfl hd_X2_readComparison ⟨Nat.le_trans (show 6 * n + 16 + 1 ≤ 6 * n + 18 by omega) hR1, Nat.le_trans (show 8 + (3 + 11) + (90 * n + 275) ≤ 90 * n + 300 by omega) hR2⟩) (tf_preV hk hW ha0 (ci := 2) rfl rfl ⟨hs3_27, ⟨_, hs2_27, by omega, by omega⟩⟩) rfl rfl hl.1 rfl (lv_room (Nat.le_of_ble_eq_true rfl)) dX2_readPlain_76 ⟨Nat.zero_le _, Nat.zero_le _⟩) hW (by decide) (fun z6 H6 locs6 hW hF6 hp6 => ?_)
      have hs7 := tf_keepF hF6 ha0 rfl rfl (by decide) hs3_27
      have hs8 := tf_keepF hF6 ht0 rfl rfl (by decide) hs2_27
      have hp6 : z6 = 0 ∨ z6 = 1 := hp6
      refine tf_if_ne (tgt := 84) hx hb ⟨by omega, by omega⟩ dX2_readPlain_79 (by decide) (fun h9 => ?_) (fun h9 => ?_)
      · exact j_84 (x2_27) ⟨by omega, by omega⟩ _ _ hW  _ (lv_sub hl [0, 2] rfl)
      · refine tf_iconst hx hb dX2_readPlain_82 ?_
        exact tf_retz (z := 0) hx hb hr hlocks hQ hW (by omega) (show (0) = 0 ∨ (0) = 1 by omega) dX2_readPlain_83
    · refine lv_iload_n hx hb dX2_readPlain_37 rfl (lv_at hl 1 rfl) ?_
      refine tf_bipush hx hb dX2_readPlain_38 (by decide) ?_
      refine tf_icmp_lt (tgt := 48) hx hb ⟨by omega, by omega⟩ ⟨by decide, by decide⟩ dX2_readPlain_40 (by decide) (fun h10 => ?_) (fun h10 => ?_)
      · refine lv_aload_n hx hb dX2_readPlain_48 rfl (lv_at hl 0 rfl) ?_
        refine tf_callv (va_runV (As := []) (rest := []) ⟨hx, hb, hml, hown, hts⟩ (c_X2_next l g T a0 ha0 t0 ht0) (cwV 0 hts gv_X2_73 rfl rfl rfl hd_X2_next ⟨Nat.le_trans (show 1 + 1 ≤ 6 * n + 18 by omega) hR1, Nat.le_trans (show 8 + (1 + 11) + (40) ≤ 90 * n + 300 by omega) hR2⟩) (tf_preV hk hW ha0 (ci := 2) rfl rfl ⟨hs3_27, ⟨_, hs2_27, by omega, by omega⟩⟩) rfl rfl hl.1 rfl (lv_room (Nat.le_of_ble_eq_true rfl)) dX2_readPlain_49 ⟨Nat.zero_le _, Nat.zero_le _⟩) hW (by decide) (fun H11 locs11 hW hF11 hp11 => ?_)
        have hs12 := tf_keepF hF11 ha0 rfl rfl (by decide) hs3_27
        have hs13 := tf_keepF hF11 ht0 rfl rfl (by decide) hs2_27
        refine lv_aload_n hx hb dX2_readPlain_52 rfl (lv_at hl 0 rfl) ?_
        refine lv_iload_n hx hb dX2_readPlain_53 rfl (lv_at hl 1 rfl) ?_
        refine tf_iconst hx hb dX2_readPlain_54 ?_
        refine tf_iadd hx hb dX2_readPlain_55 ?_
        obtain ⟨n1, hn1⟩ : ∃ n1, n = n1 + 1 := ⟨n - 1, by omega⟩
        refine tf_calli (va_runV (As := [.int (Int32.ofInt ((x1 + 1)))]) (rest := []) ⟨hx, hb, hml, hown, hts⟩ (hT n1 hn1 a0 ha0 ((x1 + 1)) ⟨by omega, by omega⟩ t0 ht0 (by omega)) (cwV 1 hts gv_X2_76 rfl rfl rfl hd_X2_readTest ⟨Nat.le_trans (show 6 * n1 + 22 + 1 ≤ 6 * n + 18 by omega) hR1, Nat.le_trans (show 8 + (4 + 11) + (90 * n1 + 350) ≤ 90 * n + 300 by omega) hR2⟩) (tf_preV hk hW ha0 (ci := 2) rfl rfl ⟨hs12, ⟨_, hs13, by omega, by omega⟩⟩) rfl rfl hl.1 rfl (lv_room (Nat.le_of_ble_eq_true rfl)) dX2_readPlain_56 ⟨Nat.zero_le _, Nat.zero_le _⟩) hW (by decide) (fun z14 H14 locs14 hW hF14 hp14 => ?_)
        have hs15 := tf_keepF hF14 ha0 rfl rfl (by decide) hs12
        have hs16 := tf_keepF hF14 ht0 rfl rfl (by decide) hs13
        have hp14 : z14 = 0 ∨ z14 = 1 := hp14
        refine tf_if_eq (tgt := 72) hx hb ⟨by omega, by omega⟩ dX2_readPlain_59 (by decide) (fun h17 => ?_) (fun h17 => ?_)
        · refine tf_iconst hx hb dX2_readPlain_72 ?_
          exact tf_retz (z := 0) hx hb hr hlocks hQ hW (by omega) (show (0) = 0 ∨ (0) = 1 by omega) dX2_readPlain_73
        · refine lv_aload_n hx hb dX2_readPlain_62 rfl (lv_at hl 0 rfl) ?_
          refine tf_sipush hx hb dX2_readPlain_63 (by decide) ?_
          refine tf_calli (va_runV (As := [.int (Int32.ofInt 1041)]) (rest := []) ⟨hx, hb, hml, hown, hts⟩ (c_X2_pass l g T a0 ha0 (1041) ⟨by omega, by omega⟩ t0 ht0) (cwV 1 hts gv_X2_63 rfl rfl rfl hd_X2_pass ⟨Nat.le_trans (show 2 + 1 ≤ 6 * n + 18 by omega) hR1, Nat.le_trans (show 8 + (2 + 11) + (60) ≤ 90 * n + 300 by omega) hR2⟩) (tf_preV hk hW ha0 (ci := 2) rfl rfl ⟨hs15, ⟨_, hs16, by omega, by omega⟩⟩) rfl rfl hl.1 rfl (lv_room (Nat.le_of_ble_eq_true rfl)) dX2_readPlain_66 ⟨Nat.zero_le _, Nat.zero_le _⟩) hW (by decide) (fun z18 H18 locs18 hW hF18 hp18 => ?_)
          have hs19 := tf_keepF hF18 ha0 rfl rfl (by decide) hs15
          have hs20 := tf_keepF hF18 ht0 rfl rfl (by decide) hs16
          have hp18 : z18 = 0 ∨ z18 = 1 := hp18
          refine tf_if_ne (tgt := 84) hx hb ⟨by omega, by omega⟩ dX2_readPlain_69 (by decide) (fun h21 => ?_) (fun h21 => ?_)
          · exact j_84 (x2_27) ⟨by omega, by omega⟩ _ _ hW  _ (lv_sub hl [0, 2] rfl)
          · refine tf_iconst hx hb dX2_readPlain_72 ?_
            exact tf_retz (z := 0) hx hb hr hlocks hQ hW (by omega) (show (0) = 0 ∨ (0) = 1 by omega) dX2_readPlain_73
      · refine lv_aload_n hx hb dX2_readPlain_43 rfl (lv_at hl 0 rfl) ?_
        refine tf_calli (va_runV (As := []) (rest := []) ⟨hx, hb, hml, hown, hts⟩ (c_X2_failHere l g T a0 ha0) (cwV 0 hts gv_X2_66 rfl rfl rfl hd_X2_failHere ⟨Nat.le_trans (show 1 + 1 ≤ 6 * n + 18 by omega) hR1, Nat.le_trans (show 8 + (1 + 11) + (24) ≤ 90 * n + 300 by omega) hR2⟩) (tf_preV hk hW ha0 (ci := 2) rfl rfl trivial) rfl rfl hl.1 rfl (lv_room (Nat.le_of_ble_eq_true rfl)) dX2_readPlain_44 ⟨Nat.zero_le _, Nat.zero_le _⟩) hW (by decide) (fun z22 H22 locs22 hW hF22 hp22 => ?_)
        have hs23 := tf_keepF hF22 ha0 rfl rfl (by decide) hs3_27
        have hs24 := tf_keepF hF22 ht0 rfl rfl (by decide) hs2_27
        have hs25 := tf_keepF hF22 ha0 rfl rfl (by decide) hs5_27
        have hp22 : z22 = 0 ∨ z22 = 1 := hp22
        exact tf_retz (z := z22) hx hb hr hlocks hQ hW (by omega) (show (z22) = 0 ∨ (z22) = 1 by omega) dX2_readPlain_47
  have j_2 : ∀ (n_2 : Nat), 0 ≤ x1 ∧ x1 ≤ 8 → ∀ (x2_2 : Int), 0 ≤ x2_2 ∧ x2_2 ≤ 401 → (401 - x2_2 + 1 ≤ (n_2 : Int)) → ∀ (H : Heap) (locs : List Loc), tf_n tf_kt g M_X2_readPlain T s.heap T H locs → tf_s H a0 (g.1.2 2 3) = some (.ref t0) → tf_s H t0 (g.1.2 4 2) = some (.int (Int32.ofInt ze1)) → ∀ (ls : Array Slot), lv_has ls 3 [(0, .ref a0), (1, .int (Int32.ofInt x1)), (2, .int (Int32.ofInt x2_2))] → W p l e R s m args below meth c H locs 0 0 Q (F0 m 2 ls []) := by
    intro n_2
    induction n_2 with
    | zero =>
      intro hx1_2 x2_2 hx2_2 hm_2
      exfalso; omega
    | succ n_2 ih_2 =>
      intro hx1_2 x2_2 hx2_2 hm_2 H locs hW hs3_2 hs2_2 ls hl
      refine lv_aload_n hx hb dX2_readPlain_2 rfl (lv_at hl 0 rfl) ?_
      refine tf_get hx hb hts inlX2 hown hK (ci := 2) rfl hW ha0 rfl 5 rfl (by decide) (hts _ fl_X2_32) dX2_readPlain_3 (fun v26 hv26 hsv26 => ?_)
      obtain ⟨z27, rfl, hz27⟩ := tf_v0 hv26
      refine tf_iconst hx hb dX2_readPlain_6 ?_
      refine tf_icmp_ne (tgt := 27) hx hb ⟨by omega, by omega⟩ ⟨by decide, by decide⟩ dX2_readPlain_7 (by decide) (fun h28 => ?_) (fun h28 => ?_)
      · exact j_27 ⟨by omega, by omega⟩ (x2_2) ⟨by omega, by omega⟩ (z27) ⟨by omega, by omega⟩ _ _ hW hs3_2 hs2_2 hsv26 _ (lv_sub hl [0, 1, 2] rfl)
      · refine lv_iload_n hx hb dX2_readPlain_10 rfl (lv_at hl 2 rfl) ?_
        refine tf_sipush hx hb dX2_readPlain_11 (by decide) ?_
        refine tf_icmp_gt (tgt := 27) hx hb ⟨by omega, by omega⟩ ⟨by decide, by decide⟩ dX2_readPlain_14 (by decide) (fun h29 => ?_) (fun h29 => ?_)
        · exact j_27 ⟨by omega, by omega⟩ (x2_2) ⟨by omega, by omega⟩ (z27) ⟨by omega, by omega⟩ _ _ hW hs3_2 hs2_2 hsv26 _ (lv_sub hl [0, 1, 2] rfl)
        · refine lv_iinc (v := Int32.ofInt ((x2_2 + 1))) (lv' := [(2, .int (Int32.ofInt ((x2_2 + 1)))), (0, .ref a0), (1, .int (Int32.ofInt x1))]) hx hb dX2_readPlain_17 hl (k := 2) rfl (Int32.ofInt_add _ _).symm (by decide) rfl (fun ls hl => ?_)
          refine lv_aload_n hx hb dX2_readPlain_20 rfl (lv_at hl 1 rfl) ?_
          refine tf_callv (va_runV (As := []) (rest := []) ⟨hx, hb, hml, hown, hts⟩ (c_X2_next l g T a0 ha0 t0 ht0) (cwV 0 hts gv_X2_73 rfl rfl rfl hd_X2_next ⟨Nat.le_trans (show 1 + 1 ≤ 6 * n + 18 by omega) hR1, Nat.le_trans (show 8 + (1 + 11) + (40) ≤ 90 * n + 300 by omega) hR2⟩) (tf_preV hk hW ha0 (ci := 2) rfl rfl ⟨hs3_2, ⟨_, hs2_2, by omega, by omega⟩⟩) rfl rfl hl.1 rfl (lv_room (Nat.le_of_ble_eq_true rfl)) dX2_readPlain_21 ⟨Nat.zero_le _, Nat.zero_le _⟩) hW (by decide) (fun H30 locs30 hW hF30 hp30 => ?_)
          have hs31 := tf_keepF hF30 ha0 rfl rfl (by decide) hs3_2
          have hs32 := tf_keepF hF30 ht0 rfl rfl (by decide) hs2_2
          refine lv_goto (tgt := 2) hx hb dX2_readPlain_24 (by decide) ?_
          exact ih_2 ⟨by omega, by omega⟩ ((x2_2 + 1)) ⟨by omega, by omega⟩ (by omega) _ _ hW hs31 hs32 _ (lv_sub hl [1, 2, 0] rfl)
  refine tf_enter (As := [.ref a0, .int (Int32.ofInt x1)]) hargs (Nat.le_of_ble_eq_true rfl) (fun ls hl => ?_)
  have hl : lv_has ls 3 [(0, .ref a0), (1, .int (Int32.ofInt x1))] := hl
  refine tf_iconst hx hb dX2_readPlain_0 ?_
  refine lv_istore_n (lv' := [(2, .int (Int32.ofInt 0)), (0, .ref a0), (1, .int (Int32.ofInt x1))]) hx hb dX2_readPlain_1 rfl hl (by decide) rfl (fun ls hl => ?_)
  exact j_2 ((401 - 0 + 1 : Int)).toNat ⟨by omega, by omega⟩ (0) ⟨by omega, by omega⟩ (by omega) _ _ hW he0 he1 _ (lv_sub hl [1, 2, 0] rfl)

set_option maxHeartbeats 4000000 in
set_option maxRecDepth 100000 in
theorem c_X2_readBoth (l : Launch) (g : tf_G) (T : tf_T) (n : Nat) (hP : K_X2_readPlain l g T n) : K_X2_readBoth l g T n := by
  intro a0 ha0 x1 hp1 t0 ht0 hfu
  refine Met.ofW (cc := cX2_readBoth) (maxL := 4) (ret := (some .boolean)) (by decide) rfl ?_
  intro p e s m args below meth c s₁ B hml hv
  obtain ⟨hargs, hk, hW0, hB, hpre⟩ := hv
  obtain ⟨he0, ⟨ze1, he1, hze1⟩⟩ := hpre
  have hx := B.exec
  have hb := B.bytes
  have hr := B.returns
  have hts : ∀ w ∈ wsL_law, w.before args s = true := fun w h => atoms_spec (ws := cd_X2_readBoth :: wsL_law) B.pre w (List.mem_cons_of_mem _ h)
  have hown : s.vm.findClass RX2 = some m.cls := findClass_of_methodNamed B.named
  have hlocks := B.notSynchronized
  have hK := hk.1
  have hW := tf_n.start (M := M_X2_readBoth) hW0 hB
  obtain ⟨Q, hQ⟩ : ∃ q, q = MQ below (tf_Qi g M_X2_readBoth T (fun z _ _ => z = 0 ∨ z = 1)) args s 0 0 (fun q => tf_B g ≤ q) := ⟨_, rfl⟩
  rw [← hQ]
  obtain ⟨R, hR⟩ : ∃ q, q = (headSpec (cd_X2_readBoth :: wsL_law) ({ frames := 6 * n + 20, cells := 0, slots := 0, locals := 90 * n + 325 })).room := ⟨_, rfl⟩
  rw [← hR]
  have hR1 : 6 * n + 20 ≤ R.frames := by rw [hR]; exact Nat.le_refl _
  have hR2 : 90 * n + 325 ≤ R.locals := by rw [hR]; exact Nat.le_refl _
  have hR3 : 0 ≤ R.cells := by rw [hR]; exact Nat.le_refl _
  have hR4 : 0 ≤ R.slots := by rw [hR]; exact Nat.le_refl _
  have hin := (name_of_methodNamed B.named B.method).1
  clear hR B
  have j_50 : ∀ (x2_50 : Int), (-2147483648) ≤ x2_50 ∧ x2_50 ≤ 2147483647 → ∀ (H : Heap) (locs : List Loc), tf_n tf_kt g M_X2_readBoth T s.heap T H locs → ∀ (ls : Array Slot), lv_has ls 4 [(0, .ref a0), (2, .int (Int32.ofInt x2_50))] → W p l e R s m args below meth c H locs 0 0 Q (F0 m 50 ls []) := by
    intro x2_50 hx2_50 H locs hW  ls hl
    refine lv_aload_n hx hb dX2_readBoth_50 rfl (lv_at hl 0 rfl) ?_
    refine lv_iload_n hx hb dX2_readBoth_51 rfl (lv_at hl 1 rfl) ?_
    refine tf_callv (va_runV (As := [.int (Int32.ofInt x2_50)]) (rest := []) ⟨hx, hb, hml, hown, hts⟩ (c_X2_landHere l g T a0 ha0 (x2_50) ⟨by omega, by omega⟩) (cwV 1 hts gv_X2_86 rfl rfl rfl hd_X2_landHere ⟨Nat.le_trans (show 1 + 1 ≤ 6 * n + 20 by omega) hR1, Nat.le_trans (show 8 + (5 + 11) + (24) ≤ 90 * n + 325 by omega) hR2⟩) (tf_preV hk hW ha0 (ci := 2) rfl rfl trivial) rfl rfl hl.1 rfl (lv_room (Nat.le_of_ble_eq_true rfl)) dX2_readBoth_52 ⟨Nat.zero_le _, Nat.zero_le _⟩) hW (by decide) (fun H1 locs1 hW hF1 hp1 => ?_)
    refine tf_iconst hx hb dX2_readBoth_55 ?_
    exact tf_retz (z := 1) hx hb hr hlocks hQ hW (by omega) (show (1) = 0 ∨ (1) = 1 by omega) dX2_readBoth_56
  have j_4 : ∀ (n_4 : Nat), 0 ≤ x1 ∧ x1 ≤ 8 → ∀ (x2_4 : Int), (-2147483648) ≤ x2_4 ∧ x2_4 ≤ 2147483647 → ∀ (x3_4 : Int), 0 ≤ x3_4 ∧ x3_4 ≤ 401 → (401 - x3_4 + 1 ≤ (n_4 : Int)) → ∀ (H : Heap) (locs : List Loc), tf_n tf_kt g M_X2_readBoth T s.heap T H locs → tf_s H a0 (g.1.2 2 3) = some (.ref t0) → tf_s H t0 (g.1.2 4 2) = some (.int (Int32.ofInt ze1)) → ∀ (ls : Array Slot), lv_has ls 4 [(0, .ref a0), (1, .int (Int32.ofInt x1)), (2, .int (Int32.ofInt x2_4)), (3, .int (Int32.ofInt x3_4))] → W p l e R s m args below meth c H locs 0 0 Q (F0 m 4 ls []) := by
    intro n_4
    induction n_4 with
    | zero =>
      intro hx1_4 x2_4 hx2_4 x3_4 hx3_4 hm_4
      exfalso; omega
    | succ n_4 ih_4 =>
      intro hx1_4 x2_4 hx2_4 x3_4 hx3_4 hm_4 H locs hW hs3_4 hs2_4 ls hl
      refine lv_iload_n hx hb dX2_readBoth_4 rfl (lv_at hl 3 rfl) ?_
      refine tf_sipush hx hb dX2_readBoth_5 (by decide) ?_
      refine tf_icmp_gt (tgt := 50) hx hb ⟨by omega, by omega⟩ ⟨by decide, by decide⟩ dX2_readBoth_8 (by decide) (fun h2 => ?_) (fun h2 => ?_)
      · exact j_50 (x2_4) ⟨by omega, by omega⟩ _ _ hW  _ (lv_sub hl [0, 2] rfl)
      · refine lv_aload_n hx hb dX2_readBoth_11 rfl (lv_at hl 0 rfl) ?_
        refine lv_iload_n hx hb dX2_readBoth_12 rfl (lv_at hl 1 rfl) ?_
        refine tf_calli (va_runV (As := [.int (Int32.ofInt x1)]) (rest := []) ⟨hx, hb, hml, hown, hts⟩ (hP a0 ha0 (x1) ⟨by omega, by omega⟩ t0 ht0 (by omega)) (cwV 1 hts gv_X2_90 rfl rfl rfl hd_X2_readPlain ⟨Nat.le_trans (show 6 * n + 18 + 1 ≤ 6 * n + 20 by omega) hR1, Nat.le_trans (show 8 + (3 + 11) + (90 * n + 300) ≤ 90 * n + 325 by omega) hR2⟩) (tf_preV hk hW ha0 (ci := 2) rfl rfl ⟨hs3_4, ⟨_, hs2_4, by omega, by omega⟩⟩) rfl rfl hl.1 rfl (lv_room (Nat.le_of_ble_eq_true rfl)) dX2_readBoth_13 ⟨Nat.zero_le _, Nat.zero_le _⟩) hW (by decide) (fun z3 H3 locs3 hW hF3 hp3 => ?_)
        have hs4 := tf_keepF hF3 ha0 rfl rfl (by decide) hs3_4
        have hs5 := tf_keepF hF3 ht0 rfl rfl (by decide) hs2_4
        have hp3 : z3 = 0 ∨ z3 = 1 := hp3
        refine tf_if_ne (tgt := 21) hx hb ⟨by omega, by omega⟩ dX2_readBoth_16 (by decide) (fun h6 => ?_) (fun h6 => ?_)
        · refine lv_aload_n hx hb dX2_readBoth_21 rfl (lv_at hl 0 rfl) ?_
          refine tf_get hx hb hts inlX2 hown hK (ci := 2) rfl hW ha0 rfl 5 rfl (by decide) (hts _ fl_X2_32) dX2_readBoth_22 (fun v7 hv7 hsv7 => ?_)
          obtain ⟨z8, rfl, hz8⟩ := tf_v0 hv7
          refine tf_iconst hx hb dX2_readBoth_25 ?_
          refine tf_icmp_eq (tgt := 32) hx hb ⟨by omega, by omega⟩ ⟨by decide, by decide⟩ dX2_readBoth_26 (by decide) (fun h9 => ?_) (fun h9 => ?_)
          · refine lv_aload_n hx hb dX2_readBoth_32 rfl (lv_at hl 0 rfl) ?_
            refine tf_callv (va_runV (As := []) (rest := []) ⟨hx, hb, hml, hown, hts⟩ (c_X2_next l g T a0 ha0 t0 ht0) (cwV 0 hts gv_X2_73 rfl rfl rfl hd_X2_next ⟨Nat.le_trans (show 1 + 1 ≤ 6 * n + 20 by omega) hR1, Nat.le_trans (show 8 + (1 + 11) + (40) ≤ 90 * n + 325 by omega) hR2⟩) (tf_preV hk hW ha0 (ci := 2) rfl rfl ⟨hs4, ⟨_, hs5, by omega, by omega⟩⟩) rfl rfl hl.1 rfl (lv_room (Nat.le_of_ble_eq_true rfl)) dX2_readBoth_33 ⟨Nat.zero_le _, Nat.zero_le _⟩) hW (by decide) (fun H10 locs10 hW hF10 hp10 => ?_)
            have hs11 := tf_keepF hF10 ha0 rfl rfl (by decide) hs4
            have hs12 := tf_keepF hF10 ht0 rfl rfl (by decide) hs5
            refine lv_aload_n hx hb dX2_readBoth_36 rfl (lv_at hl 0 rfl) ?_
            refine tf_bipush hx hb dX2_readBoth_37 (by decide) ?_
            refine lv_iload_n hx hb dX2_readBoth_39 rfl (lv_at hl 2 rfl) ?_
            refine tf_calli (va_runV (As := [.int (Int32.ofInt 10), .int (Int32.ofInt x2_4)]) (rest := []) ⟨hx, hb, hml, hown, hts⟩ (c_X2_addJump l g T a0 ha0 (10) ⟨by omega, by omega⟩ (x2_4) ⟨by omega, by omega⟩) (cwV 2 hts gv_X2_82 rfl rfl rfl hd_X2_addJump ⟨Nat.le_trans (show 2 + 1 ≤ 6 * n + 20 by omega) hR1, Nat.le_trans (show 8 + (3 + 11) + (46) ≤ 90 * n + 325 by omega) hR2⟩) (tf_preV hk hW ha0 (ci := 2) rfl rfl trivial) rfl rfl hl.1 rfl (lv_room (Nat.le_of_ble_eq_true rfl)) dX2_readBoth_40 ⟨Nat.zero_le _, Nat.zero_le _⟩) hW (by decide) (fun z13 H13 locs13 hW hF13 hp13 => ?_)
            have hs14 := tf_keepF hF13 ha0 rfl rfl (by decide) hs11
            have hs15 := tf_keepF hF13 ht0 rfl rfl (by decide) hs12
            obtain ⟨hp13_0, hp13_1⟩ := hp13
            refine lv_istore_n (lv' := [(2, .int (Int32.ofInt z13)), (0, .ref a0), (1, .int (Int32.ofInt x1)), (3, .int (Int32.ofInt x3_4))]) hx hb dX2_readBoth_43 rfl hl (by decide) rfl (fun ls hl => ?_)
            refine lv_iinc (v := Int32.ofInt ((x3_4 + 1))) (lv' := [(3, .int (Int32.ofInt ((x3_4 + 1)))), (2, .int (Int32.ofInt z13)), (0, .ref a0), (1, .int (Int32.ofInt x1))]) hx hb dX2_readBoth_44 hl (k := 3) rfl (Int32.ofInt_add _ _).symm (by decide) rfl (fun ls hl => ?_)
            refine lv_goto (tgt := 4) hx hb dX2_readBoth_47 (by decide) ?_
            exact ih_4 ⟨by omega, by omega⟩ (z13) ⟨by omega, by omega⟩ ((x3_4 + 1)) ⟨by omega, by omega⟩ (by omega) _ _ hW hs14 hs15 _ (lv_sub hl [2, 3, 1, 0] rfl)
          · refine lv_goto (tgt := 50) hx hb dX2_readBoth_29 (by decide) ?_
            exact j_50 (x2_4) ⟨by omega, by omega⟩ _ _ hW  _ (lv_sub hl [0, 2] rfl)
        · refine tf_iconst hx hb dX2_readBoth_19 ?_
          exact tf_retz (z := 0) hx hb hr hlocks hQ hW (by omega) (show (0) = 0 ∨ (0) = 1 by omega) dX2_readBoth_20
  refine tf_enter (As := [.ref a0, .int (Int32.ofInt x1)]) hargs (Nat.le_of_ble_eq_true rfl) (fun ls hl => ?_)
  have hl : lv_has ls 4 [(0, .ref a0), (1, .int (Int32.ofInt x1))] := hl
  refine tf_iconst hx hb dX2_readBoth_0 ?_
  refine lv_istore_n (lv' := [(2, .int (Int32.ofInt ((-1)))), (0, .ref a0), (1, .int (Int32.ofInt x1))]) hx hb dX2_readBoth_1 rfl hl (by decide) rfl (fun ls hl => ?_)
  refine tf_iconst hx hb dX2_readBoth_2 ?_
  refine lv_istore_n (lv' := [(3, .int (Int32.ofInt 0)), (2, .int (Int32.ofInt ((-1)))), (0, .ref a0), (1, .int (Int32.ofInt x1))]) hx hb dX2_readBoth_3 rfl hl (by decide) rfl (fun ls hl => ?_)
  exact j_4 ((401 - 0 + 1 : Int)).toNat ⟨by omega, by omega⟩ ((-1)) ⟨by omega, by omega⟩ (0) ⟨by omega, by omega⟩ (by omega) _ _ hW he0 he1 _ (lv_sub hl [2, 3, 1, 0] rfl)

set_option maxHeartbeats 4000000 in
set_option maxRecDepth 100000 in
theorem c_X2_readTest (l : Launch) (g : tf_G) (T : tf_T) (n : Nat) (hBo : K_X2_readBoth l g T n) : K_X2_readTest l g T n := by
  intro a0 ha0 x1 hp1 t0 ht0 hfu
  refine Met.ofW (cc := cX2_readTest) (maxL := 4) (ret := (some .boolean)) (by decide) rfl ?_
  intro p e s m args below meth c s₁ B hml hv
  obtain ⟨hargs, hk, hW0, hB, hpre⟩ := hv
  obtain ⟨he0, ⟨ze1, he1, hze1⟩⟩ := hpre
  have hx := B.exec
  have hb := B.bytes
  have hr := B.returns
  have hts : ∀ w ∈ wsL_law, w.before args s = true := fun w h => atoms_spec (ws := cd_X2_readTest :: wsL_law) B.pre w (List.mem_cons_of_mem _ h)
  have hown : s.vm.findClass RX2 = some m.cls := findClass_of_methodNamed B.named
  have hlocks := B.notSynchronized
  have hK := hk.1
  have hW := tf_n.start (M := M_X2_readTest) hW0 hB
  obtain ⟨Q, hQ⟩ : ∃ q, q = MQ below (tf_Qi g M_X2_readTest T (fun z _ _ => z = 0 ∨ z = 1)) args s 0 0 (fun q => tf_B g ≤ q) := ⟨_, rfl⟩
  rw [← hQ]
  obtain ⟨R, hR⟩ : ∃ q, q = (headSpec (cd_X2_readTest :: wsL_law) ({ frames := 6 * n + 22, cells := 0, slots := 0, locals := 90 * n + 350 })).room := ⟨_, rfl⟩
  rw [← hR]
  have hR1 : 6 * n + 22 ≤ R.frames := by rw [hR]; exact Nat.le_refl _
  have hR2 : 90 * n + 350 ≤ R.locals := by rw [hR]; exact Nat.le_refl _
  have hR3 : 0 ≤ R.cells := by rw [hR]; exact Nat.le_refl _
  have hR4 : 0 ≤ R.slots := by rw [hR]; exact Nat.le_refl _
  have hin := (name_of_methodNamed B.named B.method).1
  clear hR B
  have j_50 : ∀ (x2_50 : Int), (-2147483648) ≤ x2_50 ∧ x2_50 ≤ 2147483647 → ∀ (H : Heap) (locs : List Loc), tf_n tf_kt g M_X2_readTest T s.heap T H locs → ∀ (ls : Array Slot), lv_has ls 4 [(0, .ref a0), (2, .int (Int32.ofInt x2_50))] → W p l e R s m args below meth c H locs 0 0 Q (F0 m 50 ls []) := by
    intro x2_50 hx2_50 H locs hW  ls hl
    refine lv_aload_n hx hb dX2_readTest_50 rfl (lv_at hl 0 rfl) ?_
    refine lv_iload_n hx hb dX2_readTest_51 rfl (lv_at hl 1 rfl) ?_
    refine tf_callv (va_runV (As := [.int (Int32.ofInt x2_50)]) (rest := []) ⟨hx, hb, hml, hown, hts⟩ (c_X2_landHere l g T a0 ha0 (x2_50) ⟨by omega, by omega⟩) (cwV 1 hts gv_X2_86 rfl rfl rfl hd_X2_landHere ⟨Nat.le_trans (show 1 + 1 ≤ 6 * n + 22 by omega) hR1, Nat.le_trans (show 8 + (5 + 11) + (24) ≤ 90 * n + 350 by omega) hR2⟩) (tf_preV hk hW ha0 (ci := 2) rfl rfl trivial) rfl rfl hl.1 rfl (lv_room (Nat.le_of_ble_eq_true rfl)) dX2_readTest_52 ⟨Nat.zero_le _, Nat.zero_le _⟩) hW (by decide) (fun H1 locs1 hW hF1 hp1 => ?_)
    refine tf_iconst hx hb dX2_readTest_55 ?_
    exact tf_retz (z := 1) hx hb hr hlocks hQ hW (by omega) (show (1) = 0 ∨ (1) = 1 by omega) dX2_readTest_56
  have j_4 : ∀ (n_4 : Nat), 0 ≤ x1 ∧ x1 ≤ 8 → ∀ (x2_4 : Int), (-2147483648) ≤ x2_4 ∧ x2_4 ≤ 2147483647 → ∀ (x3_4 : Int), 0 ≤ x3_4 ∧ x3_4 ≤ 401 → (401 - x3_4 + 1 ≤ (n_4 : Int)) → ∀ (H : Heap) (locs : List Loc), tf_n tf_kt g M_X2_readTest T s.heap T H locs → tf_s H a0 (g.1.2 2 3) = some (.ref t0) → tf_s H t0 (g.1.2 4 2) = some (.int (Int32.ofInt ze1)) → ∀ (ls : Array Slot), lv_has ls 4 [(0, .ref a0), (1, .int (Int32.ofInt x1)), (2, .int (Int32.ofInt x2_4)), (3, .int (Int32.ofInt x3_4))] → W p l e R s m args below meth c H locs 0 0 Q (F0 m 4 ls []) := by
    intro n_4
    induction n_4 with
    | zero =>
      intro hx1_4 x2_4 hx2_4 x3_4 hx3_4 hm_4
      exfalso; omega
    | succ n_4 ih_4 =>
      intro hx1_4 x2_4 hx2_4 x3_4 hx3_4 hm_4 H locs hW hs3_4 hs2_4 ls hl
      refine lv_iload_n hx hb dX2_readTest_4 rfl (lv_at hl 3 rfl) ?_
      refine tf_sipush hx hb dX2_readTest_5 (by decide) ?_
      refine tf_icmp_gt (tgt := 50) hx hb ⟨by omega, by omega⟩ ⟨by decide, by decide⟩ dX2_readTest_8 (by decide) (fun h2 => ?_) (fun h2 => ?_)
      · exact j_50 (x2_4) ⟨by omega, by omega⟩ _ _ hW  _ (lv_sub hl [0, 2] rfl)
      · refine lv_aload_n hx hb dX2_readTest_11 rfl (lv_at hl 0 rfl) ?_
        refine lv_iload_n hx hb dX2_readTest_12 rfl (lv_at hl 1 rfl) ?_
        refine tf_calli (va_runV (As := [.int (Int32.ofInt x1)]) (rest := []) ⟨hx, hb, hml, hown, hts⟩ (hBo a0 ha0 (x1) ⟨by omega, by omega⟩ t0 ht0 (by omega)) (cwV 1 hts gv_X2_79 rfl rfl rfl hd_X2_readBoth ⟨Nat.le_trans (show 6 * n + 20 + 1 ≤ 6 * n + 22 by omega) hR1, Nat.le_trans (show 8 + (4 + 11) + (90 * n + 325) ≤ 90 * n + 350 by omega) hR2⟩) (tf_preV hk hW ha0 (ci := 2) rfl rfl ⟨hs3_4, ⟨_, hs2_4, by omega, by omega⟩⟩) rfl rfl hl.1 rfl (lv_room (Nat.le_of_ble_eq_true rfl)) dX2_readTest_13 ⟨Nat.zero_le _, Nat.zero_le _⟩) hW (by decide) (fun z3 H3 locs3 hW hF3 hp3 => ?_)
        have hs4 := tf_keepF hF3 ha0 rfl rfl (by decide) hs3_4
        have hs5 := tf_keepF hF3 ht0 rfl rfl (by decide) hs2_4
        have hp3 : z3 = 0 ∨ z3 = 1 := hp3
        refine tf_if_ne (tgt := 21) hx hb ⟨by omega, by omega⟩ dX2_readTest_16 (by decide) (fun h6 => ?_) (fun h6 => ?_)
        · refine lv_aload_n hx hb dX2_readTest_21 rfl (lv_at hl 0 rfl) ?_
          refine tf_get hx hb hts inlX2 hown hK (ci := 2) rfl hW ha0 rfl 5 rfl (by decide) (hts _ fl_X2_32) dX2_readTest_22 (fun v7 hv7 hsv7 => ?_)
          obtain ⟨z8, rfl, hz8⟩ := tf_v0 hv7
          refine tf_iconst hx hb dX2_readTest_25 ?_
          refine tf_icmp_eq (tgt := 32) hx hb ⟨by omega, by omega⟩ ⟨by decide, by decide⟩ dX2_readTest_26 (by decide) (fun h9 => ?_) (fun h9 => ?_)
          · refine lv_aload_n hx hb dX2_readTest_32 rfl (lv_at hl 0 rfl) ?_
            refine tf_callv (va_runV (As := []) (rest := []) ⟨hx, hb, hml, hown, hts⟩ (c_X2_next l g T a0 ha0 t0 ht0) (cwV 0 hts gv_X2_73 rfl rfl rfl hd_X2_next ⟨Nat.le_trans (show 1 + 1 ≤ 6 * n + 22 by omega) hR1, Nat.le_trans (show 8 + (1 + 11) + (40) ≤ 90 * n + 350 by omega) hR2⟩) (tf_preV hk hW ha0 (ci := 2) rfl rfl ⟨hs4, ⟨_, hs5, by omega, by omega⟩⟩) rfl rfl hl.1 rfl (lv_room (Nat.le_of_ble_eq_true rfl)) dX2_readTest_33 ⟨Nat.zero_le _, Nat.zero_le _⟩) hW (by decide) (fun H10 locs10 hW hF10 hp10 => ?_)
            have hs11 := tf_keepF hF10 ha0 rfl rfl (by decide) hs4
            have hs12 := tf_keepF hF10 ht0 rfl rfl (by decide) hs5
            refine lv_aload_n hx hb dX2_readTest_36 rfl (lv_at hl 0 rfl) ?_
            refine tf_bipush hx hb dX2_readTest_37 (by decide) ?_
            refine lv_iload_n hx hb dX2_readTest_39 rfl (lv_at hl 2 rfl) ?_
            refine tf_calli (va_runV (As := [.int (Int32.ofInt 11), .int (Int32.ofInt x2_4)]) (rest := []) ⟨hx, hb, hml, hown, hts⟩ (c_X2_addJump l g T a0 ha0 (11) ⟨by omega, by omega⟩ (x2_4) ⟨by omega, by omega⟩) (cwV 2 hts gv_X2_82 rfl rfl rfl hd_X2_addJump ⟨Nat.le_trans (show 2 + 1 ≤ 6 * n + 22 by omega) hR1, Nat.le_trans (show 8 + (3 + 11) + (46) ≤ 90 * n + 350 by omega) hR2⟩) (tf_preV hk hW ha0 (ci := 2) rfl rfl trivial) rfl rfl hl.1 rfl (lv_room (Nat.le_of_ble_eq_true rfl)) dX2_readTest_40 ⟨Nat.zero_le _, Nat.zero_le _⟩) hW (by decide) (fun z13 H13 locs13 hW hF13 hp13 => ?_)
            have hs14 := tf_keepF hF13 ha0 rfl rfl (by decide) hs11
            have hs15 := tf_keepF hF13 ht0 rfl rfl (by decide) hs12
            obtain ⟨hp13_0, hp13_1⟩ := hp13
            refine lv_istore_n (lv' := [(2, .int (Int32.ofInt z13)), (0, .ref a0), (1, .int (Int32.ofInt x1)), (3, .int (Int32.ofInt x3_4))]) hx hb dX2_readTest_43 rfl hl (by decide) rfl (fun ls hl => ?_)
            refine lv_iinc (v := Int32.ofInt ((x3_4 + 1))) (lv' := [(3, .int (Int32.ofInt ((x3_4 + 1)))), (2, .int (Int32.ofInt z13)), (0, .ref a0), (1, .int (Int32.ofInt x1))]) hx hb dX2_readTest_44 hl (k := 3) rfl (Int32.ofInt_add _ _).symm (by decide) rfl (fun ls hl => ?_)
            refine lv_goto (tgt := 4) hx hb dX2_readTest_47 (by decide) ?_
            exact ih_4 ⟨by omega, by omega⟩ (z13) ⟨by omega, by omega⟩ ((x3_4 + 1)) ⟨by omega, by omega⟩ (by omega) _ _ hW hs14 hs15 _ (lv_sub hl [2, 3, 1, 0] rfl)
          · refine lv_goto (tgt := 50) hx hb dX2_readTest_29 (by decide) ?_
            exact j_50 (x2_4) ⟨by omega, by omega⟩ _ _ hW  _ (lv_sub hl [0, 2] rfl)
        · refine tf_iconst hx hb dX2_readTest_19 ?_
          exact tf_retz (z := 0) hx hb hr hlocks hQ hW (by omega) (show (0) = 0 ∨ (0) = 1 by omega) dX2_readTest_20
  refine tf_enter (As := [.ref a0, .int (Int32.ofInt x1)]) hargs (Nat.le_of_ble_eq_true rfl) (fun ls hl => ?_)
  have hl : lv_has ls 4 [(0, .ref a0), (1, .int (Int32.ofInt x1))] := hl
  refine tf_iconst hx hb dX2_readTest_0 ?_
  refine lv_istore_n (lv' := [(2, .int (Int32.ofInt ((-1)))), (0, .ref a0), (1, .int (Int32.ofInt x1))]) hx hb dX2_readTest_1 rfl hl (by decide) rfl (fun ls hl => ?_)
  refine tf_iconst hx hb dX2_readTest_2 ?_
  refine lv_istore_n (lv' := [(3, .int (Int32.ofInt 0)), (2, .int (Int32.ofInt ((-1)))), (0, .ref a0), (1, .int (Int32.ofInt x1))]) hx hb dX2_readTest_3 rfl hl (by decide) rfl (fun ls hl => ?_)
  exact j_4 ((401 - 0 + 1 : Int)).toNat ⟨by omega, by omega⟩ ((-1)) ⟨by omega, by omega⟩ (0) ⟨by omega, by omega⟩ (by omega) _ _ hW he0 he1 _ (lv_sub hl [2, 3, 1, 0] rfl)

theorem all_X2_readSum (l : Launch) (g : tf_G) (T : tf_T) : ∀ n, K_X2_readSum l g T n
  | 0 => c_X2_readSum l g T 0 (c_X2_readTerm l g T 0 (c_X2_readPart l g T 0 (fun n1 h => absurd h (by omega))))
  | n + 1 => c_X2_readSum l g T (n + 1) (c_X2_readTerm l g T (n + 1) (c_X2_readPart l g T (n + 1) (fun n1 h => by
      obtain rfl : n = n1 := by omega
      exact all_X2_readSum l g T n)))
theorem all_X2_readTest (l : Launch) (g : tf_G) (T : tf_T) : ∀ n, K_X2_readTest l g T n
  | 0 => c_X2_readTest l g T 0 (c_X2_readBoth l g T 0 (c_X2_readPlain l g T 0 (fun n1 h => absurd h (by omega)) (c_X2_readComparison l g T 0 (all_X2_readSum l g T 0))))
  | n + 1 => c_X2_readTest l g T (n + 1) (c_X2_readBoth l g T (n + 1) (c_X2_readPlain l g T (n + 1) (fun n1 h => by
      obtain rfl : n = n1 := by omega
      exact all_X2_readTest l g T n) (c_X2_readComparison l g T (n + 1) (all_X2_readSum l g T (n + 1)))))

abbrev M_X2_readPart : List (Nat × Nat) := [(0, 0), (30, 1), (30, 4), (30, 5), (30, 6), (30, 7)]
def K_X2_readPart (l : Launch) (g : tf_G) (T : tf_T) (n : Nat) : Prop := ∀ (a0 : Nat) (ha0 : T a0 = some (30, 0)) (x1 : Int) (hp1 : 0 ≤ x1 ∧ x1 ≤ 8) (c9 : Int) (S9 : List (Int × Int)) (e9 : Int) (i9 : Int) (t0 : Nat) (ht0 : T t0 = some (34, 0)) (so : Nat) (hso : T so = some (24, 401)) (po : Nat) (hpo : T po = some (25, 401)) (mm : Int) (hmm : 1 ≤ mm ∧ mm ≤ 401) (ss : Int → Int) (pp : Int → Int) (k0 : Int) (hk0 : 0 ≤ k0 ∧ k0 ≤ 400) (tk : Int) (htk : (-2147483648) ≤ tk ∧ tk ≤ 2147483647) (lv : Int) (hlv : 0 ≤ lv ∧ lv ≤ 50) (fp0 : Int) (hfp0 : (-2147483648) ≤ fp0 ∧ fp0 ≤ 2147483647) (hq0 : (k0 < mm)) (hq1 : (tk = ss k0)) (hq2 : (ss (mm - 1) = 0)) (hq3 : ((S9.length : Int) = x1)) (hfu : 8 - x1 ≤ (n : Int)), Met l yX2_readPart (cd_X2_readPart :: wsL_law) ({ frames := 6 * n + 10, cells := 0, slots := 0, locals := 90 * n + 200 }) (tf_P g T [.ref a0, .int (Int32.ofInt x1)] (fun H => tf_s H a0 (g.1.2 2 3) = some (.ref t0) ∧ tf_s H t0 (g.1.2 4 2) = some (.int (Int32.ofInt mm)) ∧ tf_s H t0 (g.1.2 4 0) = some (.ref so) ∧ tf_s H t0 (g.1.2 4 1) = some (.ref po) ∧ tf_rw H so = ss ∧ tf_rw H po = pp ∧ tf_s H a0 (g.1.2 2 4) = some (.int (Int32.ofInt k0)) ∧ tf_s H a0 (g.1.2 2 5) = some (.int (Int32.ofInt tk)) ∧ tf_s H a0 (g.1.2 2 6) = some (.int (Int32.ofInt lv)) ∧ tf_s H a0 (g.1.2 2 7) = some (.int (Int32.ofInt fp0)))) (tf_Qi g M_X2_readPart T (fun z _ H => (z = 0 ∨ z = 1) ∧ (∃ (k1 t1 lv1 fp1 : Int) , tf_s H a0 (g.1.2 2 4) = some (.int (Int32.ofInt k1)) ∧ tf_s H a0 (g.1.2 2 5) = some (.int (Int32.ofInt t1)) ∧ tf_s H a0 (g.1.2 2 6) = some (.int (Int32.ofInt lv1)) ∧ tf_s H a0 (g.1.2 2 7) = some (.int (Int32.ofInt fp1)) ∧ (0 ≤ k1 ∧ k1 ≤ 400) ∧ ((-2147483648) ≤ t1 ∧ t1 ≤ 2147483647) ∧ (0 ≤ lv1 ∧ lv1 ≤ 50) ∧ ((-2147483648) ≤ fp1 ∧ fp1 ≤ 2147483647) ∧ (k1 < mm) ∧ (k0 ≤ k1) ∧ (t1 = ss k1) ∧ (tf_RD ss pp mm (k0, 1, c9, S9, lv, e9, i9) z (k1, 3, c9, S9, lv1, e9, i9) fp1) ∧ (z = 0 ∨ (k0 < k1)) ∧ (z = 0 ∨ fp1 = fp0)))) 0 0 (fun q => tf_B g ≤ q)
abbrev M_X2_readTerm : List (Nat × Nat) := [(0, 0), (30, 1), (30, 4), (30, 5), (30, 6), (30, 7)]
def K_X2_readTerm (l : Launch) (g : tf_G) (T : tf_T) (n : Nat) : Prop := ∀ (a0 : Nat) (ha0 : T a0 = some (30, 0)) (x1 : Int) (hp1 : 0 ≤ x1 ∧ x1 ≤ 8) (c9 : Int) (S9 : List (Int × Int)) (e9 : Int) (i9 : Int) (t0 : Nat) (ht0 : T t0 = some (34, 0)) (so : Nat) (hso : T so = some (24, 401)) (po : Nat) (hpo : T po = some (25, 401)) (mm : Int) (hmm : 1 ≤ mm ∧ mm ≤ 401) (ss : Int → Int) (pp : Int → Int) (k0 : Int) (hk0 : 0 ≤ k0 ∧ k0 ≤ 400) (tk : Int) (htk : (-2147483648) ≤ tk ∧ tk ≤ 2147483647) (lv : Int) (hlv : 0 ≤ lv ∧ lv ≤ 50) (fp0 : Int) (hfp0 : (-2147483648) ≤ fp0 ∧ fp0 ≤ 2147483647) (hq0 : (k0 < mm)) (hq1 : (tk = ss k0)) (hq2 : (ss (mm - 1) = 0)) (hq3 : ((S9.length : Int) = x1)) (hfu : 8 - x1 ≤ (n : Int)), Met l yX2_readTerm (cd_X2_readTerm :: wsL_law) ({ frames := 6 * n + 12, cells := 0, slots := 0, locals := 90 * n + 225 }) (tf_P g T [.ref a0, .int (Int32.ofInt x1)] (fun H => tf_s H a0 (g.1.2 2 3) = some (.ref t0) ∧ tf_s H t0 (g.1.2 4 2) = some (.int (Int32.ofInt mm)) ∧ tf_s H t0 (g.1.2 4 0) = some (.ref so) ∧ tf_s H t0 (g.1.2 4 1) = some (.ref po) ∧ tf_rw H so = ss ∧ tf_rw H po = pp ∧ tf_s H a0 (g.1.2 2 4) = some (.int (Int32.ofInt k0)) ∧ tf_s H a0 (g.1.2 2 5) = some (.int (Int32.ofInt tk)) ∧ tf_s H a0 (g.1.2 2 6) = some (.int (Int32.ofInt lv)) ∧ tf_s H a0 (g.1.2 2 7) = some (.int (Int32.ofInt fp0)))) (tf_Qi g M_X2_readTerm T (fun z _ H => (z = 0 ∨ z = 1) ∧ (∃ (k1 t1 lv1 fp1 : Int) , tf_s H a0 (g.1.2 2 4) = some (.int (Int32.ofInt k1)) ∧ tf_s H a0 (g.1.2 2 5) = some (.int (Int32.ofInt t1)) ∧ tf_s H a0 (g.1.2 2 6) = some (.int (Int32.ofInt lv1)) ∧ tf_s H a0 (g.1.2 2 7) = some (.int (Int32.ofInt fp1)) ∧ (0 ≤ k1 ∧ k1 ≤ 400) ∧ ((-2147483648) ≤ t1 ∧ t1 ≤ 2147483647) ∧ (0 ≤ lv1 ∧ lv1 ≤ 50) ∧ ((-2147483648) ≤ fp1 ∧ fp1 ≤ 2147483647) ∧ (k1 < mm) ∧ (k0 ≤ k1) ∧ (t1 = ss k1) ∧ (tf_RD ss pp mm (k0, 1, c9, S9, lv, e9, i9) z (k1, 3, c9, S9, lv1, e9, i9) fp1) ∧ (z = 0 ∨ (k0 < k1 ∧ ss k1 ≠ 1042 ∧ ss k1 ≠ 1047)) ∧ (z = 0 ∨ fp1 = fp0)))) 0 0 (fun q => tf_B g ≤ q)
abbrev M_X2_readSum : List (Nat × Nat) := [(0, 0), (30, 1), (30, 4), (30, 5), (30, 6), (30, 7)]
def K_X2_readSum (l : Launch) (g : tf_G) (T : tf_T) (n : Nat) : Prop := ∀ (a0 : Nat) (ha0 : T a0 = some (30, 0)) (x1 : Int) (hp1 : 0 ≤ x1 ∧ x1 ≤ 8) (c9 : Int) (S9 : List (Int × Int)) (e9 : Int) (i9 : Int) (t0 : Nat) (ht0 : T t0 = some (34, 0)) (so : Nat) (hso : T so = some (24, 401)) (po : Nat) (hpo : T po = some (25, 401)) (mm : Int) (hmm : 1 ≤ mm ∧ mm ≤ 401) (ss : Int → Int) (pp : Int → Int) (k0 : Int) (hk0 : 0 ≤ k0 ∧ k0 ≤ 400) (tk : Int) (htk : (-2147483648) ≤ tk ∧ tk ≤ 2147483647) (lv : Int) (hlv : 0 ≤ lv ∧ lv ≤ 50) (fp0 : Int) (hfp0 : (-2147483648) ≤ fp0 ∧ fp0 ≤ 2147483647) (hq0 : (k0 < mm)) (hq1 : (tk = ss k0)) (hq2 : (ss (mm - 1) = 0)) (hq3 : ((S9.length : Int) = x1)) (hfu : 8 - x1 ≤ (n : Int)), Met l yX2_readSum (cd_X2_readSum :: wsL_law) ({ frames := 6 * n + 14, cells := 0, slots := 0, locals := 90 * n + 250 }) (tf_P g T [.ref a0, .int (Int32.ofInt x1)] (fun H => tf_s H a0 (g.1.2 2 3) = some (.ref t0) ∧ tf_s H t0 (g.1.2 4 2) = some (.int (Int32.ofInt mm)) ∧ tf_s H t0 (g.1.2 4 0) = some (.ref so) ∧ tf_s H t0 (g.1.2 4 1) = some (.ref po) ∧ tf_rw H so = ss ∧ tf_rw H po = pp ∧ tf_s H a0 (g.1.2 2 4) = some (.int (Int32.ofInt k0)) ∧ tf_s H a0 (g.1.2 2 5) = some (.int (Int32.ofInt tk)) ∧ tf_s H a0 (g.1.2 2 6) = some (.int (Int32.ofInt lv)) ∧ tf_s H a0 (g.1.2 2 7) = some (.int (Int32.ofInt fp0)))) (tf_Qi g M_X2_readSum T (fun z _ H => (z = 0 ∨ z = 1) ∧ (∃ (k1 t1 lv1 fp1 : Int) , tf_s H a0 (g.1.2 2 4) = some (.int (Int32.ofInt k1)) ∧ tf_s H a0 (g.1.2 2 5) = some (.int (Int32.ofInt t1)) ∧ tf_s H a0 (g.1.2 2 6) = some (.int (Int32.ofInt lv1)) ∧ tf_s H a0 (g.1.2 2 7) = some (.int (Int32.ofInt fp1)) ∧ (0 ≤ k1 ∧ k1 ≤ 400) ∧ ((-2147483648) ≤ t1 ∧ t1 ≤ 2147483647) ∧ (0 ≤ lv1 ∧ lv1 ≤ 50) ∧ ((-2147483648) ≤ fp1 ∧ fp1 ≤ 2147483647) ∧ (k1 < mm) ∧ (k0 ≤ k1) ∧ (t1 = ss k1) ∧ (tf_RD ss pp mm (k0, 1, c9, S9, lv, e9, i9) z (k1, 3, c9, S9, lv1, e9, i9) fp1) ∧ (z = 0 ∨ (k0 < k1 ∧ ss k1 ≠ 1043 ∧ ss k1 ≠ 1045 ∧ ss k1 ≠ 1042 ∧ ss k1 ≠ 1047)) ∧ (z = 0 ∨ fp1 = fp0)))) 0 0 (fun q => tf_B g ≤ q)
abbrev M_X2_readComparison : List (Nat × Nat) := [(0, 0), (30, 1), (30, 4), (30, 5), (30, 6), (30, 7)]
def K_X2_readComparison (l : Launch) (g : tf_G) (T : tf_T) (n : Nat) : Prop := ∀ (a0 : Nat) (ha0 : T a0 = some (30, 0)) (x1 : Int) (hp1 : 0 ≤ x1 ∧ x1 ≤ 8) (S9 : List (Int × Int)) (e9 : Int) (i9 : Int) (t0 : Nat) (ht0 : T t0 = some (34, 0)) (so : Nat) (hso : T so = some (24, 401)) (po : Nat) (hpo : T po = some (25, 401)) (mm : Int) (hmm : 1 ≤ mm ∧ mm ≤ 401) (ss : Int → Int) (pp : Int → Int) (k0 : Int) (hk0 : 0 ≤ k0 ∧ k0 ≤ 400) (tk : Int) (htk : (-2147483648) ≤ tk ∧ tk ≤ 2147483647) (lv : Int) (hlv : 0 ≤ lv ∧ lv ≤ 50) (fp0 : Int) (hfp0 : (-2147483648) ≤ fp0 ∧ fp0 ≤ 2147483647) (hq0 : (k0 < mm)) (hq1 : (tk = ss k0)) (hq2 : (ss (mm - 1) = 0)) (hq3 : ((S9.length : Int) = x1)) (hq4 : (tf_nsq S9 e9)) (hfu : 8 - x1 ≤ (n : Int)), Met l yX2_readComparison (cd_X2_readComparison :: wsL_law) ({ frames := 6 * n + 16, cells := 0, slots := 0, locals := 90 * n + 275 }) (tf_P g T [.ref a0, .int (Int32.ofInt x1)] (fun H => tf_s H a0 (g.1.2 2 3) = some (.ref t0) ∧ tf_s H t0 (g.1.2 4 2) = some (.int (Int32.ofInt mm)) ∧ tf_s H t0 (g.1.2 4 0) = some (.ref so) ∧ tf_s H t0 (g.1.2 4 1) = some (.ref po) ∧ tf_rw H so = ss ∧ tf_rw H po = pp ∧ tf_s H a0 (g.1.2 2 4) = some (.int (Int32.ofInt k0)) ∧ tf_s H a0 (g.1.2 2 5) = some (.int (Int32.ofInt tk)) ∧ tf_s H a0 (g.1.2 2 6) = some (.int (Int32.ofInt lv)) ∧ tf_s H a0 (g.1.2 2 7) = some (.int (Int32.ofInt fp0)))) (tf_Qi g M_X2_readComparison T (fun z _ H => (z = 0 ∨ z = 1) ∧ (∃ (k1 t1 lv1 fp1 : Int) , tf_s H a0 (g.1.2 2 4) = some (.int (Int32.ofInt k1)) ∧ tf_s H a0 (g.1.2 2 5) = some (.int (Int32.ofInt t1)) ∧ tf_s H a0 (g.1.2 2 6) = some (.int (Int32.ofInt lv1)) ∧ tf_s H a0 (g.1.2 2 7) = some (.int (Int32.ofInt fp1)) ∧ (0 ≤ k1 ∧ k1 ≤ 400) ∧ ((-2147483648) ≤ t1 ∧ t1 ≤ 2147483647) ∧ (0 ≤ lv1 ∧ lv1 ≤ 50) ∧ ((-2147483648) ≤ fp1 ∧ fp1 ≤ 2147483647) ∧ (k1 < mm) ∧ (k0 ≤ k1) ∧ (t1 = ss k1) ∧ (tf_RD ss pp mm (k0, 1, 0, S9, lv, e9, i9) z (k1, 2, 0, S9, lv1, e9, i9) fp1) ∧ (z = 0 ∨ (k0 < k1)) ∧ (z = 0 ∨ fp1 = fp0)))) 0 0 (fun q => tf_B g ≤ q)
abbrev M_X2_readPlain : List (Nat × Nat) := [(0, 0), (30, 1), (30, 4), (30, 5), (30, 6), (30, 7)]
def K_X2_readPlain (l : Launch) (g : tf_G) (T : tf_T) (n : Nat) : Prop := ∀ (a0 : Nat) (ha0 : T a0 = some (30, 0)) (x1 : Int) (hp1 : 0 ≤ x1 ∧ x1 ≤ 8) (S9 : List (Int × Int)) (e9 : Int) (i9 : Int) (t0 : Nat) (ht0 : T t0 = some (34, 0)) (so : Nat) (hso : T so = some (24, 401)) (po : Nat) (hpo : T po = some (25, 401)) (mm : Int) (hmm : 1 ≤ mm ∧ mm ≤ 401) (ss : Int → Int) (pp : Int → Int) (k0 : Int) (hk0 : 0 ≤ k0 ∧ k0 ≤ 400) (tk : Int) (htk : (-2147483648) ≤ tk ∧ tk ≤ 2147483647) (lv : Int) (hlv : 0 ≤ lv ∧ lv ≤ 50) (fp0 : Int) (hfp0 : (-2147483648) ≤ fp0 ∧ fp0 ≤ 2147483647) (hq0 : (k0 < mm)) (hq1 : (tk = ss k0)) (hq2 : (ss (mm - 1) = 0)) (hq3 : ((S9.length : Int) = x1)) (hq4 : (tf_nsq S9 e9)) (hfu : 8 - x1 ≤ (n : Int)), Met l yX2_readPlain (cd_X2_readPlain :: wsL_law) ({ frames := 6 * n + 18, cells := 0, slots := 0, locals := 90 * n + 300 }) (tf_P g T [.ref a0, .int (Int32.ofInt x1)] (fun H => tf_s H a0 (g.1.2 2 3) = some (.ref t0) ∧ tf_s H t0 (g.1.2 4 2) = some (.int (Int32.ofInt mm)) ∧ tf_s H t0 (g.1.2 4 0) = some (.ref so) ∧ tf_s H t0 (g.1.2 4 1) = some (.ref po) ∧ tf_rw H so = ss ∧ tf_rw H po = pp ∧ tf_s H a0 (g.1.2 2 4) = some (.int (Int32.ofInt k0)) ∧ tf_s H a0 (g.1.2 2 5) = some (.int (Int32.ofInt tk)) ∧ tf_s H a0 (g.1.2 2 6) = some (.int (Int32.ofInt lv)) ∧ tf_s H a0 (g.1.2 2 7) = some (.int (Int32.ofInt fp0)))) (tf_Qi g M_X2_readPlain T (fun z _ H => (z = 0 ∨ z = 1) ∧ (∃ (k1 t1 lv1 fp1 : Int) , tf_s H a0 (g.1.2 2 4) = some (.int (Int32.ofInt k1)) ∧ tf_s H a0 (g.1.2 2 5) = some (.int (Int32.ofInt t1)) ∧ tf_s H a0 (g.1.2 2 6) = some (.int (Int32.ofInt lv1)) ∧ tf_s H a0 (g.1.2 2 7) = some (.int (Int32.ofInt fp1)) ∧ (0 ≤ k1 ∧ k1 ≤ 400) ∧ ((-2147483648) ≤ t1 ∧ t1 ≤ 2147483647) ∧ (0 ≤ lv1 ∧ lv1 ≤ 50) ∧ ((-2147483648) ≤ fp1 ∧ fp1 ≤ 2147483647) ∧ (k1 < mm) ∧ (k0 ≤ k1) ∧ (t1 = ss k1) ∧ (tf_RD ss pp mm (k0, 0, 0, S9, lv, e9, i9) z (k1, 2, 0, S9, lv1, e9, i9) fp1) ∧ (z = 0 ∨ (k0 < k1)) ∧ (z = 0 ∨ fp1 = fp0)))) 0 0 (fun q => tf_B g ≤ q)
abbrev M_X2_readBoth : List (Nat × Nat) := [(0, 0), (30, 1), (30, 4), (30, 5), (30, 6), (30, 7)]
def K_X2_readBoth (l : Launch) (g : tf_G) (T : tf_T) (n : Nat) : Prop := ∀ (a0 : Nat) (ha0 : T a0 = some (30, 0)) (x1 : Int) (hp1 : 0 ≤ x1 ∧ x1 ≤ 8) (S9 : List (Int × Int)) (e9 : Int) (i9 : Int) (t0 : Nat) (ht0 : T t0 = some (34, 0)) (so : Nat) (hso : T so = some (24, 401)) (po : Nat) (hpo : T po = some (25, 401)) (mm : Int) (hmm : 1 ≤ mm ∧ mm ≤ 401) (ss : Int → Int) (pp : Int → Int) (k0 : Int) (hk0 : 0 ≤ k0 ∧ k0 ≤ 400) (tk : Int) (htk : (-2147483648) ≤ tk ∧ tk ≤ 2147483647) (lv : Int) (hlv : 0 ≤ lv ∧ lv ≤ 50) (fp0 : Int) (hfp0 : (-2147483648) ≤ fp0 ∧ fp0 ≤ 2147483647) (hq0 : (k0 < mm)) (hq1 : (tk = ss k0)) (hq2 : (ss (mm - 1) = 0)) (hq3 : ((S9.length : Int) = x1)) (hq4 : (tf_nsq S9 e9)) (hfu : 8 - x1 ≤ (n : Int)), Met l yX2_readBoth (cd_X2_readBoth :: wsL_law) ({ frames := 6 * n + 20, cells := 0, slots := 0, locals := 90 * n + 325 }) (tf_P g T [.ref a0, .int (Int32.ofInt x1)] (fun H => tf_s H a0 (g.1.2 2 3) = some (.ref t0) ∧ tf_s H t0 (g.1.2 4 2) = some (.int (Int32.ofInt mm)) ∧ tf_s H t0 (g.1.2 4 0) = some (.ref so) ∧ tf_s H t0 (g.1.2 4 1) = some (.ref po) ∧ tf_rw H so = ss ∧ tf_rw H po = pp ∧ tf_s H a0 (g.1.2 2 4) = some (.int (Int32.ofInt k0)) ∧ tf_s H a0 (g.1.2 2 5) = some (.int (Int32.ofInt tk)) ∧ tf_s H a0 (g.1.2 2 6) = some (.int (Int32.ofInt lv)) ∧ tf_s H a0 (g.1.2 2 7) = some (.int (Int32.ofInt fp0)))) (tf_Qi g M_X2_readBoth T (fun z _ H => (z = 0 ∨ z = 1) ∧ (∃ (k1 t1 lv1 fp1 : Int) , tf_s H a0 (g.1.2 2 4) = some (.int (Int32.ofInt k1)) ∧ tf_s H a0 (g.1.2 2 5) = some (.int (Int32.ofInt t1)) ∧ tf_s H a0 (g.1.2 2 6) = some (.int (Int32.ofInt lv1)) ∧ tf_s H a0 (g.1.2 2 7) = some (.int (Int32.ofInt fp1)) ∧ (0 ≤ k1 ∧ k1 ≤ 400) ∧ ((-2147483648) ≤ t1 ∧ t1 ≤ 2147483647) ∧ (0 ≤ lv1 ∧ lv1 ≤ 50) ∧ ((-2147483648) ≤ fp1 ∧ fp1 ≤ 2147483647) ∧ (k1 < mm) ∧ (k0 ≤ k1) ∧ (t1 = ss k1) ∧ (tf_RD ss pp mm (k0, 0, 0, S9, lv, e9, i9) z (k1, 2, 0, S9, lv1, e9, i9) fp1) ∧ (z = 0 ∨ (k0 < k1 ∧ ss k1 ≠ 4)) ∧ (z = 0 ∨ fp1 = fp0)))) 0 0 (fun q => tf_B g ≤ q)
abbrev M_X2_readTest : List (Nat × Nat) := [(0, 0), (30, 1), (30, 4), (30, 5), (30, 6), (30, 7)]
def K_X2_readTest (l : Launch) (g : tf_G) (T : tf_T) (n : Nat) : Prop := ∀ (a0 : Nat) (ha0 : T a0 = some (30, 0)) (x1 : Int) (hp1 : 0 ≤ x1 ∧ x1 ≤ 8) (S9 : List (Int × Int)) (e9 : Int) (i9 : Int) (t0 : Nat) (ht0 : T t0 = some (34, 0)) (so : Nat) (hso : T so = some (24, 401)) (po : Nat) (hpo : T po = some (25, 401)) (mm : Int) (hmm : 1 ≤ mm ∧ mm ≤ 401) (ss : Int → Int) (pp : Int → Int) (k0 : Int) (hk0 : 0 ≤ k0 ∧ k0 ≤ 400) (tk : Int) (htk : (-2147483648) ≤ tk ∧ tk ≤ 2147483647) (lv : Int) (hlv : 0 ≤ lv ∧ lv ≤ 50) (fp0 : Int) (hfp0 : (-2147483648) ≤ fp0 ∧ fp0 ≤ 2147483647) (hq0 : (k0 < mm)) (hq1 : (tk = ss k0)) (hq2 : (ss (mm - 1) = 0)) (hq3 : ((S9.length : Int) = x1)) (hq4 : (tf_nsq S9 e9)) (hfu : 8 - x1 ≤ (n : Int)), Met l yX2_readTest (cd_X2_readTest :: wsL_law) ({ frames := 6 * n + 22, cells := 0, slots := 0, locals := 90 * n + 350 }) (tf_P g T [.ref a0, .int (Int32.ofInt x1)] (fun H => tf_s H a0 (g.1.2 2 3) = some (.ref t0) ∧ tf_s H t0 (g.1.2 4 2) = some (.int (Int32.ofInt mm)) ∧ tf_s H t0 (g.1.2 4 0) = some (.ref so) ∧ tf_s H t0 (g.1.2 4 1) = some (.ref po) ∧ tf_rw H so = ss ∧ tf_rw H po = pp ∧ tf_s H a0 (g.1.2 2 4) = some (.int (Int32.ofInt k0)) ∧ tf_s H a0 (g.1.2 2 5) = some (.int (Int32.ofInt tk)) ∧ tf_s H a0 (g.1.2 2 6) = some (.int (Int32.ofInt lv)) ∧ tf_s H a0 (g.1.2 2 7) = some (.int (Int32.ofInt fp0)))) (tf_Qi g M_X2_readTest T (fun z _ H => (z = 0 ∨ z = 1) ∧ (∃ (k1 t1 lv1 fp1 : Int) , tf_s H a0 (g.1.2 2 4) = some (.int (Int32.ofInt k1)) ∧ tf_s H a0 (g.1.2 2 5) = some (.int (Int32.ofInt t1)) ∧ tf_s H a0 (g.1.2 2 6) = some (.int (Int32.ofInt lv1)) ∧ tf_s H a0 (g.1.2 2 7) = some (.int (Int32.ofInt fp1)) ∧ (0 ≤ k1 ∧ k1 ≤ 400) ∧ ((-2147483648) ≤ t1 ∧ t1 ≤ 2147483647) ∧ (0 ≤ lv1 ∧ lv1 ≤ 50) ∧ ((-2147483648) ≤ fp1 ∧ fp1 ≤ 2147483647) ∧ (k1 < mm) ∧ (k0 ≤ k1) ∧ (t1 = ss k1) ∧ (tf_RD ss pp mm (k0, 0, 0, S9, lv, e9, i9) z (k1, 2, 0, S9, lv1, e9, i9) fp1) ∧ (z = 0 ∨ (k0 < k1 ∧ ss k1 ≠ 3 ∧ ss k1 ≠ 4)) ∧ (z = 0 ∨ fp1 = fp0)))) 0 0 (fun q => tf_B g ≤ q)
set_option maxHeartbeats 4000000 in
set_option maxRecDepth 100000 in
theorem c_X2_readPart (l : Launch) (g : tf_G) (T : tf_T) (n : Nat) (hS : ∀ n1, n = n1 + 1 → K_X2_readSum l g T n1) : K_X2_readPart l g T n := by
  intro a0 ha0 x1 hp1 c9 S9 e9 i9 t0 ht0 so hso po hpo mm hmm ss pp k0 hk0 tk htk lv hlv fp0 hfp0 hq0 hq1 hq2 hq3 hfu
  refine Met.ofW (cc := cX2_readPart) (maxL := 4) (ret := (some .boolean)) (by decide) rfl ?_
  intro p e s m args below meth c s₁ B hml hv
  obtain ⟨hargs, hk, hW0, hB, hpre⟩ := hv
  obtain ⟨he0, he1, he2, he3, he4, he5, he6, he7, he8, he9⟩ := hpre
  have hx := B.exec
  have hb := B.bytes
  have hr := B.returns
  have hts : ∀ w ∈ wsL_law, w.before args s = true := fun w h => atoms_spec (ws := cd_X2_readPart :: wsL_law) B.pre w (List.mem_cons_of_mem _ h)
  have hown : s.vm.findClass RX2 = some m.cls := findClass_of_methodNamed B.named
  have hlocks := B.notSynchronized
  have hK := hk.1
  have hW := tf_n.start (M := M_X2_readPart) hW0 hB
  obtain ⟨Q, hQ⟩ : ∃ q, q = MQ below (tf_Qi g M_X2_readPart T (fun z _ H => (z = 0 ∨ z = 1) ∧ (∃ (k1 t1 lv1 fp1 : Int) , tf_s H a0 (g.1.2 2 4) = some (.int (Int32.ofInt k1)) ∧ tf_s H a0 (g.1.2 2 5) = some (.int (Int32.ofInt t1)) ∧ tf_s H a0 (g.1.2 2 6) = some (.int (Int32.ofInt lv1)) ∧ tf_s H a0 (g.1.2 2 7) = some (.int (Int32.ofInt fp1)) ∧ (0 ≤ k1 ∧ k1 ≤ 400) ∧ ((-2147483648) ≤ t1 ∧ t1 ≤ 2147483647) ∧ (0 ≤ lv1 ∧ lv1 ≤ 50) ∧ ((-2147483648) ≤ fp1 ∧ fp1 ≤ 2147483647) ∧ (k1 < mm) ∧ (k0 ≤ k1) ∧ (t1 = ss k1) ∧ (tf_RD ss pp mm (k0, 1, c9, S9, lv, e9, i9) z (k1, 3, c9, S9, lv1, e9, i9) fp1) ∧ (z = 0 ∨ (k0 < k1)) ∧ (z = 0 ∨ fp1 = fp0)))) args s 0 0 (fun q => tf_B g ≤ q) := ⟨_, rfl⟩
  rw [← hQ]
  obtain ⟨R, hR⟩ : ∃ q, q = (headSpec (cd_X2_readPart :: wsL_law) ({ frames := 6 * n + 10, cells := 0, slots := 0, locals := 90 * n + 200 })).room := ⟨_, rfl⟩
  rw [← hR]
  have hR1 : 6 * n + 10 ≤ R.frames := by rw [hR]; exact Nat.le_refl _
  have hR2 : 90 * n + 200 ≤ R.locals := by rw [hR]; exact Nat.le_refl _
  have hR3 : 0 ≤ R.cells := by rw [hR]; exact Nat.le_refl _
  have hR4 : 0 ≤ R.slots := by rw [hR]; exact Nat.le_refl _
  have hin := (name_of_methodNamed B.named B.method).1
  clear hR B
  refine tf_enter (As := [.ref a0, .int (Int32.ofInt x1)]) hargs (Nat.le_of_ble_eq_true rfl) (fun ls hl => ?_)
  have hl : lv_has ls 4 [(0, .ref a0), (1, .int (Int32.ofInt x1))] := hl
  refine lv_aload_n hx hb dX2_readPart_0 rfl (lv_at hl 0 rfl) ?_
  refine tf_get hx hb hts inlX2 hown hK (ci := 2) rfl hW ha0 rfl 5 rfl (by decide) (hts _ fl_X2_32) dX2_readPart_1 (fun v1 hv1 hsv1 => ?_)
  obtain rfl : v1 = .int (Int32.ofInt tk) := Option.some.inj (hsv1.symm.trans he7)
  refine tf_sipush hx hb dX2_readPart_4 (by decide) ?_
  refine tf_icmp_ne (tgt := 51) hx hb ⟨by omega, by omega⟩ ⟨by decide, by decide⟩ dX2_readPart_7 (by decide) (fun h2 => ?_) (fun h2 => ?_)
  · refine lv_aload_n hx hb dX2_readPart_51 rfl (lv_at hl 0 rfl) ?_
    refine tf_get hx hb hts inlX2 hown hK (ci := 2) rfl hW ha0 rfl 5 rfl (by decide) (hts _ fl_X2_32) dX2_readPart_52 (fun v3 hv3 hsv3 => ?_)
    obtain rfl : v3 = .int (Int32.ofInt tk) := Option.some.inj (hsv3.symm.trans he7)
    refine tf_sipush hx hb dX2_readPart_55 (by decide) ?_
    refine tf_sipush hx hb dX2_readPart_58 (by decide) ?_
    refine tf_calli (va_runSN (As := [.int (Int32.ofInt tk), .int (Int32.ofInt 2000), .int (Int32.ofInt 3000)]) (rest := []) ⟨hx, hb, hml, hown, hts⟩ (c_X9_isWithin l g T (tk) ⟨by omega, by omega⟩ (2000) ⟨by omega, by omega⟩ (3000) ⟨by omega, by omega⟩) ⟨va_cnB 3 hts (gw_ws cm_X9_isWithin) rfl rfl rfl (hk.2.1 _ nw_17) (hts _ (tw1 (i := 2) rfl)) hd_X9_isWithin.2 ⟨Nat.le_trans (show 1 + 1 ≤ 6 * n + 10 by omega) hR1, Nat.le_trans (show 8 + (3 + 11) + (24) ≤ 90 * n + 200 by omega) hR2⟩, hts _ (tw8 (i := 17) rfl), trivial⟩ (tf_preS hk hW trivial) rfl rfl hl.1 rfl (lv_room (Nat.le_of_ble_eq_true rfl)) dX2_readPart_61 ⟨Nat.zero_le _, Nat.zero_le _⟩) hW (by decide) (fun z4 H4 locs4 hW hF4 hp4 => ?_)
    have hs5 := tf_keepF hF4 ha0 rfl rfl (by decide) he0
    have hs6 := tf_keepF hF4 ht0 rfl rfl (by decide) he1
    have hs7 := tf_keepF hF4 ht0 rfl rfl (by decide) he2
    have hs8 := tf_keepF hF4 ht0 rfl rfl (by decide) he3
    have hs9 := tf_keepC hF4 hso rfl (by decide) he4
    have hs10 := tf_keepC hF4 hpo rfl (by decide) he5
    have hs11 := tf_keepF hF4 ha0 rfl rfl (by decide) he6
    have hs12 := tf_keepF hF4 ha0 rfl rfl (by decide) he7
    have hs13 := tf_keepF hF4 ha0 rfl rfl (by decide) he8
    have hs14 := tf_keepF hF4 ha0 rfl rfl (by decide) he9
    rcases hp4 with ⟨rfl, h15, h16⟩ | ⟨rfl, h17⟩
    · refine lv_istore_n (lv' := [(2, .int (Int32.ofInt 1)), (0, .ref a0), (1, .int (Int32.ofInt x1))]) hx hb dX2_readPart_64 rfl hl (by decide) rfl (fun ls hl => ?_)
      refine lv_aload_n hx hb dX2_readPart_65 rfl (lv_at hl 1 rfl) ?_
      refine tf_get hx hb hts inlX2 hown hK (ci := 2) rfl hW ha0 rfl 5 rfl (by decide) (hts _ fl_X2_32) dX2_readPart_66 (fun v18 hv18 hsv18 => ?_)
      obtain rfl : v18 = .int (Int32.ofInt tk) := Option.some.inj (hsv18.symm.trans hs12)
      refine tf_bipush hx hb dX2_readPart_69 (by decide) ?_
      refine tf_icmp_lt (tgt := 87) hx hb ⟨by omega, by omega⟩ ⟨by decide, by decide⟩ dX2_readPart_71 (by decide) (fun h19 => ?_) (fun h19 => ?_)
      · exfalso; omega
      · refine lv_aload_n hx hb dX2_readPart_74 rfl (lv_at hl 1 rfl) ?_
        refine tf_get hx hb hts inlX2 hown hK (ci := 2) rfl hW ha0 rfl 5 rfl (by decide) (hts _ fl_X2_32) dX2_readPart_75 (fun v20 hv20 hsv20 => ?_)
        obtain rfl : v20 = .int (Int32.ofInt tk) := Option.some.inj (hsv20.symm.trans hs12)
        refine tf_bipush hx hb dX2_readPart_78 (by decide) ?_
        refine tf_icmp_ge (tgt := 87) hx hb ⟨by omega, by omega⟩ ⟨by decide, by decide⟩ dX2_readPart_80 (by decide) (fun h21 => ?_) (fun h21 => ?_)
        · refine tf_iconst hx hb dX2_readPart_87 ?_
          refine lv_istore_n (lv' := [(3, .int (Int32.ofInt 0)), (2, .int (Int32.ofInt 1)), (0, .ref a0), (1, .int (Int32.ofInt x1))]) hx hb dX2_readPart_88 rfl hl (by decide) rfl (fun ls hl => ?_)
          refine lv_iload_n hx hb dX2_readPart_89 rfl (lv_at hl 1 rfl) ?_
          refine tf_if_ne (tgt := 97) hx hb ⟨by decide, by decide⟩ dX2_readPart_90 (by decide) (fun h22 => ?_) (fun h22 => ?_)
          · refine lv_aload_n hx hb dX2_readPart_97 rfl (lv_at hl 2 rfl) ?_
            refine tf_get hx hb hts inlX2 hown hK (ci := 2) rfl hW ha0 rfl 6 rfl (by decide) (hts _ fl_X2_35) dX2_readPart_98 (fun v23 hv23 hsv23 => ?_)
            obtain rfl : v23 = .int (Int32.ofInt lv) := Option.some.inj (hsv23.symm.trans hs13)
            refine tf_bipush hx hb dX2_readPart_101 (by decide) ?_
            refine tf_icmp_lt (tgt := 111) hx hb ⟨by omega, by omega⟩ ⟨by decide, by decide⟩ dX2_readPart_103 (by decide) (fun h24 => ?_) (fun h24 => ?_)
            · refine lv_aload_n hx hb dX2_readPart_111 rfl (lv_at hl 2 rfl) ?_
              refine lv_dup hx hb dX2_readPart_112 rfl ?_
              refine tf_get hx hb hts inlX2 hown hK (ci := 2) rfl hW ha0 rfl 6 rfl (by decide) (hts _ fl_X2_35) dX2_readPart_113 (fun v25 hv25 hsv25 => ?_)
              obtain rfl : v25 = .int (Int32.ofInt lv) := Option.some.inj (hsv25.symm.trans hs13)
              refine tf_iconst hx hb dX2_readPart_116 ?_
              refine tf_iadd hx hb dX2_readPart_117 ?_
              refine tf_put hx hb hts inlX2 tyX2 tyX2_ok nmX2 hown hK (ci := 2) rfl hW ha0 rfl rfl 6 rfl (by decide) (by decide) (hts _ fl_X2_35) rfl (tf_u0 (by omega) (by omega)) rfl rfl dX2_readPart_118 (fun H26 locs26 hW hs26 ht26 hq26 => ?_)
              have hs27 := (ht26 3 (by decide) (by decide)).trans hs5
              have hs28 := tf_keepQ hs6 (hq26 _ (tf_ne ht0 ha0 (by decide)))
              have hs29 := tf_keepQ hs7 (hq26 _ (tf_ne ht0 ha0 (by decide)))
              have hs30 := tf_keepQ hs8 (hq26 _ (tf_ne ht0 ha0 (by decide)))
              have hs31 := tf_keepCQ hs9 (hq26 _ (tf_ne hso ha0 (by decide)))
              have hs32 := tf_keepCQ hs10 (hq26 _ (tf_ne hpo ha0 (by decide)))
              have hs33 := (ht26 4 (by decide) (by decide)).trans hs11
              have hs34 := (ht26 5 (by decide) (by decide)).trans hs12
              have hs35 := (ht26 7 (by decide) (by decide)).trans hs14
              refine lv_aload_n hx hb dX2_readPart_121 rfl (lv_at hl 2 rfl) ?_
              refine lv_iload_n hx hb dX2_readPart_122 rfl (lv_at hl 1 rfl) ?_
              refine tf_if_eq (tgt := 130) hx hb ⟨by decide, by decide⟩ dX2_readPart_123 (by decide) (fun h36 => ?_) (fun h36 => ?_)
              · exfalso; omega
              · refine tf_iconst hx hb dX2_readPart_126 ?_
                refine lv_goto (tgt := 131) hx hb dX2_readPart_127 (by decide) ?_
                refine lv_aload_n hx hb dX2_readPart_131 rfl (lv_at hl 2 rfl) ?_
                refine tf_get hx hb hts inlX2 hown hK (ci := 2) rfl hW ha0 rfl 5 rfl (by decide) (hts _ fl_X2_32) dX2_readPart_132 (fun v37 hv37 hsv37 => ?_)
                obtain rfl : v37 = .int (Int32.ofInt tk) := Option.some.inj (hsv37.symm.trans hs34)
                refine lv_iload_n hx hb dX2_readPart_135 rfl (lv_at hl 1 rfl) ?_
                refine tf_if_eq (tgt := 145) hx hb ⟨by decide, by decide⟩ dX2_readPart_136 (by decide) (fun h38 => ?_) (fun h38 => ?_)
                · exfalso; omega
                · refine tf_sipush hx hb dX2_readPart_139 (by decide) ?_
                  refine lv_goto (tgt := 147) hx hb dX2_readPart_142 (by decide) ?_
                  refine tf_isub hx hb dX2_readPart_147 ?_
                  refine tf_callv (va_runV (As := [.int (Int32.ofInt 0), .int (Int32.ofInt ((tk - 2000)))]) (rest := []) ⟨hx, hb, hml, hown, hts⟩ (c_X2_add l g T a0 ha0 (0) ⟨by omega, by omega⟩ ((tk - 2000)) ⟨by omega, by omega⟩) (cwV 2 hts gv_X2_93 rfl rfl rfl hd_X2_add ⟨Nat.le_trans (show 1 + 1 ≤ 6 * n + 10 by omega) hR1, Nat.le_trans (show 8 + (3 + 11) + (24) ≤ 90 * n + 200 by omega) hR2⟩) (tf_preV hk hW ha0 (ci := 2) rfl rfl trivial) rfl rfl hl.1 rfl (lv_room (Nat.le_of_ble_eq_true rfl)) dX2_readPart_148 ⟨Nat.zero_le _, Nat.zero_le _⟩) hW (by decide) (fun H39 locs39 hW hF39 hp39 => ?_)
                  have hs40 := tf_keepF hF39 ha0 rfl rfl (by decide) hs27
                  have hs41 := tf_keepF hF39 ht0 rfl rfl (by decide) hs28
                  have hs42 := tf_keepF hF39 ht0 rfl rfl (by decide) hs29
                  have hs43 := tf_keepF hF39 ht0 rfl rfl (by decide) hs30
                  have hs44 := tf_keepC hF39 hso rfl (by decide) hs31
                  have hs45 := tf_keepC hF39 hpo rfl (by decide) hs32
                  have hs46 := tf_keepF hF39 ha0 rfl rfl (by decide) hs33
                  have hs47 := tf_keepF hF39 ha0 rfl rfl (by decide) hs34
                  have hs48 := tf_keepF hF39 ha0 rfl rfl (by decide) hs35
                  have hs49 := tf_keepF hF39 ha0 rfl rfl (by decide) hs26
                  refine lv_aload_n hx hb dX2_readPart_151 rfl (lv_at hl 2 rfl) ?_
                  refine tf_callv (va_runV (As := []) (rest := []) ⟨hx, hb, hml, hown, hts⟩ (c_X2_next l g T a0 ha0 t0 ht0 so hso (mm) ⟨by omega, by omega⟩ ss (k0) ⟨by omega, by omega⟩ (by first | assumption | omega) (by first | assumption | omega)) (cwV 0 hts gv_X2_73 rfl rfl rfl hd_X2_next ⟨Nat.le_trans (show 1 + 1 ≤ 6 * n + 10 by omega) hR1, Nat.le_trans (show 8 + (1 + 11) + (40) ≤ 90 * n + 200 by omega) hR2⟩) (tf_preV hk hW ha0 (ci := 2) rfl rfl ⟨hs40, hs41, hs42, hs44, hs46⟩) rfl rfl hl.1 rfl (lv_room (Nat.le_of_ble_eq_true rfl)) dX2_readPart_152 ⟨Nat.zero_le _, Nat.zero_le _⟩) hW (by decide) (fun HM locsM hW hFM hpM => ?_)
                  have hs50 := tf_keepF hFM ha0 rfl rfl (by decide) hs40
                  have hs51 := tf_keepF hFM ht0 rfl rfl (by decide) hs41
                  have hs52 := tf_keepF hFM ht0 rfl rfl (by decide) hs42
                  have hs53 := tf_keepF hFM ht0 rfl rfl (by decide) hs43
                  have hs54 := tf_keepC hFM hso rfl (by decide) hs44
                  have hs55 := tf_keepC hFM hpo rfl (by decide) hs45
                  have hs56 := tf_keepF hFM ha0 rfl rfl (by decide) hs48
                  have hs57 := tf_keepF hFM ha0 rfl rfl (by decide) hs49
                  obtain ⟨k1_M, t1_M, hXM_0, hXM_1, hBM_0, hBM_1, hRM_0, hRM_1, hRM_2, hRM_3⟩ := hpM
                  refine tf_iconst hx hb dX2_readPart_155 ?_
                  exact tf_retz (z := 1) hx hb hr hlocks hQ hW (by omega) ⟨by omega, ⟨(k1_M), (t1_M), ((lv + 1)), (fp0), hXM_0, hXM_1, hs57, hs56, ⟨by omega, by omega⟩, ⟨by omega, by omega⟩, ⟨by omega, by omega⟩, ⟨by omega, by omega⟩, (by first | assumption | omega), (by first | assumption | omega), (by first | assumption | omega), (tf_RD_ok (by omega) (tf_Re_1 (tf_p_leaf (by omega) (by omega) hRM_0 (by omega)))), (by first | assumption | omega), (by first | assumption | omega)⟩⟩ dX2_readPart_156
            · refine lv_aload_n hx hb dX2_readPart_106 rfl (lv_at hl 2 rfl) ?_
              refine tf_calli (va_runV (As := []) (rest := []) ⟨hx, hb, hml, hown, hts⟩ (c_X2_failHere l g T a0 ha0 t0 ht0 po hpo pp (k0) ⟨by omega, by omega⟩) (cwV 0 hts gv_X2_66 rfl rfl rfl hd_X2_failHere ⟨Nat.le_trans (show 1 + 1 ≤ 6 * n + 10 by omega) hR1, Nat.le_trans (show 8 + (1 + 11) + (24) ≤ 90 * n + 200 by omega) hR2⟩) (tf_preV hk hW ha0 (ci := 2) rfl rfl ⟨hs5, hs8, hs10, hs11⟩) rfl rfl hl.1 rfl (lv_room (Nat.le_of_ble_eq_true rfl)) dX2_readPart_107 ⟨Nat.zero_le _, Nat.zero_le _⟩) hW (by decide) (fun zF HF locsF hW hFF hpF => ?_)
              have hs58 := tf_keepF hFF ha0 rfl rfl (by decide) hs5
              have hs59 := tf_keepF hFF ht0 rfl rfl (by decide) hs6
              have hs60 := tf_keepF hFF ht0 rfl rfl (by decide) hs7
              have hs61 := tf_keepF hFF ht0 rfl rfl (by decide) hs8
              have hs62 := tf_keepC hFF hso rfl (by decide) hs9
              have hs63 := tf_keepC hFF hpo rfl (by decide) hs10
              have hs64 := tf_keepF hFF ha0 rfl rfl (by decide) hs11
              have hs65 := tf_keepF hFF ha0 rfl rfl (by decide) hs12
              have hs66 := tf_keepF hFF ha0 rfl rfl (by decide) hs13
              obtain ⟨hpF_0, hpF_1⟩ := hpF
              obtain ⟨fp1_F, hXF_0, hBF_0, hRF_0, hRF_1⟩ := hpF_1
              exact tf_retz (z := zF) hx hb hr hlocks hQ hW (by omega) ⟨by omega, ⟨(k0), (tk), (lv), (fp1_F), hs64, hs65, hs66, hXF_0, ⟨by omega, by omega⟩, ⟨by omega, by omega⟩, ⟨by omega, by omega⟩, ⟨by omega, by omega⟩, (by first | assumption | omega), (by first | assumption | omega), (by first | assumption | omega), (tf_RD_n (by omega) (tf_p_bad (by omega) (by omega)) (by decide) (by omega)), (by first | assumption | omega), (by first | assumption | omega)⟩⟩ dX2_readPart_110
          · exfalso; omega
        · exfalso; omega
    · refine lv_istore_n (lv' := [(2, .int (Int32.ofInt 0)), (0, .ref a0), (1, .int (Int32.ofInt x1))]) hx hb dX2_readPart_64 rfl hl (by decide) rfl (fun ls hl => ?_)
      refine lv_aload_n hx hb dX2_readPart_65 rfl (lv_at hl 1 rfl) ?_
      refine tf_get hx hb hts inlX2 hown hK (ci := 2) rfl hW ha0 rfl 5 rfl (by decide) (hts _ fl_X2_32) dX2_readPart_66 (fun v67 hv67 hsv67 => ?_)
      obtain rfl : v67 = .int (Int32.ofInt tk) := Option.some.inj (hsv67.symm.trans hs12)
      refine tf_bipush hx hb dX2_readPart_69 (by decide) ?_
      refine tf_icmp_lt (tgt := 87) hx hb ⟨by omega, by omega⟩ ⟨by decide, by decide⟩ dX2_readPart_71 (by decide) (fun h68 => ?_) (fun h68 => ?_)
      · refine tf_iconst hx hb dX2_readPart_87 ?_
        refine lv_istore_n (lv' := [(3, .int (Int32.ofInt 0)), (2, .int (Int32.ofInt 0)), (0, .ref a0), (1, .int (Int32.ofInt x1))]) hx hb dX2_readPart_88 rfl hl (by decide) rfl (fun ls hl => ?_)
        refine lv_iload_n hx hb dX2_readPart_89 rfl (lv_at hl 1 rfl) ?_
        refine tf_if_ne (tgt := 97) hx hb ⟨by decide, by decide⟩ dX2_readPart_90 (by decide) (fun h69 => ?_) (fun h69 => ?_)
        · exfalso; omega
        · refine lv_iload_n hx hb dX2_readPart_93 rfl (lv_at hl 0 rfl) ?_
          refine tf_if_eq (tgt := 106) hx hb ⟨by decide, by decide⟩ dX2_readPart_94 (by decide) (fun h70 => ?_) (fun h70 => ?_)
          · refine lv_aload_n hx hb dX2_readPart_106 rfl (lv_at hl 2 rfl) ?_
            refine tf_calli (va_runV (As := []) (rest := []) ⟨hx, hb, hml, hown, hts⟩ (c_X2_failHere l g T a0 ha0 t0 ht0 po hpo pp (k0) ⟨by omega, by omega⟩) (cwV 0 hts gv_X2_66 rfl rfl rfl hd_X2_failHere ⟨Nat.le_trans (show 1 + 1 ≤ 6 * n + 10 by omega) hR1, Nat.le_trans (show 8 + (1 + 11) + (24) ≤ 90 * n + 200 by omega) hR2⟩) (tf_preV hk hW ha0 (ci := 2) rfl rfl ⟨hs5, hs8, hs10, hs11⟩) rfl rfl hl.1 rfl (lv_room (Nat.le_of_ble_eq_true rfl)) dX2_readPart_107 ⟨Nat.zero_le _, Nat.zero_le _⟩) hW (by decide) (fun zF HF locsF hW hFF hpF => ?_)
            have hs71 := tf_keepF hFF ha0 rfl rfl (by decide) hs5
            have hs72 := tf_keepF hFF ht0 rfl rfl (by decide) hs6
            have hs73 := tf_keepF hFF ht0 rfl rfl (by decide) hs7
            have hs74 := tf_keepF hFF ht0 rfl rfl (by decide) hs8
            have hs75 := tf_keepC hFF hso rfl (by decide) hs9
            have hs76 := tf_keepC hFF hpo rfl (by decide) hs10
            have hs77 := tf_keepF hFF ha0 rfl rfl (by decide) hs11
            have hs78 := tf_keepF hFF ha0 rfl rfl (by decide) hs12
            have hs79 := tf_keepF hFF ha0 rfl rfl (by decide) hs13
            obtain ⟨hpF_0, hpF_1⟩ := hpF
            obtain ⟨fp1_F, hXF_0, hBF_0, hRF_0, hRF_1⟩ := hpF_1
            exact tf_retz (z := zF) hx hb hr hlocks hQ hW (by omega) ⟨by omega, ⟨(k0), (tk), (lv), (fp1_F), hs77, hs78, hs79, hXF_0, ⟨by omega, by omega⟩, ⟨by omega, by omega⟩, ⟨by omega, by omega⟩, ⟨by omega, by omega⟩, (by first | assumption | omega), (by first | assumption | omega), (by first | assumption | omega), (tf_RD_n (by omega) (tf_p_bad (by omega) (by omega)) (by decide) (by omega)), (by first | assumption | omega), (by first | assumption | omega)⟩⟩ dX2_readPart_110
          · exfalso; omega
      · refine lv_aload_n hx hb dX2_readPart_74 rfl (lv_at hl 1 rfl) ?_
        refine tf_get hx hb hts inlX2 hown hK (ci := 2) rfl hW ha0 rfl 5 rfl (by decide) (hts _ fl_X2_32) dX2_readPart_75 (fun v80 hv80 hsv80 => ?_)
        obtain rfl : v80 = .int (Int32.ofInt tk) := Option.some.inj (hsv80.symm.trans hs12)
        refine tf_bipush hx hb dX2_readPart_78 (by decide) ?_
        refine tf_icmp_ge (tgt := 87) hx hb ⟨by omega, by omega⟩ ⟨by decide, by decide⟩ dX2_readPart_80 (by decide) (fun h81 => ?_) (fun h81 => ?_)
        · refine tf_iconst hx hb dX2_readPart_87 ?_
          refine lv_istore_n (lv' := [(3, .int (Int32.ofInt 0)), (2, .int (Int32.ofInt 0)), (0, .ref a0), (1, .int (Int32.ofInt x1))]) hx hb dX2_readPart_88 rfl hl (by decide) rfl (fun ls hl => ?_)
          refine lv_iload_n hx hb dX2_readPart_89 rfl (lv_at hl 1 rfl) ?_
          refine tf_if_ne (tgt := 97) hx hb ⟨by decide, by decide⟩ dX2_readPart_90 (by decide) (fun h82 => ?_) (fun h82 => ?_)
          · exfalso; omega
          · refine lv_iload_n hx hb dX2_readPart_93 rfl (lv_at hl 0 rfl) ?_
            refine tf_if_eq (tgt := 106) hx hb ⟨by decide, by decide⟩ dX2_readPart_94 (by decide) (fun h83 => ?_) (fun h83 => ?_)
            · refine lv_aload_n hx hb dX2_readPart_106 rfl (lv_at hl 2 rfl) ?_
              refine tf_calli (va_runV (As := []) (rest := []) ⟨hx, hb, hml, hown, hts⟩ (c_X2_failHere l g T a0 ha0 t0 ht0 po hpo pp (k0) ⟨by omega, by omega⟩) (cwV 0 hts gv_X2_66 rfl rfl rfl hd_X2_failHere ⟨Nat.le_trans (show 1 + 1 ≤ 6 * n + 10 by omega) hR1, Nat.le_trans (show 8 + (1 + 11) + (24) ≤ 90 * n + 200 by omega) hR2⟩) (tf_preV hk hW ha0 (ci := 2) rfl rfl ⟨hs5, hs8, hs10, hs11⟩) rfl rfl hl.1 rfl (lv_room (Nat.le_of_ble_eq_true rfl)) dX2_readPart_107 ⟨Nat.zero_le _, Nat.zero_le _⟩) hW (by decide) (fun zF HF locsF hW hFF hpF => ?_)
              have hs84 := tf_keepF hFF ha0 rfl rfl (by decide) hs5
              have hs85 := tf_keepF hFF ht0 rfl rfl (by decide) hs6
              have hs86 := tf_keepF hFF ht0 rfl rfl (by decide) hs7
              have hs87 := tf_keepF hFF ht0 rfl rfl (by decide) hs8
              have hs88 := tf_keepC hFF hso rfl (by decide) hs9
              have hs89 := tf_keepC hFF hpo rfl (by decide) hs10
              have hs90 := tf_keepF hFF ha0 rfl rfl (by decide) hs11
              have hs91 := tf_keepF hFF ha0 rfl rfl (by decide) hs12
              have hs92 := tf_keepF hFF ha0 rfl rfl (by decide) hs13
              obtain ⟨hpF_0, hpF_1⟩ := hpF
              obtain ⟨fp1_F, hXF_0, hBF_0, hRF_0, hRF_1⟩ := hpF_1
              exact tf_retz (z := zF) hx hb hr hlocks hQ hW (by omega) ⟨by omega, ⟨(k0), (tk), (lv), (fp1_F), hs90, hs91, hs92, hXF_0, ⟨by omega, by omega⟩, ⟨by omega, by omega⟩, ⟨by omega, by omega⟩, ⟨by omega, by omega⟩, (by first | assumption | omega), (by first | assumption | omega), (by first | assumption | omega), (tf_RD_n (by omega) (tf_p_bad (by omega) (by omega)) (by decide) (by omega)), (by first | assumption | omega), (by first | assumption | omega)⟩⟩ dX2_readPart_110
            · exfalso; omega
        · refine tf_iconst hx hb dX2_readPart_83 ?_
          refine lv_goto (tgt := 88) hx hb dX2_readPart_84 (by decide) ?_
          refine lv_istore_n (lv' := [(3, .int (Int32.ofInt 1)), (2, .int (Int32.ofInt 0)), (0, .ref a0), (1, .int (Int32.ofInt x1))]) hx hb dX2_readPart_88 rfl hl (by decide) rfl (fun ls hl => ?_)
          refine lv_iload_n hx hb dX2_readPart_89 rfl (lv_at hl 1 rfl) ?_
          refine tf_if_ne (tgt := 97) hx hb ⟨by decide, by decide⟩ dX2_readPart_90 (by decide) (fun h93 => ?_) (fun h93 => ?_)
          · exfalso; omega
          · refine lv_iload_n hx hb dX2_readPart_93 rfl (lv_at hl 0 rfl) ?_
            refine tf_if_eq (tgt := 106) hx hb ⟨by decide, by decide⟩ dX2_readPart_94 (by decide) (fun h94 => ?_) (fun h94 => ?_)
            · exfalso; omega
            · refine lv_aload_n hx hb dX2_readPart_97 rfl (lv_at hl 2 rfl) ?_
              refine tf_get hx hb hts inlX2 hown hK (ci := 2) rfl hW ha0 rfl 6 rfl (by decide) (hts _ fl_X2_35) dX2_readPart_98 (fun v95 hv95 hsv95 => ?_)
              obtain rfl : v95 = .int (Int32.ofInt lv) := Option.some.inj (hsv95.symm.trans hs13)
              refine tf_bipush hx hb dX2_readPart_101 (by decide) ?_
              refine tf_icmp_lt (tgt := 111) hx hb ⟨by omega, by omega⟩ ⟨by decide, by decide⟩ dX2_readPart_103 (by decide) (fun h96 => ?_) (fun h96 => ?_)
              · refine lv_aload_n hx hb dX2_readPart_111 rfl (lv_at hl 2 rfl) ?_
                refine lv_dup hx hb dX2_readPart_112 rfl ?_
                refine tf_get hx hb hts inlX2 hown hK (ci := 2) rfl hW ha0 rfl 6 rfl (by decide) (hts _ fl_X2_35) dX2_readPart_113 (fun v97 hv97 hsv97 => ?_)
                obtain rfl : v97 = .int (Int32.ofInt lv) := Option.some.inj (hsv97.symm.trans hs13)
                refine tf_iconst hx hb dX2_readPart_116 ?_
                refine tf_iadd hx hb dX2_readPart_117 ?_
                refine tf_put hx hb hts inlX2 tyX2 tyX2_ok nmX2 hown hK (ci := 2) rfl hW ha0 rfl rfl 6 rfl (by decide) (by decide) (hts _ fl_X2_35) rfl (tf_u0 (by omega) (by omega)) rfl rfl dX2_readPart_118 (fun H98 locs98 hW hs98 ht98 hq98 => ?_)
                have hs99 := (ht98 3 (by decide) (by decide)).trans hs5
                have hs100 := tf_keepQ hs6 (hq98 _ (tf_ne ht0 ha0 (by decide)))
                have hs101 := tf_keepQ hs7 (hq98 _ (tf_ne ht0 ha0 (by decide)))
                have hs102 := tf_keepQ hs8 (hq98 _ (tf_ne ht0 ha0 (by decide)))
                have hs103 := tf_keepCQ hs9 (hq98 _ (tf_ne hso ha0 (by decide)))
                have hs104 := tf_keepCQ hs10 (hq98 _ (tf_ne hpo ha0 (by decide)))
                have hs105 := (ht98 4 (by decide) (by decide)).trans hs11
                have hs106 := (ht98 5 (by decide) (by decide)).trans hs12
                have hs107 := (ht98 7 (by decide) (by decide)).trans hs14
                refine lv_aload_n hx hb dX2_readPart_121 rfl (lv_at hl 2 rfl) ?_
                refine lv_iload_n hx hb dX2_readPart_122 rfl (lv_at hl 1 rfl) ?_
                refine tf_if_eq (tgt := 130) hx hb ⟨by decide, by decide⟩ dX2_readPart_123 (by decide) (fun h108 => ?_) (fun h108 => ?_)
                · refine tf_iconst hx hb dX2_readPart_130 ?_
                  refine lv_aload_n hx hb dX2_readPart_131 rfl (lv_at hl 2 rfl) ?_
                  refine tf_get hx hb hts inlX2 hown hK (ci := 2) rfl hW ha0 rfl 5 rfl (by decide) (hts _ fl_X2_32) dX2_readPart_132 (fun v109 hv109 hsv109 => ?_)
                  obtain rfl : v109 = .int (Int32.ofInt tk) := Option.some.inj (hsv109.symm.trans hs106)
                  refine lv_iload_n hx hb dX2_readPart_135 rfl (lv_at hl 1 rfl) ?_
                  refine tf_if_eq (tgt := 145) hx hb ⟨by decide, by decide⟩ dX2_readPart_136 (by decide) (fun h110 => ?_) (fun h110 => ?_)
                  · refine tf_bipush hx hb dX2_readPart_145 (by decide) ?_
                    refine tf_isub hx hb dX2_readPart_147 ?_
                    refine tf_callv (va_runV (As := [.int (Int32.ofInt 1), .int (Int32.ofInt ((tk - 16)))]) (rest := []) ⟨hx, hb, hml, hown, hts⟩ (c_X2_add l g T a0 ha0 (1) ⟨by omega, by omega⟩ ((tk - 16)) ⟨by omega, by omega⟩) (cwV 2 hts gv_X2_93 rfl rfl rfl hd_X2_add ⟨Nat.le_trans (show 1 + 1 ≤ 6 * n + 10 by omega) hR1, Nat.le_trans (show 8 + (3 + 11) + (24) ≤ 90 * n + 200 by omega) hR2⟩) (tf_preV hk hW ha0 (ci := 2) rfl rfl trivial) rfl rfl hl.1 rfl (lv_room (Nat.le_of_ble_eq_true rfl)) dX2_readPart_148 ⟨Nat.zero_le _, Nat.zero_le _⟩) hW (by decide) (fun H111 locs111 hW hF111 hp111 => ?_)
                    have hs112 := tf_keepF hF111 ha0 rfl rfl (by decide) hs99
                    have hs113 := tf_keepF hF111 ht0 rfl rfl (by decide) hs100
                    have hs114 := tf_keepF hF111 ht0 rfl rfl (by decide) hs101
                    have hs115 := tf_keepF hF111 ht0 rfl rfl (by decide) hs102
                    have hs116 := tf_keepC hF111 hso rfl (by decide) hs103
                    have hs117 := tf_keepC hF111 hpo rfl (by decide) hs104
                    have hs118 := tf_keepF hF111 ha0 rfl rfl (by decide) hs105
                    have hs119 := tf_keepF hF111 ha0 rfl rfl (by decide) hs106
                    have hs120 := tf_keepF hF111 ha0 rfl rfl (by decide) hs107
                    have hs121 := tf_keepF hF111 ha0 rfl rfl (by decide) hs98
                    refine lv_aload_n hx hb dX2_readPart_151 rfl (lv_at hl 2 rfl) ?_
                    refine tf_callv (va_runV (As := []) (rest := []) ⟨hx, hb, hml, hown, hts⟩ (c_X2_next l g T a0 ha0 t0 ht0 so hso (mm) ⟨by omega, by omega⟩ ss (k0) ⟨by omega, by omega⟩ (by first | assumption | omega) (by first | assumption | omega)) (cwV 0 hts gv_X2_73 rfl rfl rfl hd_X2_next ⟨Nat.le_trans (show 1 + 1 ≤ 6 * n + 10 by omega) hR1, Nat.le_trans (show 8 + (1 + 11) + (40) ≤ 90 * n + 200 by omega) hR2⟩) (tf_preV hk hW ha0 (ci := 2) rfl rfl ⟨hs112, hs113, hs114, hs116, hs118⟩) rfl rfl hl.1 rfl (lv_room (Nat.le_of_ble_eq_true rfl)) dX2_readPart_152 ⟨Nat.zero_le _, Nat.zero_le _⟩) hW (by decide) (fun HM locsM hW hFM hpM => ?_)
                    have hs122 := tf_keepF hFM ha0 rfl rfl (by decide) hs112
                    have hs123 := tf_keepF hFM ht0 rfl rfl (by decide) hs113
                    have hs124 := tf_keepF hFM ht0 rfl rfl (by decide) hs114
                    have hs125 := tf_keepF hFM ht0 rfl rfl (by decide) hs115
                    have hs126 := tf_keepC hFM hso rfl (by decide) hs116
                    have hs127 := tf_keepC hFM hpo rfl (by decide) hs117
                    have hs128 := tf_keepF hFM ha0 rfl rfl (by decide) hs120
                    have hs129 := tf_keepF hFM ha0 rfl rfl (by decide) hs121
                    obtain ⟨k1_M, t1_M, hXM_0, hXM_1, hBM_0, hBM_1, hRM_0, hRM_1, hRM_2, hRM_3⟩ := hpM
                    refine tf_iconst hx hb dX2_readPart_155 ?_
                    exact tf_retz (z := 1) hx hb hr hlocks hQ hW (by omega) ⟨by omega, ⟨(k1_M), (t1_M), ((lv + 1)), (fp0), hXM_0, hXM_1, hs129, hs128, ⟨by omega, by omega⟩, ⟨by omega, by omega⟩, ⟨by omega, by omega⟩, ⟨by omega, by omega⟩, (by first | assumption | omega), (by first | assumption | omega), (by first | assumption | omega), (tf_RD_ok (by omega) (tf_Re_1 (tf_p_leaf (by omega) (by omega) hRM_0 (by omega)))), (by first | assumption | omega), (by first | assumption | omega)⟩⟩ dX2_readPart_156
                  · exfalso; omega
                · exfalso; omega
              · refine lv_aload_n hx hb dX2_readPart_106 rfl (lv_at hl 2 rfl) ?_
                refine tf_calli (va_runV (As := []) (rest := []) ⟨hx, hb, hml, hown, hts⟩ (c_X2_failHere l g T a0 ha0 t0 ht0 po hpo pp (k0) ⟨by omega, by omega⟩) (cwV 0 hts gv_X2_66 rfl rfl rfl hd_X2_failHere ⟨Nat.le_trans (show 1 + 1 ≤ 6 * n + 10 by omega) hR1, Nat.le_trans (show 8 + (1 + 11) + (24) ≤ 90 * n + 200 by omega) hR2⟩) (tf_preV hk hW ha0 (ci := 2) rfl rfl ⟨hs5, hs8, hs10, hs11⟩) rfl rfl hl.1 rfl (lv_room (Nat.le_of_ble_eq_true rfl)) dX2_readPart_107 ⟨Nat.zero_le _, Nat.zero_le _⟩) hW (by decide) (fun zF HF locsF hW hFF hpF => ?_)
                have hs130 := tf_keepF hFF ha0 rfl rfl (by decide) hs5
                have hs131 := tf_keepF hFF ht0 rfl rfl (by decide) hs6
                have hs132 := tf_keepF hFF ht0 rfl rfl (by decide) hs7
                have hs133 := tf_keepF hFF ht0 rfl rfl (by decide) hs8
                have hs134 := tf_keepC hFF hso rfl (by decide) hs9
                have hs135 := tf_keepC hFF hpo rfl (by decide) hs10
                have hs136 := tf_keepF hFF ha0 rfl rfl (by decide) hs11
                have hs137 := tf_keepF hFF ha0 rfl rfl (by decide) hs12
                have hs138 := tf_keepF hFF ha0 rfl rfl (by decide) hs13
                obtain ⟨hpF_0, hpF_1⟩ := hpF
                obtain ⟨fp1_F, hXF_0, hBF_0, hRF_0, hRF_1⟩ := hpF_1
                exact tf_retz (z := zF) hx hb hr hlocks hQ hW (by omega) ⟨by omega, ⟨(k0), (tk), (lv), (fp1_F), hs136, hs137, hs138, hXF_0, ⟨by omega, by omega⟩, ⟨by omega, by omega⟩, ⟨by omega, by omega⟩, ⟨by omega, by omega⟩, (by first | assumption | omega), (by first | assumption | omega), (by first | assumption | omega), (tf_RD_n (by omega) (tf_p_bad (by omega) (by omega)) (by decide) (by omega)), (by first | assumption | omega), (by first | assumption | omega)⟩⟩ dX2_readPart_110
  · refine lv_iload_n hx hb dX2_readPart_10 rfl (lv_at hl 1 rfl) ?_
    refine tf_bipush hx hb dX2_readPart_11 (by decide) ?_
    refine tf_icmp_lt (tgt := 21) hx hb ⟨by omega, by omega⟩ ⟨by decide, by decide⟩ dX2_readPart_13 (by decide) (fun h139 => ?_) (fun h139 => ?_)
    · refine lv_aload_n hx hb dX2_readPart_21 rfl (lv_at hl 0 rfl) ?_
      refine tf_callv (va_runV (As := []) (rest := []) ⟨hx, hb, hml, hown, hts⟩ (c_X2_next l g T a0 ha0 t0 ht0 so hso (mm) ⟨by omega, by omega⟩ ss (k0) ⟨by omega, by omega⟩ (by first | assumption | omega) (by first | assumption | omega)) (cwV 0 hts gv_X2_73 rfl rfl rfl hd_X2_next ⟨Nat.le_trans (show 1 + 1 ≤ 6 * n + 10 by omega) hR1, Nat.le_trans (show 8 + (1 + 11) + (40) ≤ 90 * n + 200 by omega) hR2⟩) (tf_preV hk hW ha0 (ci := 2) rfl rfl ⟨he0, he1, he2, he4, he6⟩) rfl rfl hl.1 rfl (lv_room (Nat.le_of_ble_eq_true rfl)) dX2_readPart_22 ⟨Nat.zero_le _, Nat.zero_le _⟩) hW (by decide) (fun HN locsN hW hFN hpN => ?_)
      have hs140 := tf_keepF hFN ha0 rfl rfl (by decide) he0
      have hs141 := tf_keepF hFN ht0 rfl rfl (by decide) he1
      have hs142 := tf_keepF hFN ht0 rfl rfl (by decide) he2
      have hs143 := tf_keepF hFN ht0 rfl rfl (by decide) he3
      have hs144 := tf_keepC hFN hso rfl (by decide) he4
      have hs145 := tf_keepC hFN hpo rfl (by decide) he5
      have hs146 := tf_keepF hFN ha0 rfl rfl (by decide) he8
      have hs147 := tf_keepF hFN ha0 rfl rfl (by decide) he9
      obtain ⟨k1_N, t1_N, hXN_0, hXN_1, hBN_0, hBN_1, hRN_0, hRN_1, hRN_2, hRN_3⟩ := hpN
      refine lv_aload_n hx hb dX2_readPart_25 rfl (lv_at hl 0 rfl) ?_
      refine lv_iload_n hx hb dX2_readPart_26 rfl (lv_at hl 1 rfl) ?_
      refine tf_iconst hx hb dX2_readPart_27 ?_
      refine tf_iadd hx hb dX2_readPart_28 ?_
      obtain ⟨n1, hn1⟩ : ∃ n1, n = n1 + 1 := ⟨n - 1, by omega⟩
      refine tf_calli (va_runV (As := [.int (Int32.ofInt ((x1 + 1)))]) (rest := []) ⟨hx, hb, hml, hown, hts⟩ (hS n1 hn1 a0 ha0 ((x1 + 1)) ⟨by omega, by omega⟩ (0) ((31, c9) :: S9) (e9) (i9) t0 ht0 so hso po hpo (mm) ⟨by omega, by omega⟩ ss pp (k1_N) ⟨by omega, by omega⟩ (t1_N) ⟨by omega, by omega⟩ (lv) ⟨by omega, by omega⟩ (fp0) ⟨by omega, by omega⟩ (by first | assumption | omega) (by first | assumption | omega) (by first | assumption | omega) (tf_len1 hq3) (by omega)) (cwV 1 hts gv_X2_70 rfl rfl rfl hd_X2_readSum ⟨Nat.le_trans (show 6 * n1 + 14 + 1 ≤ 6 * n + 10 by omega) hR1, Nat.le_trans (show 8 + (4 + 11) + (90 * n1 + 250) ≤ 90 * n + 200 by omega) hR2⟩) (tf_preV hk hW ha0 (ci := 2) rfl rfl ⟨hs140, hs141, hs142, hs143, hs144, hs145, hXN_0, hXN_1, hs146, hs147⟩) rfl rfl hl.1 rfl (lv_room (Nat.le_of_ble_eq_true rfl)) dX2_readPart_29 ⟨Nat.zero_le _, Nat.zero_le _⟩) hW (by decide) (fun zS HS locsS hW hFS hpS => ?_)
      have hs148 := tf_keepF hFS ha0 rfl rfl (by decide) hs140
      have hs149 := tf_keepF hFS ht0 rfl rfl (by decide) hs141
      have hs150 := tf_keepF hFS ht0 rfl rfl (by decide) hs142
      have hs151 := tf_keepF hFS ht0 rfl rfl (by decide) hs143
      have hs152 := tf_keepC hFS hso rfl (by decide) hs144
      have hs153 := tf_keepC hFS hpo rfl (by decide) hs145
      obtain ⟨hpS_0, hpS_1⟩ := hpS
      obtain ⟨k1_S, t1_S, lv1_S, fp1_S, hXS_0, hXS_1, hXS_2, hXS_3, hBS_0, hBS_1, hBS_2, hBS_3, hRS_0, hRS_1, hRS_2, hRS_3, hRS_4, hRS_5⟩ := hpS_1
      refine tf_if_eq (tgt := 49) hx hb ⟨by omega, by omega⟩ dX2_readPart_32 (by decide) (fun h154 => ?_) (fun h154 => ?_)
      · refine tf_iconst hx hb dX2_readPart_49 ?_
        exact tf_retz (z := 0) hx hb hr hlocks hQ hW (by omega) ⟨by omega, ⟨(k1_S), (t1_S), (lv1_S), (fp1_S), hXS_0, hXS_1, hXS_2, hXS_3, ⟨by omega, by omega⟩, ⟨by omega, by omega⟩, ⟨by omega, by omega⟩, ⟨by omega, by omega⟩, (by first | assumption | omega), (by first | assumption | omega), (by first | assumption | omega), (by first | exact (tf_RD_st (tf_p_open (by omega) (by omega) hRN_0) (tf_RD_re (tf_RD_yes hRS_3 (by omega)) (tf_RD_ok (by omega) (tf_Re_1 (tf_s_close (by omega) (by omega)))))) | exact (tf_RD_st (tf_p_open (by omega) (by omega) hRN_0) (tf_RD_bad hRS_3 (by omega) (by omega))) | exact (tf_RD_st (tf_p_open (by omega) (by omega) hRN_0) (tf_RD_re (tf_RD_yes hRS_3 (by omega)) (tf_RD_n (by omega) (tf_s_nocl (by omega) (by omega)) (by decide) (by omega))))), (by first | assumption | omega), (by first | assumption | omega)⟩⟩ dX2_readPart_50
      · refine lv_aload_n hx hb dX2_readPart_35 rfl (lv_at hl 0 rfl) ?_
        refine tf_sipush hx hb dX2_readPart_36 (by decide) ?_
        refine tf_calli (va_runV (As := [.int (Int32.ofInt 1093)]) (rest := []) ⟨hx, hb, hml, hown, hts⟩ (c_X2_pass l g T a0 ha0 (1093) ⟨by omega, by omega⟩ t0 ht0 so hso po hpo (mm) ⟨by omega, by omega⟩ ss pp (k1_S) ⟨by omega, by omega⟩ (t1_S) ⟨by omega, by omega⟩ (fp1_S) ⟨by omega, by omega⟩ (by first | assumption | omega) (by first | assumption | omega) (by first | assumption | omega)) (cwV 1 hts gv_X2_63 rfl rfl rfl hd_X2_pass ⟨Nat.le_trans (show 2 + 1 ≤ 6 * n + 10 by omega) hR1, Nat.le_trans (show 8 + (2 + 11) + (60) ≤ 90 * n + 200 by omega) hR2⟩) (tf_preV hk hW ha0 (ci := 2) rfl rfl ⟨hs148, hs149, hs150, hs151, hs152, hs153, hXS_0, hXS_1, hXS_3⟩) rfl rfl hl.1 rfl (lv_room (Nat.le_of_ble_eq_true rfl)) dX2_readPart_39 ⟨Nat.zero_le _, Nat.zero_le _⟩) hW (by decide) (fun zP HP locsP hW hFP hpP => ?_)
        have hs155 := tf_keepF hFP ha0 rfl rfl (by decide) hs148
        have hs156 := tf_keepF hFP ht0 rfl rfl (by decide) hs149
        have hs157 := tf_keepF hFP ht0 rfl rfl (by decide) hs150
        have hs158 := tf_keepF hFP ht0 rfl rfl (by decide) hs151
        have hs159 := tf_keepC hFP hso rfl (by decide) hs152
        have hs160 := tf_keepC hFP hpo rfl (by decide) hs153
        have hs161 := tf_keepF hFP ha0 rfl rfl (by decide) hXS_2
        obtain ⟨hpP_0, hpP_1⟩ := hpP
        obtain ⟨k1_P, t1_P, fp1_P, hXP_0, hXP_1, hXP_2, hBP_0, hBP_1, hBP_2, hRP_0, hRP_1, hRP_2⟩ := hpP_1
        refine tf_if_eq (tgt := 49) hx hb ⟨by omega, by omega⟩ dX2_readPart_42 (by decide) (fun h162 => ?_) (fun h162 => ?_)
        · refine tf_iconst hx hb dX2_readPart_49 ?_
          exact tf_retz (z := 0) hx hb hr hlocks hQ hW (by omega) ⟨by omega, ⟨(k1_P), (t1_P), (lv1_S), (fp1_P), hXP_0, hXP_1, hs161, hXP_2, ⟨by omega, by omega⟩, ⟨by omega, by omega⟩, ⟨by omega, by omega⟩, ⟨by omega, by omega⟩, (by first | assumption | omega), (by first | assumption | omega), (by first | assumption | omega), (by first | exact (tf_RD_st (tf_p_open (by omega) (by omega) hRN_0) (tf_RD_re (tf_RD_yes hRS_3 (by omega)) (tf_RD_ok (by omega) (tf_Re_1 (tf_s_close (by omega) (by omega)))))) | exact (tf_RD_st (tf_p_open (by omega) (by omega) hRN_0) (tf_RD_bad hRS_3 (by omega) (by omega))) | exact (tf_RD_st (tf_p_open (by omega) (by omega) hRN_0) (tf_RD_re (tf_RD_yes hRS_3 (by omega)) (tf_RD_n (by omega) (tf_s_nocl (by omega) (by omega)) (by decide) (by omega))))), (by first | assumption | omega), (by first | assumption | omega)⟩⟩ dX2_readPart_50
        · refine tf_iconst hx hb dX2_readPart_45 ?_
          refine lv_goto (tgt := 50) hx hb dX2_readPart_46 (by decide) ?_
          exact tf_retz (z := 1) hx hb hr hlocks hQ hW (by omega) ⟨by omega, ⟨(k1_P), (t1_P), (lv1_S), (fp1_P), hXP_0, hXP_1, hs161, hXP_2, ⟨by omega, by omega⟩, ⟨by omega, by omega⟩, ⟨by omega, by omega⟩, ⟨by omega, by omega⟩, (by first | assumption | omega), (by first | assumption | omega), (by first | assumption | omega), (by first | exact (tf_RD_st (tf_p_open (by omega) (by omega) hRN_0) (tf_RD_re (tf_RD_yes hRS_3 (by omega)) (tf_RD_ok (by omega) (tf_Re_1 (tf_s_close (by omega) (by omega)))))) | exact (tf_RD_st (tf_p_open (by omega) (by omega) hRN_0) (tf_RD_bad hRS_3 (by omega) (by omega))) | exact (tf_RD_st (tf_p_open (by omega) (by omega) hRN_0) (tf_RD_re (tf_RD_yes hRS_3 (by omega)) (tf_RD_n (by omega) (tf_s_nocl (by omega) (by omega)) (by decide) (by omega))))), (by first | assumption | omega), (by first | assumption | omega)⟩⟩ dX2_readPart_50
    · refine lv_aload_n hx hb dX2_readPart_16 rfl (lv_at hl 0 rfl) ?_
      refine tf_calli (va_runV (As := []) (rest := []) ⟨hx, hb, hml, hown, hts⟩ (c_X2_failHere l g T a0 ha0 t0 ht0 po hpo pp (k0) ⟨by omega, by omega⟩) (cwV 0 hts gv_X2_66 rfl rfl rfl hd_X2_failHere ⟨Nat.le_trans (show 1 + 1 ≤ 6 * n + 10 by omega) hR1, Nat.le_trans (show 8 + (1 + 11) + (24) ≤ 90 * n + 200 by omega) hR2⟩) (tf_preV hk hW ha0 (ci := 2) rfl rfl ⟨he0, he3, he5, he6⟩) rfl rfl hl.1 rfl (lv_room (Nat.le_of_ble_eq_true rfl)) dX2_readPart_17 ⟨Nat.zero_le _, Nat.zero_le _⟩) hW (by decide) (fun zF HF locsF hW hFF hpF => ?_)
      have hs163 := tf_keepF hFF ha0 rfl rfl (by decide) he0
      have hs164 := tf_keepF hFF ht0 rfl rfl (by decide) he1
      have hs165 := tf_keepF hFF ht0 rfl rfl (by decide) he2
      have hs166 := tf_keepF hFF ht0 rfl rfl (by decide) he3
      have hs167 := tf_keepC hFF hso rfl (by decide) he4
      have hs168 := tf_keepC hFF hpo rfl (by decide) he5
      have hs169 := tf_keepF hFF ha0 rfl rfl (by decide) he6
      have hs170 := tf_keepF hFF ha0 rfl rfl (by decide) he7
      have hs171 := tf_keepF hFF ha0 rfl rfl (by decide) he8
      obtain ⟨hpF_0, hpF_1⟩ := hpF
      obtain ⟨fp1_F, hXF_0, hBF_0, hRF_0, hRF_1⟩ := hpF_1
      exact tf_retz (z := zF) hx hb hr hlocks hQ hW (by omega) ⟨by omega, ⟨(k0), (tk), (lv), (fp1_F), hs169, hs170, hs171, hXF_0, ⟨by omega, by omega⟩, ⟨by omega, by omega⟩, ⟨by omega, by omega⟩, ⟨by omega, by omega⟩, (by first | assumption | omega), (by first | assumption | omega), (by first | assumption | omega), (tf_RD_n (by omega) (tf_p_deep (by omega) (by omega)) (by decide) (by omega)), (by first | assumption | omega), (by first | assumption | omega)⟩⟩ dX2_readPart_20

set_option maxHeartbeats 4000000 in
set_option maxRecDepth 100000 in
theorem c_X2_readTerm (l : Launch) (g : tf_G) (T : tf_T) (n : Nat) (hP : K_X2_readPart l g T n) : K_X2_readTerm l g T n := by
  intro a0 ha0 x1 hp1 c9 S9 e9 i9 t0 ht0 so hso po hpo mm hmm ss pp k0 hk0 tk htk lv hlv fp0 hfp0 hq0 hq1 hq2 hq3 hfu
  refine Met.ofW (cc := cX2_readTerm) (maxL := 4) (ret := (some .boolean)) (by decide) rfl ?_
  intro p e s m args below meth c s₁ B hml hv
  obtain ⟨hargs, hk, hW0, hB, hpre⟩ := hv
  obtain ⟨he0, he1, he2, he3, he4, he5, he6, he7, he8, he9⟩ := hpre
  have hx := B.exec
  have hb := B.bytes
  have hr := B.returns
  have hts : ∀ w ∈ wsL_law, w.before args s = true := fun w h => atoms_spec (ws := cd_X2_readTerm :: wsL_law) B.pre w (List.mem_cons_of_mem _ h)
  have hown : s.vm.findClass RX2 = some m.cls := findClass_of_methodNamed B.named
  have hlocks := B.notSynchronized
  have hK := hk.1
  have hW := tf_n.start (M := M_X2_readTerm) hW0 hB
  obtain ⟨Q, hQ⟩ : ∃ q, q = MQ below (tf_Qi g M_X2_readTerm T (fun z _ H => (z = 0 ∨ z = 1) ∧ (∃ (k1 t1 lv1 fp1 : Int) , tf_s H a0 (g.1.2 2 4) = some (.int (Int32.ofInt k1)) ∧ tf_s H a0 (g.1.2 2 5) = some (.int (Int32.ofInt t1)) ∧ tf_s H a0 (g.1.2 2 6) = some (.int (Int32.ofInt lv1)) ∧ tf_s H a0 (g.1.2 2 7) = some (.int (Int32.ofInt fp1)) ∧ (0 ≤ k1 ∧ k1 ≤ 400) ∧ ((-2147483648) ≤ t1 ∧ t1 ≤ 2147483647) ∧ (0 ≤ lv1 ∧ lv1 ≤ 50) ∧ ((-2147483648) ≤ fp1 ∧ fp1 ≤ 2147483647) ∧ (k1 < mm) ∧ (k0 ≤ k1) ∧ (t1 = ss k1) ∧ (tf_RD ss pp mm (k0, 1, c9, S9, lv, e9, i9) z (k1, 3, c9, S9, lv1, e9, i9) fp1) ∧ (z = 0 ∨ (k0 < k1 ∧ ss k1 ≠ 1042 ∧ ss k1 ≠ 1047)) ∧ (z = 0 ∨ fp1 = fp0)))) args s 0 0 (fun q => tf_B g ≤ q) := ⟨_, rfl⟩
  rw [← hQ]
  obtain ⟨R, hR⟩ : ∃ q, q = (headSpec (cd_X2_readTerm :: wsL_law) ({ frames := 6 * n + 12, cells := 0, slots := 0, locals := 90 * n + 225 })).room := ⟨_, rfl⟩
  rw [← hR]
  have hR1 : 6 * n + 12 ≤ R.frames := by rw [hR]; exact Nat.le_refl _
  have hR2 : 90 * n + 225 ≤ R.locals := by rw [hR]; exact Nat.le_refl _
  have hR3 : 0 ≤ R.cells := by rw [hR]; exact Nat.le_refl _
  have hR4 : 0 ≤ R.slots := by rw [hR]; exact Nat.le_refl _
  have hin := (name_of_methodNamed B.named B.method).1
  clear hR B
  have j_12 : ∀ (n_12 : Nat), 0 ≤ x1 ∧ x1 ≤ 8 → ∀ (x2_12 : Int), 0 ≤ x2_12 ∧ x2_12 ≤ 400 → ∀ (f4_12 : Int), 0 ≤ f4_12 ∧ f4_12 ≤ 400 → ∀ (f5_12 : Int), (-2147483648) ≤ f5_12 ∧ f5_12 ≤ 2147483647 → ∀ (f6_12 : Int), 0 ≤ f6_12 ∧ f6_12 ≤ 50 → ∀ (f7_12 : Int), (-2147483648) ≤ f7_12 ∧ f7_12 ≤ 2147483647 → (f5_12 = ss f4_12) → (f4_12 < mm) → (k0 < f4_12) → (x2_12 < f4_12) → (tf_Re ss mm (k0, 1, c9, S9, lv, e9, i9) (f4_12, 3, c9, S9, f6_12, e9, i9)) → (f7_12 = fp0) → (400 - x2_12 + 1 ≤ (n_12 : Int)) → ∀ (H : Heap) (locs : List Loc), tf_n tf_kt g M_X2_readTerm T s.heap T H locs → tf_s H a0 (g.1.2 2 3) = some (.ref t0) → tf_s H t0 (g.1.2 4 2) = some (.int (Int32.ofInt mm)) → tf_s H t0 (g.1.2 4 0) = some (.ref so) → tf_s H t0 (g.1.2 4 1) = some (.ref po) → tf_rw H so = ss → tf_rw H po = pp → tf_s H a0 (g.1.2 2 4) = some (.int (Int32.ofInt f4_12)) → tf_s H a0 (g.1.2 2 5) = some (.int (Int32.ofInt f5_12)) → tf_s H a0 (g.1.2 2 6) = some (.int (Int32.ofInt f6_12)) → tf_s H a0 (g.1.2 2 7) = some (.int (Int32.ofInt f7_12)) → ∀ (ls : Array Slot), lv_has ls 4 [(0, .ref a0), (1, .int (Int32.ofInt x1)), (2, .int (Int32.ofInt x2_12))] → W p l e R s m args below meth c H locs 0 0 Q (F0 m 12 ls []) := by
    intro n_12
    induction n_12 with
    | zero =>
      intro hx1_12 x2_12 hx2_12 f4_12 hf4_12 f5_12 hf5_12 f6_12 hf6_12 f7_12 hf7_12 hi0_12 hi1_12 hi2_12 hi3_12 hi4_12 hi5_12 hm_12
      exfalso; omega
    | succ n_12 ih_12 =>
      intro hx1_12 x2_12 hx2_12 f4_12 hf4_12 f5_12 hf5_12 f6_12 hf6_12 f7_12 hf7_12 hi0_12 hi1_12 hi2_12 hi3_12 hi4_12 hi5_12 hm_12 H locs hW hs3_12 hst02_12 hst00_12 hst01_12 hcTKS_12 hcTKP_12 hs4_12 hs5_12 hs6_12 hs7_12 ls hl
      refine lv_iload_n hx hb dX2_readTerm_12 rfl (lv_at hl 2 rfl) ?_
      refine tf_sipush hx hb dX2_readTerm_13 (by decide) ?_
      refine tf_icmp_gt (tgt := 81) hx hb ⟨by omega, by omega⟩ ⟨by decide, by decide⟩ dX2_readTerm_16 (by decide) (fun h1 => ?_) (fun h1 => ?_)
      · exfalso; omega
      · refine lv_aload_n hx hb dX2_readTerm_19 rfl (lv_at hl 0 rfl) ?_
        refine tf_get hx hb hts inlX2 hown hK (ci := 2) rfl hW ha0 rfl 5 rfl (by decide) (hts _ fl_X2_32) dX2_readTerm_20 (fun v2 hv2 hsv2 => ?_)
        obtain rfl : v2 = .int (Int32.ofInt f5_12) := Option.some.inj (hsv2.symm.trans hs5_12)
        refine tf_sipush hx hb dX2_readTerm_23 (by decide) ?_
        refine tf_icmp_eq (tgt := 39) hx hb ⟨by omega, by omega⟩ ⟨by decide, by decide⟩ dX2_readTerm_26 (by decide) (fun h3 => ?_) (fun h3 => ?_)
        · refine lv_aload_n hx hb dX2_readTerm_39 rfl (lv_at hl 0 rfl) ?_
          refine tf_get hx hb hts inlX2 hown hK (ci := 2) rfl hW ha0 rfl 5 rfl (by decide) (hts _ fl_X2_32) dX2_readTerm_40 (fun v4 hv4 hsv4 => ?_)
          obtain rfl : v4 = .int (Int32.ofInt f5_12) := Option.some.inj (hsv4.symm.trans hs5_12)
          refine tf_sipush hx hb dX2_readTerm_43 (by decide) ?_
          refine tf_icmp_ne (tgt := 53) hx hb ⟨by omega, by omega⟩ ⟨by decide, by decide⟩ dX2_readTerm_46 (by decide) (fun h5 => ?_) (fun h5 => ?_)
          · exfalso; omega
          · refine tf_iconst hx hb dX2_readTerm_49 ?_
            refine lv_goto (tgt := 54) hx hb dX2_readTerm_50 (by decide) ?_
            refine lv_istore_n (lv' := [(3, .int (Int32.ofInt 4)), (0, .ref a0), (1, .int (Int32.ofInt x1)), (2, .int (Int32.ofInt x2_12))]) hx hb dX2_readTerm_54 rfl hl (by decide) rfl (fun ls hl => ?_)
            refine lv_aload_n hx hb dX2_readTerm_55 rfl (lv_at hl 1 rfl) ?_
            refine tf_callv (va_runV (As := []) (rest := []) ⟨hx, hb, hml, hown, hts⟩ (c_X2_next l g T a0 ha0 t0 ht0 so hso (mm) ⟨by omega, by omega⟩ ss (f4_12) ⟨by omega, by omega⟩ (by first | assumption | omega) (by first | assumption | omega)) (cwV 0 hts gv_X2_73 rfl rfl rfl hd_X2_next ⟨Nat.le_trans (show 1 + 1 ≤ 6 * n + 12 by omega) hR1, Nat.le_trans (show 8 + (1 + 11) + (40) ≤ 90 * n + 225 by omega) hR2⟩) (tf_preV hk hW ha0 (ci := 2) rfl rfl ⟨hs3_12, hst02_12, hst00_12, hcTKS_12, hs4_12⟩) rfl rfl hl.1 rfl (lv_room (Nat.le_of_ble_eq_true rfl)) dX2_readTerm_56 ⟨Nat.zero_le _, Nat.zero_le _⟩) hW (by decide) (fun HN locsN hW hFN hpN => ?_)
            have hs6 := tf_keepF hFN ha0 rfl rfl (by decide) hs3_12
            have hs7 := tf_keepF hFN ht0 rfl rfl (by decide) hst02_12
            have hs8 := tf_keepF hFN ht0 rfl rfl (by decide) hst00_12
            have hs9 := tf_keepF hFN ht0 rfl rfl (by decide) hst01_12
            have hs10 := tf_keepC hFN hso rfl (by decide) hcTKS_12
            have hs11 := tf_keepC hFN hpo rfl (by decide) hcTKP_12
            have hs12 := tf_keepF hFN ha0 rfl rfl (by decide) hs6_12
            have hs13 := tf_keepF hFN ha0 rfl rfl (by decide) hs7_12
            obtain ⟨k1_N, t1_N, hXN_0, hXN_1, hBN_0, hBN_1, hRN_0, hRN_1, hRN_2, hRN_3⟩ := hpN
            refine lv_aload_n hx hb dX2_readTerm_59 rfl (lv_at hl 1 rfl) ?_
            refine lv_iload_n hx hb dX2_readTerm_60 rfl (lv_at hl 2 rfl) ?_
            refine tf_calli (va_runV (As := [.int (Int32.ofInt x1)]) (rest := []) ⟨hx, hb, hml, hown, hts⟩ (hP a0 ha0 (x1) ⟨by omega, by omega⟩ c9 S9 e9 i9 t0 ht0 so hso po hpo (mm) ⟨by omega, by omega⟩ ss pp (k1_N) ⟨by omega, by omega⟩ (t1_N) ⟨by omega, by omega⟩ (f6_12) ⟨by omega, by omega⟩ (f7_12) ⟨by omega, by omega⟩ (by first | assumption | omega) (by first | assumption | omega) (by first | assumption | omega) (by first | assumption | omega) (by omega)) (cwV 1 hts gv_X2_103 rfl rfl rfl hd_X2_readPart ⟨Nat.le_trans (show 6 * n + 10 + 1 ≤ 6 * n + 12 by omega) hR1, Nat.le_trans (show 8 + (4 + 11) + (90 * n + 200) ≤ 90 * n + 225 by omega) hR2⟩) (tf_preV hk hW ha0 (ci := 2) rfl rfl ⟨hs6, hs7, hs8, hs9, hs10, hs11, hXN_0, hXN_1, hs12, hs13⟩) rfl rfl hl.1 rfl (lv_room (Nat.le_of_ble_eq_true rfl)) dX2_readTerm_61 ⟨Nat.zero_le _, Nat.zero_le _⟩) hW (by decide) (fun zB HB locsB hW hFB hpB => ?_)
            have hs14 := tf_keepF hFB ha0 rfl rfl (by decide) hs6
            have hs15 := tf_keepF hFB ht0 rfl rfl (by decide) hs7
            have hs16 := tf_keepF hFB ht0 rfl rfl (by decide) hs8
            have hs17 := tf_keepF hFB ht0 rfl rfl (by decide) hs9
            have hs18 := tf_keepC hFB hso rfl (by decide) hs10
            have hs19 := tf_keepC hFB hpo rfl (by decide) hs11
            obtain ⟨hpB_0, hpB_1⟩ := hpB
            obtain ⟨k1_B, t1_B, lv1_B, fp1_B, hXB_0, hXB_1, hXB_2, hXB_3, hBB_0, hBB_1, hBB_2, hBB_3, hRB_0, hRB_1, hRB_2, hRB_3, hRB_4, hRB_5⟩ := hpB_1
            refine tf_if_ne (tgt := 69) hx hb ⟨by omega, by omega⟩ dX2_readTerm_64 (by decide) (fun h20 => ?_) (fun h20 => ?_)
            · refine lv_aload_n hx hb dX2_readTerm_69 rfl (lv_at hl 1 rfl) ?_
              refine lv_iload_n hx hb dX2_readTerm_70 rfl (lv_at hl 0 rfl) ?_
              refine tf_iconst hx hb dX2_readTerm_71 ?_
              refine tf_callv (va_runV (As := [.int (Int32.ofInt 4), .int (Int32.ofInt 0)]) (rest := []) ⟨hx, hb, hml, hown, hts⟩ (c_X2_add l g T a0 ha0 (4) ⟨by omega, by omega⟩ (0) ⟨by omega, by omega⟩) (cwV 2 hts gv_X2_93 rfl rfl rfl hd_X2_add ⟨Nat.le_trans (show 1 + 1 ≤ 6 * n + 12 by omega) hR1, Nat.le_trans (show 8 + (3 + 11) + (24) ≤ 90 * n + 225 by omega) hR2⟩) (tf_preV hk hW ha0 (ci := 2) rfl rfl trivial) rfl rfl hl.1 rfl (lv_room (Nat.le_of_ble_eq_true rfl)) dX2_readTerm_72 ⟨Nat.zero_le _, Nat.zero_le _⟩) hW (by decide) (fun H21 locs21 hW hF21 hp21 => ?_)
              have hs22 := tf_keepF hF21 ha0 rfl rfl (by decide) hs14
              have hs23 := tf_keepF hF21 ht0 rfl rfl (by decide) hs15
              have hs24 := tf_keepF hF21 ht0 rfl rfl (by decide) hs16
              have hs25 := tf_keepF hF21 ht0 rfl rfl (by decide) hs17
              have hs26 := tf_keepC hF21 hso rfl (by decide) hs18
              have hs27 := tf_keepC hF21 hpo rfl (by decide) hs19
              have hs28 := tf_keepF hF21 ha0 rfl rfl (by decide) hXB_0
              have hs29 := tf_keepF hF21 ha0 rfl rfl (by decide) hXB_1
              have hs30 := tf_keepF hF21 ha0 rfl rfl (by decide) hXB_2
              have hs31 := tf_keepF hF21 ha0 rfl rfl (by decide) hXB_3
              refine lv_iinc (v := Int32.ofInt ((x2_12 + 1))) (lv' := [(2, .int (Int32.ofInt ((x2_12 + 1)))), (3, .int (Int32.ofInt 4)), (0, .ref a0), (1, .int (Int32.ofInt x1))]) hx hb dX2_readTerm_75 hl (k := 3) rfl (Int32.ofInt_add _ _).symm (by decide) rfl (fun ls hl => ?_)
              refine lv_goto (tgt := 12) hx hb dX2_readTerm_78 (by decide) ?_
              exact ih_12 ⟨by omega, by omega⟩ ((x2_12 + 1)) ⟨by omega, by omega⟩ (k1_B) ⟨by omega, by omega⟩ (t1_B) ⟨by omega, by omega⟩ (lv1_B) ⟨by omega, by omega⟩ (fp1_B) ⟨by omega, by omega⟩ (by first | assumption | omega) (by first | assumption | omega) (by first | assumption | omega) (by first | assumption | omega) (by first | exact (tf_RD_yes hRA_3 (by omega)) | exact hi4_12.trans (tf_Re_st (tf_s_op (by omega) hRN_0) (tf_RD_yes hRB_3 (by omega)))) (by first | assumption | omega) (by omega) _ _ hW hs22 hs23 hs24 hs25 hs26 hs27 hs28 hs29 hs30 hs31 _ (lv_sub hl [2, 3, 0] rfl)
            · refine tf_iconst hx hb dX2_readTerm_67 ?_
              exact tf_retz (z := 0) hx hb hr hlocks hQ hW (by omega) ⟨by omega, ⟨(k1_B), (t1_B), (lv1_B), (fp1_B), hXB_0, hXB_1, hXB_2, hXB_3, ⟨by omega, by omega⟩, ⟨by omega, by omega⟩, ⟨by omega, by omega⟩, ⟨by omega, by omega⟩, (by first | assumption | omega), (by first | assumption | omega), (by first | assumption | omega), (tf_RD_re hi4_12 (tf_RD_st (tf_s_op (by omega) hRN_0) (tf_RD_bad hRB_3 (by omega) (by omega)))), (by first | assumption | omega), (by first | assumption | omega)⟩⟩ dX2_readTerm_68
        · refine lv_aload_n hx hb dX2_readTerm_29 rfl (lv_at hl 0 rfl) ?_
          refine tf_get hx hb hts inlX2 hown hK (ci := 2) rfl hW ha0 rfl 5 rfl (by decide) (hts _ fl_X2_32) dX2_readTerm_30 (fun v32 hv32 hsv32 => ?_)
          obtain rfl : v32 = .int (Int32.ofInt f5_12) := Option.some.inj (hsv32.symm.trans hs5_12)
          refine tf_sipush hx hb dX2_readTerm_33 (by decide) ?_
          refine tf_icmp_ne (tgt := 81) hx hb ⟨by omega, by omega⟩ ⟨by decide, by decide⟩ dX2_readTerm_36 (by decide) (fun h33 => ?_) (fun h33 => ?_)
          · refine tf_iconst hx hb dX2_readTerm_81 ?_
            exact tf_retz (z := 1) hx hb hr hlocks hQ hW (by omega) ⟨by omega, ⟨(f4_12), (f5_12), (f6_12), (f7_12), hs4_12, hs5_12, hs6_12, hs7_12, ⟨by omega, by omega⟩, ⟨by omega, by omega⟩, ⟨by omega, by omega⟩, ⟨by omega, by omega⟩, (by first | assumption | omega), (by first | assumption | omega), (by first | assumption | omega), (tf_RD_ok (by omega) hi4_12), (by first | assumption | omega), (by first | assumption | omega)⟩⟩ dX2_readTerm_82
          · refine lv_aload_n hx hb dX2_readTerm_39 rfl (lv_at hl 0 rfl) ?_
            refine tf_get hx hb hts inlX2 hown hK (ci := 2) rfl hW ha0 rfl 5 rfl (by decide) (hts _ fl_X2_32) dX2_readTerm_40 (fun v34 hv34 hsv34 => ?_)
            obtain rfl : v34 = .int (Int32.ofInt f5_12) := Option.some.inj (hsv34.symm.trans hs5_12)
            refine tf_sipush hx hb dX2_readTerm_43 (by decide) ?_
            refine tf_icmp_ne (tgt := 53) hx hb ⟨by omega, by omega⟩ ⟨by decide, by decide⟩ dX2_readTerm_46 (by decide) (fun h35 => ?_) (fun h35 => ?_)
            · refine tf_iconst hx hb dX2_readTerm_53 ?_
              refine lv_istore_n (lv' := [(3, .int (Int32.ofInt 5)), (0, .ref a0), (1, .int (Int32.ofInt x1)), (2, .int (Int32.ofInt x2_12))]) hx hb dX2_readTerm_54 rfl hl (by decide) rfl (fun ls hl => ?_)
              refine lv_aload_n hx hb dX2_readTerm_55 rfl (lv_at hl 1 rfl) ?_
              refine tf_callv (va_runV (As := []) (rest := []) ⟨hx, hb, hml, hown, hts⟩ (c_X2_next l g T a0 ha0 t0 ht0 so hso (mm) ⟨by omega, by omega⟩ ss (f4_12) ⟨by omega, by omega⟩ (by first | assumption | omega) (by first | assumption | omega)) (cwV 0 hts gv_X2_73 rfl rfl rfl hd_X2_next ⟨Nat.le_trans (show 1 + 1 ≤ 6 * n + 12 by omega) hR1, Nat.le_trans (show 8 + (1 + 11) + (40) ≤ 90 * n + 225 by omega) hR2⟩) (tf_preV hk hW ha0 (ci := 2) rfl rfl ⟨hs3_12, hst02_12, hst00_12, hcTKS_12, hs4_12⟩) rfl rfl hl.1 rfl (lv_room (Nat.le_of_ble_eq_true rfl)) dX2_readTerm_56 ⟨Nat.zero_le _, Nat.zero_le _⟩) hW (by decide) (fun HN locsN hW hFN hpN => ?_)
              have hs36 := tf_keepF hFN ha0 rfl rfl (by decide) hs3_12
              have hs37 := tf_keepF hFN ht0 rfl rfl (by decide) hst02_12
              have hs38 := tf_keepF hFN ht0 rfl rfl (by decide) hst00_12
              have hs39 := tf_keepF hFN ht0 rfl rfl (by decide) hst01_12
              have hs40 := tf_keepC hFN hso rfl (by decide) hcTKS_12
              have hs41 := tf_keepC hFN hpo rfl (by decide) hcTKP_12
              have hs42 := tf_keepF hFN ha0 rfl rfl (by decide) hs6_12
              have hs43 := tf_keepF hFN ha0 rfl rfl (by decide) hs7_12
              obtain ⟨k1_N, t1_N, hXN_0, hXN_1, hBN_0, hBN_1, hRN_0, hRN_1, hRN_2, hRN_3⟩ := hpN
              refine lv_aload_n hx hb dX2_readTerm_59 rfl (lv_at hl 1 rfl) ?_
              refine lv_iload_n hx hb dX2_readTerm_60 rfl (lv_at hl 2 rfl) ?_
              refine tf_calli (va_runV (As := [.int (Int32.ofInt x1)]) (rest := []) ⟨hx, hb, hml, hown, hts⟩ (hP a0 ha0 (x1) ⟨by omega, by omega⟩ c9 S9 e9 i9 t0 ht0 so hso po hpo (mm) ⟨by omega, by omega⟩ ss pp (k1_N) ⟨by omega, by omega⟩ (t1_N) ⟨by omega, by omega⟩ (f6_12) ⟨by omega, by omega⟩ (f7_12) ⟨by omega, by omega⟩ (by first | assumption | omega) (by first | assumption | omega) (by first | assumption | omega) (by first | assumption | omega) (by omega)) (cwV 1 hts gv_X2_103 rfl rfl rfl hd_X2_readPart ⟨Nat.le_trans (show 6 * n + 10 + 1 ≤ 6 * n + 12 by omega) hR1, Nat.le_trans (show 8 + (4 + 11) + (90 * n + 200) ≤ 90 * n + 225 by omega) hR2⟩) (tf_preV hk hW ha0 (ci := 2) rfl rfl ⟨hs36, hs37, hs38, hs39, hs40, hs41, hXN_0, hXN_1, hs42, hs43⟩) rfl rfl hl.1 rfl (lv_room (Nat.le_of_ble_eq_true rfl)) dX2_readTerm_61 ⟨Nat.zero_le _, Nat.zero_le _⟩) hW (by decide) (fun zB HB locsB hW hFB hpB => ?_)
              have hs44 := tf_keepF hFB ha0 rfl rfl (by decide) hs36
              have hs45 := tf_keepF hFB ht0 rfl rfl (by decide) hs37
              have hs46 := tf_keepF hFB ht0 rfl rfl (by decide) hs38
              have hs47 := tf_keepF hFB ht0 rfl rfl (by decide) hs39
              have hs48 := tf_keepC hFB hso rfl (by decide) hs40
              have hs49 := tf_keepC hFB hpo rfl (by decide) hs41
              obtain ⟨hpB_0, hpB_1⟩ := hpB
              obtain ⟨k1_B, t1_B, lv1_B, fp1_B, hXB_0, hXB_1, hXB_2, hXB_3, hBB_0, hBB_1, hBB_2, hBB_3, hRB_0, hRB_1, hRB_2, hRB_3, hRB_4, hRB_5⟩ := hpB_1
              refine tf_if_ne (tgt := 69) hx hb ⟨by omega, by omega⟩ dX2_readTerm_64 (by decide) (fun h50 => ?_) (fun h50 => ?_)
              · refine lv_aload_n hx hb dX2_readTerm_69 rfl (lv_at hl 1 rfl) ?_
                refine lv_iload_n hx hb dX2_readTerm_70 rfl (lv_at hl 0 rfl) ?_
                refine tf_iconst hx hb dX2_readTerm_71 ?_
                refine tf_callv (va_runV (As := [.int (Int32.ofInt 5), .int (Int32.ofInt 0)]) (rest := []) ⟨hx, hb, hml, hown, hts⟩ (c_X2_add l g T a0 ha0 (5) ⟨by omega, by omega⟩ (0) ⟨by omega, by omega⟩) (cwV 2 hts gv_X2_93 rfl rfl rfl hd_X2_add ⟨Nat.le_trans (show 1 + 1 ≤ 6 * n + 12 by omega) hR1, Nat.le_trans (show 8 + (3 + 11) + (24) ≤ 90 * n + 225 by omega) hR2⟩) (tf_preV hk hW ha0 (ci := 2) rfl rfl trivial) rfl rfl hl.1 rfl (lv_room (Nat.le_of_ble_eq_true rfl)) dX2_readTerm_72 ⟨Nat.zero_le _, Nat.zero_le _⟩) hW (by decide) (fun H51 locs51 hW hF51 hp51 => ?_)
                have hs52 := tf_keepF hF51 ha0 rfl rfl (by decide) hs44
                have hs53 := tf_keepF hF51 ht0 rfl rfl (by decide) hs45
                have hs54 := tf_keepF hF51 ht0 rfl rfl (by decide) hs46
                have hs55 := tf_keepF hF51 ht0 rfl rfl (by decide) hs47
                have hs56 := tf_keepC hF51 hso rfl (by decide) hs48
                have hs57 := tf_keepC hF51 hpo rfl (by decide) hs49
                have hs58 := tf_keepF hF51 ha0 rfl rfl (by decide) hXB_0
                have hs59 := tf_keepF hF51 ha0 rfl rfl (by decide) hXB_1
                have hs60 := tf_keepF hF51 ha0 rfl rfl (by decide) hXB_2
                have hs61 := tf_keepF hF51 ha0 rfl rfl (by decide) hXB_3
                refine lv_iinc (v := Int32.ofInt ((x2_12 + 1))) (lv' := [(2, .int (Int32.ofInt ((x2_12 + 1)))), (3, .int (Int32.ofInt 5)), (0, .ref a0), (1, .int (Int32.ofInt x1))]) hx hb dX2_readTerm_75 hl (k := 3) rfl (Int32.ofInt_add _ _).symm (by decide) rfl (fun ls hl => ?_)
                refine lv_goto (tgt := 12) hx hb dX2_readTerm_78 (by decide) ?_
                exact ih_12 ⟨by omega, by omega⟩ ((x2_12 + 1)) ⟨by omega, by omega⟩ (k1_B) ⟨by omega, by omega⟩ (t1_B) ⟨by omega, by omega⟩ (lv1_B) ⟨by omega, by omega⟩ (fp1_B) ⟨by omega, by omega⟩ (by first | assumption | omega) (by first | assumption | omega) (by first | assumption | omega) (by first | assumption | omega) (by first | exact (tf_RD_yes hRA_3 (by omega)) | exact hi4_12.trans (tf_Re_st (tf_s_op (by omega) hRN_0) (tf_RD_yes hRB_3 (by omega)))) (by first | assumption | omega) (by omega) _ _ hW hs52 hs53 hs54 hs55 hs56 hs57 hs58 hs59 hs60 hs61 _ (lv_sub hl [2, 3, 0] rfl)
              · refine tf_iconst hx hb dX2_readTerm_67 ?_
                exact tf_retz (z := 0) hx hb hr hlocks hQ hW (by omega) ⟨by omega, ⟨(k1_B), (t1_B), (lv1_B), (fp1_B), hXB_0, hXB_1, hXB_2, hXB_3, ⟨by omega, by omega⟩, ⟨by omega, by omega⟩, ⟨by omega, by omega⟩, ⟨by omega, by omega⟩, (by first | assumption | omega), (by first | assumption | omega), (by first | assumption | omega), (tf_RD_re hi4_12 (tf_RD_st (tf_s_op (by omega) hRN_0) (tf_RD_bad hRB_3 (by omega) (by omega)))), (by first | assumption | omega), (by first | assumption | omega)⟩⟩ dX2_readTerm_68
            · exfalso; omega
  refine tf_enter (As := [.ref a0, .int (Int32.ofInt x1)]) hargs (Nat.le_of_ble_eq_true rfl) (fun ls hl => ?_)
  have hl : lv_has ls 4 [(0, .ref a0), (1, .int (Int32.ofInt x1))] := hl
  refine lv_aload_n hx hb dX2_readTerm_0 rfl (lv_at hl 0 rfl) ?_
  refine lv_iload_n hx hb dX2_readTerm_1 rfl (lv_at hl 1 rfl) ?_
  refine tf_calli (va_runV (As := [.int (Int32.ofInt x1)]) (rest := []) ⟨hx, hb, hml, hown, hts⟩ (hP a0 ha0 (x1) ⟨by omega, by omega⟩ c9 S9 e9 i9 t0 ht0 so hso po hpo (mm) ⟨by omega, by omega⟩ ss pp (k0) ⟨by omega, by omega⟩ (tk) ⟨by omega, by omega⟩ (lv) ⟨by omega, by omega⟩ (fp0) ⟨by omega, by omega⟩ (by first | assumption | omega) (by first | assumption | omega) (by first | assumption | omega) (by first | assumption | omega) (by omega)) (cwV 1 hts gv_X2_103 rfl rfl rfl hd_X2_readPart ⟨Nat.le_trans (show 6 * n + 10 + 1 ≤ 6 * n + 12 by omega) hR1, Nat.le_trans (show 8 + (4 + 11) + (90 * n + 200) ≤ 90 * n + 225 by omega) hR2⟩) (tf_preV hk hW ha0 (ci := 2) rfl rfl ⟨he0, he1, he2, he3, he4, he5, he6, he7, he8, he9⟩) rfl rfl hl.1 rfl (lv_room (Nat.le_of_ble_eq_true rfl)) dX2_readTerm_2 ⟨Nat.zero_le _, Nat.zero_le _⟩) hW (by decide) (fun zA HA locsA hW hFA hpA => ?_)
  have hs62 := tf_keepF hFA ha0 rfl rfl (by decide) he0
  have hs63 := tf_keepF hFA ht0 rfl rfl (by decide) he1
  have hs64 := tf_keepF hFA ht0 rfl rfl (by decide) he2
  have hs65 := tf_keepF hFA ht0 rfl rfl (by decide) he3
  have hs66 := tf_keepC hFA hso rfl (by decide) he4
  have hs67 := tf_keepC hFA hpo rfl (by decide) he5
  obtain ⟨hpA_0, hpA_1⟩ := hpA
  obtain ⟨k1_A, t1_A, lv1_A, fp1_A, hXA_0, hXA_1, hXA_2, hXA_3, hBA_0, hBA_1, hBA_2, hBA_3, hRA_0, hRA_1, hRA_2, hRA_3, hRA_4, hRA_5⟩ := hpA_1
  refine tf_if_ne (tgt := 10) hx hb ⟨by omega, by omega⟩ dX2_readTerm_5 (by decide) (fun h68 => ?_) (fun h68 => ?_)
  · refine tf_iconst hx hb dX2_readTerm_10 ?_
    refine lv_istore_n (lv' := [(2, .int (Int32.ofInt 0)), (0, .ref a0), (1, .int (Int32.ofInt x1))]) hx hb dX2_readTerm_11 rfl hl (by decide) rfl (fun ls hl => ?_)
    exact j_12 ((400 - 0 + 1 : Int)).toNat ⟨by omega, by omega⟩ (0) ⟨by omega, by omega⟩ (k1_A) ⟨by omega, by omega⟩ (t1_A) ⟨by omega, by omega⟩ (lv1_A) ⟨by omega, by omega⟩ (fp1_A) ⟨by omega, by omega⟩ (by first | assumption | omega) (by first | assumption | omega) (by first | assumption | omega) (by first | assumption | omega) (by first | exact (tf_RD_yes hRA_3 (by omega)) | exact hi4_12.trans (tf_Re_st (tf_s_op (by omega) hRN_0) (tf_RD_yes hRB_3 (by omega)))) (by first | assumption | omega) (by omega) _ _ hW hs62 hs63 hs64 hs65 hs66 hs67 hXA_0 hXA_1 hXA_2 hXA_3 _ (lv_sub hl [1, 2, 0] rfl)
  · refine tf_iconst hx hb dX2_readTerm_8 ?_
    exact tf_retz (z := 0) hx hb hr hlocks hQ hW (by omega) ⟨by omega, ⟨(k1_A), (t1_A), (lv1_A), (fp1_A), hXA_0, hXA_1, hXA_2, hXA_3, ⟨by omega, by omega⟩, ⟨by omega, by omega⟩, ⟨by omega, by omega⟩, ⟨by omega, by omega⟩, (by first | assumption | omega), (by first | assumption | omega), (by first | assumption | omega), (tf_RD_bad hRA_3 (by omega) (by omega)), (by first | assumption | omega), (by first | assumption | omega)⟩⟩ dX2_readTerm_9

set_option maxHeartbeats 4000000 in
set_option maxRecDepth 100000 in
theorem c_X2_readSum (l : Launch) (g : tf_G) (T : tf_T) (n : Nat) (hT : K_X2_readTerm l g T n) : K_X2_readSum l g T n := by
  intro a0 ha0 x1 hp1 c9 S9 e9 i9 t0 ht0 so hso po hpo mm hmm ss pp k0 hk0 tk htk lv hlv fp0 hfp0 hq0 hq1 hq2 hq3 hfu
  refine Met.ofW (cc := cX2_readSum) (maxL := 4) (ret := (some .boolean)) (by decide) rfl ?_
  intro p e s m args below meth c s₁ B hml hv
  obtain ⟨hargs, hk, hW0, hB, hpre⟩ := hv
  obtain ⟨he0, he1, he2, he3, he4, he5, he6, he7, he8, he9⟩ := hpre
  have hx := B.exec
  have hb := B.bytes
  have hr := B.returns
  have hts : ∀ w ∈ wsL_law, w.before args s = true := fun w h => atoms_spec (ws := cd_X2_readSum :: wsL_law) B.pre w (List.mem_cons_of_mem _ h)
  have hown : s.vm.findClass RX2 = some m.cls := findClass_of_methodNamed B.named
  have hlocks := B.notSynchronized
  have hK := hk.1
  have hW := tf_n.start (M := M_X2_readSum) hW0 hB
  obtain ⟨Q, hQ⟩ : ∃ q, q = MQ below (tf_Qi g M_X2_readSum T (fun z _ H => (z = 0 ∨ z = 1) ∧ (∃ (k1 t1 lv1 fp1 : Int) , tf_s H a0 (g.1.2 2 4) = some (.int (Int32.ofInt k1)) ∧ tf_s H a0 (g.1.2 2 5) = some (.int (Int32.ofInt t1)) ∧ tf_s H a0 (g.1.2 2 6) = some (.int (Int32.ofInt lv1)) ∧ tf_s H a0 (g.1.2 2 7) = some (.int (Int32.ofInt fp1)) ∧ (0 ≤ k1 ∧ k1 ≤ 400) ∧ ((-2147483648) ≤ t1 ∧ t1 ≤ 2147483647) ∧ (0 ≤ lv1 ∧ lv1 ≤ 50) ∧ ((-2147483648) ≤ fp1 ∧ fp1 ≤ 2147483647) ∧ (k1 < mm) ∧ (k0 ≤ k1) ∧ (t1 = ss k1) ∧ (tf_RD ss pp mm (k0, 1, c9, S9, lv, e9, i9) z (k1, 3, c9, S9, lv1, e9, i9) fp1) ∧ (z = 0 ∨ (k0 < k1 ∧ ss k1 ≠ 1043 ∧ ss k1 ≠ 1045 ∧ ss k1 ≠ 1042 ∧ ss k1 ≠ 1047)) ∧ (z = 0 ∨ fp1 = fp0)))) args s 0 0 (fun q => tf_B g ≤ q) := ⟨_, rfl⟩
  rw [← hQ]
  obtain ⟨R, hR⟩ : ∃ q, q = (headSpec (cd_X2_readSum :: wsL_law) ({ frames := 6 * n + 14, cells := 0, slots := 0, locals := 90 * n + 250 })).room := ⟨_, rfl⟩
  rw [← hR]
  have hR1 : 6 * n + 14 ≤ R.frames := by rw [hR]; exact Nat.le_refl _
  have hR2 : 90 * n + 250 ≤ R.locals := by rw [hR]; exact Nat.le_refl _
  have hR3 : 0 ≤ R.cells := by rw [hR]; exact Nat.le_refl _
  have hR4 : 0 ≤ R.slots := by rw [hR]; exact Nat.le_refl _
  have hin := (name_of_methodNamed B.named B.method).1
  clear hR B
  have j_12 : ∀ (n_12 : Nat), 0 ≤ x1 ∧ x1 ≤ 8 → ∀ (x2_12 : Int), 0 ≤ x2_12 ∧ x2_12 ≤ 400 → ∀ (f4_12 : Int), 0 ≤ f4_12 ∧ f4_12 ≤ 400 → ∀ (f5_12 : Int), (-2147483648) ≤ f5_12 ∧ f5_12 ≤ 2147483647 → ∀ (f6_12 : Int), 0 ≤ f6_12 ∧ f6_12 ≤ 50 → ∀ (f7_12 : Int), (-2147483648) ≤ f7_12 ∧ f7_12 ≤ 2147483647 → (f5_12 = ss f4_12) → (f4_12 < mm) → (k0 < f4_12) → (x2_12 < f4_12) → (tf_Re ss mm (k0, 1, c9, S9, lv, e9, i9) (f4_12, 3, c9, S9, f6_12, e9, i9)) → (ss f4_12 ≠ 1042 ∧ ss f4_12 ≠ 1047) → (f7_12 = fp0) → (400 - x2_12 + 1 ≤ (n_12 : Int)) → ∀ (H : Heap) (locs : List Loc), tf_n tf_kt g M_X2_readSum T s.heap T H locs → tf_s H a0 (g.1.2 2 3) = some (.ref t0) → tf_s H t0 (g.1.2 4 2) = some (.int (Int32.ofInt mm)) → tf_s H t0 (g.1.2 4 0) = some (.ref so) → tf_s H t0 (g.1.2 4 1) = some (.ref po) → tf_rw H so = ss → tf_rw H po = pp → tf_s H a0 (g.1.2 2 4) = some (.int (Int32.ofInt f4_12)) → tf_s H a0 (g.1.2 2 5) = some (.int (Int32.ofInt f5_12)) → tf_s H a0 (g.1.2 2 6) = some (.int (Int32.ofInt f6_12)) → tf_s H a0 (g.1.2 2 7) = some (.int (Int32.ofInt f7_12)) → ∀ (ls : Array Slot), lv_has ls 4 [(0, .ref a0), (1, .int (Int32.ofInt x1)), (2, .int (Int32.ofInt x2_12))] → W p l e R s m args below meth c H locs 0 0 Q (F0 m 12 ls []) := by
    intro n_12
    induction n_12 with
    | zero =>
      intro hx1_12 x2_12 hx2_12 f4_12 hf4_12 f5_12 hf5_12 f6_12 hf6_12 f7_12 hf7_12 hi0_12 hi1_12 hi2_12 hi3_12 hi4_12 hi5_12 hi6_12 hm_12
      exfalso; omega
    | succ n_12 ih_12 =>
      intro hx1_12 x2_12 hx2_12 f4_12 hf4_12 f5_12 hf5_12 f6_12 hf6_12 f7_12 hf7_12 hi0_12 hi1_12 hi2_12 hi3_12 hi4_12 hi5_12 hi6_12 hm_12 H locs hW hs3_12 hst02_12 hst00_12 hst01_12 hcTKS_12 hcTKP_12 hs4_12 hs5_12 hs6_12 hs7_12 ls hl
      refine lv_iload_n hx hb dX2_readSum_12 rfl (lv_at hl 2 rfl) ?_
      refine tf_sipush hx hb dX2_readSum_13 (by decide) ?_
      refine tf_icmp_gt (tgt := 81) hx hb ⟨by omega, by omega⟩ ⟨by decide, by decide⟩ dX2_readSum_16 (by decide) (fun h1 => ?_) (fun h1 => ?_)
      · exfalso; omega
      · refine lv_aload_n hx hb dX2_readSum_19 rfl (lv_at hl 0 rfl) ?_
        refine tf_get hx hb hts inlX2 hown hK (ci := 2) rfl hW ha0 rfl 5 rfl (by decide) (hts _ fl_X2_32) dX2_readSum_20 (fun v2 hv2 hsv2 => ?_)
        obtain rfl : v2 = .int (Int32.ofInt f5_12) := Option.some.inj (hsv2.symm.trans hs5_12)
        refine tf_sipush hx hb dX2_readSum_23 (by decide) ?_
        refine tf_icmp_eq (tgt := 39) hx hb ⟨by omega, by omega⟩ ⟨by decide, by decide⟩ dX2_readSum_26 (by decide) (fun h3 => ?_) (fun h3 => ?_)
        · refine lv_aload_n hx hb dX2_readSum_39 rfl (lv_at hl 0 rfl) ?_
          refine tf_get hx hb hts inlX2 hown hK (ci := 2) rfl hW ha0 rfl 5 rfl (by decide) (hts _ fl_X2_32) dX2_readSum_40 (fun v4 hv4 hsv4 => ?_)
          obtain rfl : v4 = .int (Int32.ofInt f5_12) := Option.some.inj (hsv4.symm.trans hs5_12)
          refine tf_sipush hx hb dX2_readSum_43 (by decide) ?_
          refine tf_icmp_ne (tgt := 53) hx hb ⟨by omega, by omega⟩ ⟨by decide, by decide⟩ dX2_readSum_46 (by decide) (fun h5 => ?_) (fun h5 => ?_)
          · exfalso; omega
          · refine tf_iconst hx hb dX2_readSum_49 ?_
            refine lv_goto (tgt := 54) hx hb dX2_readSum_50 (by decide) ?_
            refine lv_istore_n (lv' := [(3, .int (Int32.ofInt 2)), (0, .ref a0), (1, .int (Int32.ofInt x1)), (2, .int (Int32.ofInt x2_12))]) hx hb dX2_readSum_54 rfl hl (by decide) rfl (fun ls hl => ?_)
            refine lv_aload_n hx hb dX2_readSum_55 rfl (lv_at hl 1 rfl) ?_
            refine tf_callv (va_runV (As := []) (rest := []) ⟨hx, hb, hml, hown, hts⟩ (c_X2_next l g T a0 ha0 t0 ht0 so hso (mm) ⟨by omega, by omega⟩ ss (f4_12) ⟨by omega, by omega⟩ (by first | assumption | omega) (by first | assumption | omega)) (cwV 0 hts gv_X2_73 rfl rfl rfl hd_X2_next ⟨Nat.le_trans (show 1 + 1 ≤ 6 * n + 14 by omega) hR1, Nat.le_trans (show 8 + (1 + 11) + (40) ≤ 90 * n + 250 by omega) hR2⟩) (tf_preV hk hW ha0 (ci := 2) rfl rfl ⟨hs3_12, hst02_12, hst00_12, hcTKS_12, hs4_12⟩) rfl rfl hl.1 rfl (lv_room (Nat.le_of_ble_eq_true rfl)) dX2_readSum_56 ⟨Nat.zero_le _, Nat.zero_le _⟩) hW (by decide) (fun HN locsN hW hFN hpN => ?_)
            have hs6 := tf_keepF hFN ha0 rfl rfl (by decide) hs3_12
            have hs7 := tf_keepF hFN ht0 rfl rfl (by decide) hst02_12
            have hs8 := tf_keepF hFN ht0 rfl rfl (by decide) hst00_12
            have hs9 := tf_keepF hFN ht0 rfl rfl (by decide) hst01_12
            have hs10 := tf_keepC hFN hso rfl (by decide) hcTKS_12
            have hs11 := tf_keepC hFN hpo rfl (by decide) hcTKP_12
            have hs12 := tf_keepF hFN ha0 rfl rfl (by decide) hs6_12
            have hs13 := tf_keepF hFN ha0 rfl rfl (by decide) hs7_12
            obtain ⟨k1_N, t1_N, hXN_0, hXN_1, hBN_0, hBN_1, hRN_0, hRN_1, hRN_2, hRN_3⟩ := hpN
            refine lv_aload_n hx hb dX2_readSum_59 rfl (lv_at hl 1 rfl) ?_
            refine lv_iload_n hx hb dX2_readSum_60 rfl (lv_at hl 2 rfl) ?_
            refine tf_calli (va_runV (As := [.int (Int32.ofInt x1)]) (rest := []) ⟨hx, hb, hml, hown, hts⟩ (hT a0 ha0 (x1) ⟨by omega, by omega⟩ c9 S9 e9 i9 t0 ht0 so hso po hpo (mm) ⟨by omega, by omega⟩ ss pp (k1_N) ⟨by omega, by omega⟩ (t1_N) ⟨by omega, by omega⟩ (f6_12) ⟨by omega, by omega⟩ (f7_12) ⟨by omega, by omega⟩ (by first | assumption | omega) (by first | assumption | omega) (by first | assumption | omega) (by first | assumption | omega) (by omega)) (cwV 1 hts gv_X2_100 rfl rfl rfl hd_X2_readTerm ⟨Nat.le_trans (show 6 * n + 12 + 1 ≤ 6 * n + 14 by omega) hR1, Nat.le_trans (show 8 + (4 + 11) + (90 * n + 225) ≤ 90 * n + 250 by omega) hR2⟩) (tf_preV hk hW ha0 (ci := 2) rfl rfl ⟨hs6, hs7, hs8, hs9, hs10, hs11, hXN_0, hXN_1, hs12, hs13⟩) rfl rfl hl.1 rfl (lv_room (Nat.le_of_ble_eq_true rfl)) dX2_readSum_61 ⟨Nat.zero_le _, Nat.zero_le _⟩) hW (by decide) (fun zB HB locsB hW hFB hpB => ?_)
            have hs14 := tf_keepF hFB ha0 rfl rfl (by decide) hs6
            have hs15 := tf_keepF hFB ht0 rfl rfl (by decide) hs7
            have hs16 := tf_keepF hFB ht0 rfl rfl (by decide) hs8
            have hs17 := tf_keepF hFB ht0 rfl rfl (by decide) hs9
            have hs18 := tf_keepC hFB hso rfl (by decide) hs10
            have hs19 := tf_keepC hFB hpo rfl (by decide) hs11
            obtain ⟨hpB_0, hpB_1⟩ := hpB
            obtain ⟨k1_B, t1_B, lv1_B, fp1_B, hXB_0, hXB_1, hXB_2, hXB_3, hBB_0, hBB_1, hBB_2, hBB_3, hRB_0, hRB_1, hRB_2, hRB_3, hRB_4, hRB_5⟩ := hpB_1
            refine tf_if_ne (tgt := 69) hx hb ⟨by omega, by omega⟩ dX2_readSum_64 (by decide) (fun h20 => ?_) (fun h20 => ?_)
            · refine lv_aload_n hx hb dX2_readSum_69 rfl (lv_at hl 1 rfl) ?_
              refine lv_iload_n hx hb dX2_readSum_70 rfl (lv_at hl 0 rfl) ?_
              refine tf_iconst hx hb dX2_readSum_71 ?_
              refine tf_callv (va_runV (As := [.int (Int32.ofInt 2), .int (Int32.ofInt 0)]) (rest := []) ⟨hx, hb, hml, hown, hts⟩ (c_X2_add l g T a0 ha0 (2) ⟨by omega, by omega⟩ (0) ⟨by omega, by omega⟩) (cwV 2 hts gv_X2_93 rfl rfl rfl hd_X2_add ⟨Nat.le_trans (show 1 + 1 ≤ 6 * n + 14 by omega) hR1, Nat.le_trans (show 8 + (3 + 11) + (24) ≤ 90 * n + 250 by omega) hR2⟩) (tf_preV hk hW ha0 (ci := 2) rfl rfl trivial) rfl rfl hl.1 rfl (lv_room (Nat.le_of_ble_eq_true rfl)) dX2_readSum_72 ⟨Nat.zero_le _, Nat.zero_le _⟩) hW (by decide) (fun H21 locs21 hW hF21 hp21 => ?_)
              have hs22 := tf_keepF hF21 ha0 rfl rfl (by decide) hs14
              have hs23 := tf_keepF hF21 ht0 rfl rfl (by decide) hs15
              have hs24 := tf_keepF hF21 ht0 rfl rfl (by decide) hs16
              have hs25 := tf_keepF hF21 ht0 rfl rfl (by decide) hs17
              have hs26 := tf_keepC hF21 hso rfl (by decide) hs18
              have hs27 := tf_keepC hF21 hpo rfl (by decide) hs19
              have hs28 := tf_keepF hF21 ha0 rfl rfl (by decide) hXB_0
              have hs29 := tf_keepF hF21 ha0 rfl rfl (by decide) hXB_1
              have hs30 := tf_keepF hF21 ha0 rfl rfl (by decide) hXB_2
              have hs31 := tf_keepF hF21 ha0 rfl rfl (by decide) hXB_3
              refine lv_iinc (v := Int32.ofInt ((x2_12 + 1))) (lv' := [(2, .int (Int32.ofInt ((x2_12 + 1)))), (3, .int (Int32.ofInt 2)), (0, .ref a0), (1, .int (Int32.ofInt x1))]) hx hb dX2_readSum_75 hl (k := 3) rfl (Int32.ofInt_add _ _).symm (by decide) rfl (fun ls hl => ?_)
              refine lv_goto (tgt := 12) hx hb dX2_readSum_78 (by decide) ?_
              exact ih_12 ⟨by omega, by omega⟩ ((x2_12 + 1)) ⟨by omega, by omega⟩ (k1_B) ⟨by omega, by omega⟩ (t1_B) ⟨by omega, by omega⟩ (lv1_B) ⟨by omega, by omega⟩ (fp1_B) ⟨by omega, by omega⟩ (by first | assumption | omega) (by first | assumption | omega) (by first | assumption | omega) (by first | assumption | omega) (by first | exact (tf_RD_yes hRA_3 (by omega)) | exact hi4_12.trans (tf_Re_st (tf_s_op (by omega) hRN_0) (tf_RD_yes hRB_3 (by omega)))) (by first | assumption | omega) (by first | assumption | omega) (by omega) _ _ hW hs22 hs23 hs24 hs25 hs26 hs27 hs28 hs29 hs30 hs31 _ (lv_sub hl [2, 3, 0] rfl)
            · refine tf_iconst hx hb dX2_readSum_67 ?_
              exact tf_retz (z := 0) hx hb hr hlocks hQ hW (by omega) ⟨by omega, ⟨(k1_B), (t1_B), (lv1_B), (fp1_B), hXB_0, hXB_1, hXB_2, hXB_3, ⟨by omega, by omega⟩, ⟨by omega, by omega⟩, ⟨by omega, by omega⟩, ⟨by omega, by omega⟩, (by first | assumption | omega), (by first | assumption | omega), (by first | assumption | omega), (tf_RD_re hi4_12 (tf_RD_st (tf_s_op (by omega) hRN_0) (tf_RD_bad hRB_3 (by omega) (by omega)))), (by first | assumption | omega), (by first | assumption | omega)⟩⟩ dX2_readSum_68
        · refine lv_aload_n hx hb dX2_readSum_29 rfl (lv_at hl 0 rfl) ?_
          refine tf_get hx hb hts inlX2 hown hK (ci := 2) rfl hW ha0 rfl 5 rfl (by decide) (hts _ fl_X2_32) dX2_readSum_30 (fun v32 hv32 hsv32 => ?_)
          obtain rfl : v32 = .int (Int32.ofInt f5_12) := Option.some.inj (hsv32.symm.trans hs5_12)
          refine tf_sipush hx hb dX2_readSum_33 (by decide) ?_
          refine tf_icmp_ne (tgt := 81) hx hb ⟨by omega, by omega⟩ ⟨by decide, by decide⟩ dX2_readSum_36 (by decide) (fun h33 => ?_) (fun h33 => ?_)
          · refine tf_iconst hx hb dX2_readSum_81 ?_
            exact tf_retz (z := 1) hx hb hr hlocks hQ hW (by omega) ⟨by omega, ⟨(f4_12), (f5_12), (f6_12), (f7_12), hs4_12, hs5_12, hs6_12, hs7_12, ⟨by omega, by omega⟩, ⟨by omega, by omega⟩, ⟨by omega, by omega⟩, ⟨by omega, by omega⟩, (by first | assumption | omega), (by first | assumption | omega), (by first | assumption | omega), (tf_RD_ok (by omega) hi4_12), (by first | assumption | omega), (by first | assumption | omega)⟩⟩ dX2_readSum_82
          · refine lv_aload_n hx hb dX2_readSum_39 rfl (lv_at hl 0 rfl) ?_
            refine tf_get hx hb hts inlX2 hown hK (ci := 2) rfl hW ha0 rfl 5 rfl (by decide) (hts _ fl_X2_32) dX2_readSum_40 (fun v34 hv34 hsv34 => ?_)
            obtain rfl : v34 = .int (Int32.ofInt f5_12) := Option.some.inj (hsv34.symm.trans hs5_12)
            refine tf_sipush hx hb dX2_readSum_43 (by decide) ?_
            refine tf_icmp_ne (tgt := 53) hx hb ⟨by omega, by omega⟩ ⟨by decide, by decide⟩ dX2_readSum_46 (by decide) (fun h35 => ?_) (fun h35 => ?_)
            · refine tf_iconst hx hb dX2_readSum_53 ?_
              refine lv_istore_n (lv' := [(3, .int (Int32.ofInt 3)), (0, .ref a0), (1, .int (Int32.ofInt x1)), (2, .int (Int32.ofInt x2_12))]) hx hb dX2_readSum_54 rfl hl (by decide) rfl (fun ls hl => ?_)
              refine lv_aload_n hx hb dX2_readSum_55 rfl (lv_at hl 1 rfl) ?_
              refine tf_callv (va_runV (As := []) (rest := []) ⟨hx, hb, hml, hown, hts⟩ (c_X2_next l g T a0 ha0 t0 ht0 so hso (mm) ⟨by omega, by omega⟩ ss (f4_12) ⟨by omega, by omega⟩ (by first | assumption | omega) (by first | assumption | omega)) (cwV 0 hts gv_X2_73 rfl rfl rfl hd_X2_next ⟨Nat.le_trans (show 1 + 1 ≤ 6 * n + 14 by omega) hR1, Nat.le_trans (show 8 + (1 + 11) + (40) ≤ 90 * n + 250 by omega) hR2⟩) (tf_preV hk hW ha0 (ci := 2) rfl rfl ⟨hs3_12, hst02_12, hst00_12, hcTKS_12, hs4_12⟩) rfl rfl hl.1 rfl (lv_room (Nat.le_of_ble_eq_true rfl)) dX2_readSum_56 ⟨Nat.zero_le _, Nat.zero_le _⟩) hW (by decide) (fun HN locsN hW hFN hpN => ?_)
              have hs36 := tf_keepF hFN ha0 rfl rfl (by decide) hs3_12
              have hs37 := tf_keepF hFN ht0 rfl rfl (by decide) hst02_12
              have hs38 := tf_keepF hFN ht0 rfl rfl (by decide) hst00_12
              have hs39 := tf_keepF hFN ht0 rfl rfl (by decide) hst01_12
              have hs40 := tf_keepC hFN hso rfl (by decide) hcTKS_12
              have hs41 := tf_keepC hFN hpo rfl (by decide) hcTKP_12
              have hs42 := tf_keepF hFN ha0 rfl rfl (by decide) hs6_12
              have hs43 := tf_keepF hFN ha0 rfl rfl (by decide) hs7_12
              obtain ⟨k1_N, t1_N, hXN_0, hXN_1, hBN_0, hBN_1, hRN_0, hRN_1, hRN_2, hRN_3⟩ := hpN
              refine lv_aload_n hx hb dX2_readSum_59 rfl (lv_at hl 1 rfl) ?_
              refine lv_iload_n hx hb dX2_readSum_60 rfl (lv_at hl 2 rfl) ?_
              refine tf_calli (va_runV (As := [.int (Int32.ofInt x1)]) (rest := []) ⟨hx, hb, hml, hown, hts⟩ (hT a0 ha0 (x1) ⟨by omega, by omega⟩ c9 S9 e9 i9 t0 ht0 so hso po hpo (mm) ⟨by omega, by omega⟩ ss pp (k1_N) ⟨by omega, by omega⟩ (t1_N) ⟨by omega, by omega⟩ (f6_12) ⟨by omega, by omega⟩ (f7_12) ⟨by omega, by omega⟩ (by first | assumption | omega) (by first | assumption | omega) (by first | assumption | omega) (by first | assumption | omega) (by omega)) (cwV 1 hts gv_X2_100 rfl rfl rfl hd_X2_readTerm ⟨Nat.le_trans (show 6 * n + 12 + 1 ≤ 6 * n + 14 by omega) hR1, Nat.le_trans (show 8 + (4 + 11) + (90 * n + 225) ≤ 90 * n + 250 by omega) hR2⟩) (tf_preV hk hW ha0 (ci := 2) rfl rfl ⟨hs36, hs37, hs38, hs39, hs40, hs41, hXN_0, hXN_1, hs42, hs43⟩) rfl rfl hl.1 rfl (lv_room (Nat.le_of_ble_eq_true rfl)) dX2_readSum_61 ⟨Nat.zero_le _, Nat.zero_le _⟩) hW (by decide) (fun zB HB locsB hW hFB hpB => ?_)
              have hs44 := tf_keepF hFB ha0 rfl rfl (by decide) hs36
              have hs45 := tf_keepF hFB ht0 rfl rfl (by decide) hs37
              have hs46 := tf_keepF hFB ht0 rfl rfl (by decide) hs38
              have hs47 := tf_keepF hFB ht0 rfl rfl (by decide) hs39
              have hs48 := tf_keepC hFB hso rfl (by decide) hs40
              have hs49 := tf_keepC hFB hpo rfl (by decide) hs41
              obtain ⟨hpB_0, hpB_1⟩ := hpB
              obtain ⟨k1_B, t1_B, lv1_B, fp1_B, hXB_0, hXB_1, hXB_2, hXB_3, hBB_0, hBB_1, hBB_2, hBB_3, hRB_0, hRB_1, hRB_2, hRB_3, hRB_4, hRB_5⟩ := hpB_1
              refine tf_if_ne (tgt := 69) hx hb ⟨by omega, by omega⟩ dX2_readSum_64 (by decide) (fun h50 => ?_) (fun h50 => ?_)
              · refine lv_aload_n hx hb dX2_readSum_69 rfl (lv_at hl 1 rfl) ?_
                refine lv_iload_n hx hb dX2_readSum_70 rfl (lv_at hl 0 rfl) ?_
                refine tf_iconst hx hb dX2_readSum_71 ?_
                refine tf_callv (va_runV (As := [.int (Int32.ofInt 3), .int (Int32.ofInt 0)]) (rest := []) ⟨hx, hb, hml, hown, hts⟩ (c_X2_add l g T a0 ha0 (3) ⟨by omega, by omega⟩ (0) ⟨by omega, by omega⟩) (cwV 2 hts gv_X2_93 rfl rfl rfl hd_X2_add ⟨Nat.le_trans (show 1 + 1 ≤ 6 * n + 14 by omega) hR1, Nat.le_trans (show 8 + (3 + 11) + (24) ≤ 90 * n + 250 by omega) hR2⟩) (tf_preV hk hW ha0 (ci := 2) rfl rfl trivial) rfl rfl hl.1 rfl (lv_room (Nat.le_of_ble_eq_true rfl)) dX2_readSum_72 ⟨Nat.zero_le _, Nat.zero_le _⟩) hW (by decide) (fun H51 locs51 hW hF51 hp51 => ?_)
                have hs52 := tf_keepF hF51 ha0 rfl rfl (by decide) hs44
                have hs53 := tf_keepF hF51 ht0 rfl rfl (by decide) hs45
                have hs54 := tf_keepF hF51 ht0 rfl rfl (by decide) hs46
                have hs55 := tf_keepF hF51 ht0 rfl rfl (by decide) hs47
                have hs56 := tf_keepC hF51 hso rfl (by decide) hs48
                have hs57 := tf_keepC hF51 hpo rfl (by decide) hs49
                have hs58 := tf_keepF hF51 ha0 rfl rfl (by decide) hXB_0
                have hs59 := tf_keepF hF51 ha0 rfl rfl (by decide) hXB_1
                have hs60 := tf_keepF hF51 ha0 rfl rfl (by decide) hXB_2
                have hs61 := tf_keepF hF51 ha0 rfl rfl (by decide) hXB_3
                refine lv_iinc (v := Int32.ofInt ((x2_12 + 1))) (lv' := [(2, .int (Int32.ofInt ((x2_12 + 1)))), (3, .int (Int32.ofInt 3)), (0, .ref a0), (1, .int (Int32.ofInt x1))]) hx hb dX2_readSum_75 hl (k := 3) rfl (Int32.ofInt_add _ _).symm (by decide) rfl (fun ls hl => ?_)
                refine lv_goto (tgt := 12) hx hb dX2_readSum_78 (by decide) ?_
                exact ih_12 ⟨by omega, by omega⟩ ((x2_12 + 1)) ⟨by omega, by omega⟩ (k1_B) ⟨by omega, by omega⟩ (t1_B) ⟨by omega, by omega⟩ (lv1_B) ⟨by omega, by omega⟩ (fp1_B) ⟨by omega, by omega⟩ (by first | assumption | omega) (by first | assumption | omega) (by first | assumption | omega) (by first | assumption | omega) (by first | exact (tf_RD_yes hRA_3 (by omega)) | exact hi4_12.trans (tf_Re_st (tf_s_op (by omega) hRN_0) (tf_RD_yes hRB_3 (by omega)))) (by first | assumption | omega) (by first | assumption | omega) (by omega) _ _ hW hs52 hs53 hs54 hs55 hs56 hs57 hs58 hs59 hs60 hs61 _ (lv_sub hl [2, 3, 0] rfl)
              · refine tf_iconst hx hb dX2_readSum_67 ?_
                exact tf_retz (z := 0) hx hb hr hlocks hQ hW (by omega) ⟨by omega, ⟨(k1_B), (t1_B), (lv1_B), (fp1_B), hXB_0, hXB_1, hXB_2, hXB_3, ⟨by omega, by omega⟩, ⟨by omega, by omega⟩, ⟨by omega, by omega⟩, ⟨by omega, by omega⟩, (by first | assumption | omega), (by first | assumption | omega), (by first | assumption | omega), (tf_RD_re hi4_12 (tf_RD_st (tf_s_op (by omega) hRN_0) (tf_RD_bad hRB_3 (by omega) (by omega)))), (by first | assumption | omega), (by first | assumption | omega)⟩⟩ dX2_readSum_68
            · exfalso; omega
  refine tf_enter (As := [.ref a0, .int (Int32.ofInt x1)]) hargs (Nat.le_of_ble_eq_true rfl) (fun ls hl => ?_)
  have hl : lv_has ls 4 [(0, .ref a0), (1, .int (Int32.ofInt x1))] := hl
  refine lv_aload_n hx hb dX2_readSum_0 rfl (lv_at hl 0 rfl) ?_
  refine lv_iload_n hx hb dX2_readSum_1 rfl (lv_at hl 1 rfl) ?_
  refine tf_calli (va_runV (As := [.int (Int32.ofInt x1)]) (rest := []) ⟨hx, hb, hml, hown, hts⟩ (hT a0 ha0 (x1) ⟨by omega, by omega⟩ c9 S9 e9 i9 t0 ht0 so hso po hpo (mm) ⟨by omega, by omega⟩ ss pp (k0) ⟨by omega, by omega⟩ (tk) ⟨by omega, by omega⟩ (lv) ⟨by omega, by omega⟩ (fp0) ⟨by omega, by omega⟩ (by first | assumption | omega) (by first | assumption | omega) (by first | assumption | omega) (by first | assumption | omega) (by omega)) (cwV 1 hts gv_X2_100 rfl rfl rfl hd_X2_readTerm ⟨Nat.le_trans (show 6 * n + 12 + 1 ≤ 6 * n + 14 by omega) hR1, Nat.le_trans (show 8 + (4 + 11) + (90 * n + 225) ≤ 90 * n + 250 by omega) hR2⟩) (tf_preV hk hW ha0 (ci := 2) rfl rfl ⟨he0, he1, he2, he3, he4, he5, he6, he7, he8, he9⟩) rfl rfl hl.1 rfl (lv_room (Nat.le_of_ble_eq_true rfl)) dX2_readSum_2 ⟨Nat.zero_le _, Nat.zero_le _⟩) hW (by decide) (fun zA HA locsA hW hFA hpA => ?_)
  have hs62 := tf_keepF hFA ha0 rfl rfl (by decide) he0
  have hs63 := tf_keepF hFA ht0 rfl rfl (by decide) he1
  have hs64 := tf_keepF hFA ht0 rfl rfl (by decide) he2
  have hs65 := tf_keepF hFA ht0 rfl rfl (by decide) he3
  have hs66 := tf_keepC hFA hso rfl (by decide) he4
  have hs67 := tf_keepC hFA hpo rfl (by decide) he5
  obtain ⟨hpA_0, hpA_1⟩ := hpA
  obtain ⟨k1_A, t1_A, lv1_A, fp1_A, hXA_0, hXA_1, hXA_2, hXA_3, hBA_0, hBA_1, hBA_2, hBA_3, hRA_0, hRA_1, hRA_2, hRA_3, hRA_4, hRA_5⟩ := hpA_1
  refine tf_if_ne (tgt := 10) hx hb ⟨by omega, by omega⟩ dX2_readSum_5 (by decide) (fun h68 => ?_) (fun h68 => ?_)
  · refine tf_iconst hx hb dX2_readSum_10 ?_
    refine lv_istore_n (lv' := [(2, .int (Int32.ofInt 0)), (0, .ref a0), (1, .int (Int32.ofInt x1))]) hx hb dX2_readSum_11 rfl hl (by decide) rfl (fun ls hl => ?_)
    exact j_12 ((400 - 0 + 1 : Int)).toNat ⟨by omega, by omega⟩ (0) ⟨by omega, by omega⟩ (k1_A) ⟨by omega, by omega⟩ (t1_A) ⟨by omega, by omega⟩ (lv1_A) ⟨by omega, by omega⟩ (fp1_A) ⟨by omega, by omega⟩ (by first | assumption | omega) (by first | assumption | omega) (by first | assumption | omega) (by first | assumption | omega) (by first | exact (tf_RD_yes hRA_3 (by omega)) | exact hi4_12.trans (tf_Re_st (tf_s_op (by omega) hRN_0) (tf_RD_yes hRB_3 (by omega)))) (by first | assumption | omega) (by first | assumption | omega) (by omega) _ _ hW hs62 hs63 hs64 hs65 hs66 hs67 hXA_0 hXA_1 hXA_2 hXA_3 _ (lv_sub hl [1, 2, 0] rfl)
  · refine tf_iconst hx hb dX2_readSum_8 ?_
    exact tf_retz (z := 0) hx hb hr hlocks hQ hW (by omega) ⟨by omega, ⟨(k1_A), (t1_A), (lv1_A), (fp1_A), hXA_0, hXA_1, hXA_2, hXA_3, ⟨by omega, by omega⟩, ⟨by omega, by omega⟩, ⟨by omega, by omega⟩, ⟨by omega, by omega⟩, (by first | assumption | omega), (by first | assumption | omega), (by first | assumption | omega), (tf_RD_bad hRA_3 (by omega) (by omega)), (by first | assumption | omega), (by first | assumption | omega)⟩⟩ dX2_readSum_9

set_option maxHeartbeats 4000000 in
set_option maxRecDepth 100000 in
theorem c_X2_readComparison (l : Launch) (g : tf_G) (T : tf_T) (n : Nat) (hS : K_X2_readSum l g T n) : K_X2_readComparison l g T n := by
  intro a0 ha0 x1 hp1 S9 e9 i9 t0 ht0 so hso po hpo mm hmm ss pp k0 hk0 tk htk lv hlv fp0 hfp0 hq0 hq1 hq2 hq3 hq4 hfu
  refine Met.ofW (cc := cX2_readComparison) (maxL := 3) (ret := (some .boolean)) (by decide) rfl ?_
  intro p e s m args below meth c s₁ B hml hv
  obtain ⟨hargs, hk, hW0, hB, hpre⟩ := hv
  obtain ⟨he0, he1, he2, he3, he4, he5, he6, he7, he8, he9⟩ := hpre
  have hx := B.exec
  have hb := B.bytes
  have hr := B.returns
  have hts : ∀ w ∈ wsL_law, w.before args s = true := fun w h => atoms_spec (ws := cd_X2_readComparison :: wsL_law) B.pre w (List.mem_cons_of_mem _ h)
  have hown : s.vm.findClass RX2 = some m.cls := findClass_of_methodNamed B.named
  have hlocks := B.notSynchronized
  have hK := hk.1
  have hW := tf_n.start (M := M_X2_readComparison) hW0 hB
  obtain ⟨Q, hQ⟩ : ∃ q, q = MQ below (tf_Qi g M_X2_readComparison T (fun z _ H => (z = 0 ∨ z = 1) ∧ (∃ (k1 t1 lv1 fp1 : Int) , tf_s H a0 (g.1.2 2 4) = some (.int (Int32.ofInt k1)) ∧ tf_s H a0 (g.1.2 2 5) = some (.int (Int32.ofInt t1)) ∧ tf_s H a0 (g.1.2 2 6) = some (.int (Int32.ofInt lv1)) ∧ tf_s H a0 (g.1.2 2 7) = some (.int (Int32.ofInt fp1)) ∧ (0 ≤ k1 ∧ k1 ≤ 400) ∧ ((-2147483648) ≤ t1 ∧ t1 ≤ 2147483647) ∧ (0 ≤ lv1 ∧ lv1 ≤ 50) ∧ ((-2147483648) ≤ fp1 ∧ fp1 ≤ 2147483647) ∧ (k1 < mm) ∧ (k0 ≤ k1) ∧ (t1 = ss k1) ∧ (tf_RD ss pp mm (k0, 1, 0, S9, lv, e9, i9) z (k1, 2, 0, S9, lv1, e9, i9) fp1) ∧ (z = 0 ∨ (k0 < k1)) ∧ (z = 0 ∨ fp1 = fp0)))) args s 0 0 (fun q => tf_B g ≤ q) := ⟨_, rfl⟩
  rw [← hQ]
  obtain ⟨R, hR⟩ : ∃ q, q = (headSpec (cd_X2_readComparison :: wsL_law) ({ frames := 6 * n + 16, cells := 0, slots := 0, locals := 90 * n + 275 })).room := ⟨_, rfl⟩
  rw [← hR]
  have hR1 : 6 * n + 16 ≤ R.frames := by rw [hR]; exact Nat.le_refl _
  have hR2 : 90 * n + 275 ≤ R.locals := by rw [hR]; exact Nat.le_refl _
  have hR3 : 0 ≤ R.cells := by rw [hR]; exact Nat.le_refl _
  have hR4 : 0 ≤ R.slots := by rw [hR]; exact Nat.le_refl _
  have hin := (name_of_methodNamed B.named B.method).1
  clear hR B
  refine tf_enter (As := [.ref a0, .int (Int32.ofInt x1)]) hargs (Nat.le_of_ble_eq_true rfl) (fun ls hl => ?_)
  have hl : lv_has ls 3 [(0, .ref a0), (1, .int (Int32.ofInt x1))] := hl
  refine lv_aload_n hx hb dX2_readComparison_0 rfl (lv_at hl 0 rfl) ?_
  refine lv_iload_n hx hb dX2_readComparison_1 rfl (lv_at hl 1 rfl) ?_
  refine tf_calli (va_runV (As := [.int (Int32.ofInt x1)]) (rest := []) ⟨hx, hb, hml, hown, hts⟩ (hS a0 ha0 (x1) ⟨by omega, by omega⟩ (0) (S9) (e9) (i9) t0 ht0 so hso po hpo (mm) ⟨by omega, by omega⟩ ss pp (k0) ⟨by omega, by omega⟩ (tk) ⟨by omega, by omega⟩ (lv) ⟨by omega, by omega⟩ (fp0) ⟨by omega, by omega⟩ (by first | assumption | omega) (by first | assumption | omega) (by first | assumption | omega) (by first | assumption | omega) (by omega)) (cwV 1 hts gv_X2_70 rfl rfl rfl hd_X2_readSum ⟨Nat.le_trans (show 6 * n + 14 + 1 ≤ 6 * n + 16 by omega) hR1, Nat.le_trans (show 8 + (4 + 11) + (90 * n + 250) ≤ 90 * n + 275 by omega) hR2⟩) (tf_preV hk hW ha0 (ci := 2) rfl rfl ⟨he0, he1, he2, he3, he4, he5, he6, he7, he8, he9⟩) rfl rfl hl.1 rfl (lv_room (Nat.le_of_ble_eq_true rfl)) dX2_readComparison_2 ⟨Nat.zero_le _, Nat.zero_le _⟩) hW (by decide) (fun zA HA locsA hW hFA hpA => ?_)
  have hs1 := tf_keepF hFA ha0 rfl rfl (by decide) he0
  have hs2 := tf_keepF hFA ht0 rfl rfl (by decide) he1
  have hs3 := tf_keepF hFA ht0 rfl rfl (by decide) he2
  have hs4 := tf_keepF hFA ht0 rfl rfl (by decide) he3
  have hs5 := tf_keepC hFA hso rfl (by decide) he4
  have hs6 := tf_keepC hFA hpo rfl (by decide) he5
  obtain ⟨hpA_0, hpA_1⟩ := hpA
  obtain ⟨k1_A, t1_A, lv1_A, fp1_A, hXA_0, hXA_1, hXA_2, hXA_3, hBA_0, hBA_1, hBA_2, hBA_3, hRA_0, hRA_1, hRA_2, hRA_3, hRA_4, hRA_5⟩ := hpA_1
  refine tf_if_ne (tgt := 10) hx hb ⟨by omega, by omega⟩ dX2_readComparison_5 (by decide) (fun h7 => ?_) (fun h7 => ?_)
  · refine lv_aload_n hx hb dX2_readComparison_10 rfl (lv_at hl 0 rfl) ?_
    refine tf_get hx hb hts inlX2 hown hK (ci := 2) rfl hW ha0 rfl 5 rfl (by decide) (hts _ fl_X2_32) dX2_readComparison_11 (fun v8 hv8 hsv8 => ?_)
    obtain rfl : v8 = .int (Int32.ofInt t1_A) := Option.some.inj (hsv8.symm.trans hXA_1)
    refine tf_sipush hx hb dX2_readComparison_14 (by decide) ?_
    refine tf_icmp_ne (tgt := 26) hx hb ⟨by omega, by omega⟩ ⟨by decide, by decide⟩ dX2_readComparison_17 (by decide) (fun h9 => ?_) (fun h9 => ?_)
    · refine lv_aload_n hx hb dX2_readComparison_26 rfl (lv_at hl 0 rfl) ?_
      refine tf_get hx hb hts inlX2 hown hK (ci := 2) rfl hW ha0 rfl 5 rfl (by decide) (hts _ fl_X2_32) dX2_readComparison_27 (fun v10 hv10 hsv10 => ?_)
      obtain rfl : v10 = .int (Int32.ofInt t1_A) := Option.some.inj (hsv10.symm.trans hXA_1)
      refine tf_sipush hx hb dX2_readComparison_30 (by decide) ?_
      refine tf_icmp_ne (tgt := 42) hx hb ⟨by omega, by omega⟩ ⟨by decide, by decide⟩ dX2_readComparison_33 (by decide) (fun h11 => ?_) (fun h11 => ?_)
      · refine lv_aload_n hx hb dX2_readComparison_42 rfl (lv_at hl 0 rfl) ?_
        refine tf_get hx hb hts inlX2 hown hK (ci := 2) rfl hW ha0 rfl 5 rfl (by decide) (hts _ fl_X2_32) dX2_readComparison_43 (fun v12 hv12 hsv12 => ?_)
        obtain rfl : v12 = .int (Int32.ofInt t1_A) := Option.some.inj (hsv12.symm.trans hXA_1)
        refine tf_sipush hx hb dX2_readComparison_46 (by decide) ?_
        refine tf_icmp_ne (tgt := 58) hx hb ⟨by omega, by omega⟩ ⟨by decide, by decide⟩ dX2_readComparison_49 (by decide) (fun h13 => ?_) (fun h13 => ?_)
        · refine lv_aload_n hx hb dX2_readComparison_58 rfl (lv_at hl 0 rfl) ?_
          refine tf_calli (va_runV (As := []) (rest := []) ⟨hx, hb, hml, hown, hts⟩ (c_X2_failHere l g T a0 ha0 t0 ht0 po hpo pp (k1_A) ⟨by omega, by omega⟩) (cwV 0 hts gv_X2_66 rfl rfl rfl hd_X2_failHere ⟨Nat.le_trans (show 1 + 1 ≤ 6 * n + 16 by omega) hR1, Nat.le_trans (show 8 + (1 + 11) + (24) ≤ 90 * n + 275 by omega) hR2⟩) (tf_preV hk hW ha0 (ci := 2) rfl rfl ⟨hs1, hs4, hs6, hXA_0⟩) rfl rfl hl.1 rfl (lv_room (Nat.le_of_ble_eq_true rfl)) dX2_readComparison_59 ⟨Nat.zero_le _, Nat.zero_le _⟩) hW (by decide) (fun zF HF locsF hW hFF hpF => ?_)
          have hs14 := tf_keepF hFF ha0 rfl rfl (by decide) hs1
          have hs15 := tf_keepF hFF ht0 rfl rfl (by decide) hs2
          have hs16 := tf_keepF hFF ht0 rfl rfl (by decide) hs3
          have hs17 := tf_keepF hFF ht0 rfl rfl (by decide) hs4
          have hs18 := tf_keepC hFF hso rfl (by decide) hs5
          have hs19 := tf_keepC hFF hpo rfl (by decide) hs6
          have hs20 := tf_keepF hFF ha0 rfl rfl (by decide) hXA_0
          have hs21 := tf_keepF hFF ha0 rfl rfl (by decide) hXA_1
          have hs22 := tf_keepF hFF ha0 rfl rfl (by decide) hXA_2
          obtain ⟨hpF_0, hpF_1⟩ := hpF
          obtain ⟨fp1_F, hXF_0, hBF_0, hRF_0, hRF_1⟩ := hpF_1
          exact tf_retz (z := zF) hx hb hr hlocks hQ hW (by omega) ⟨by omega, ⟨(k1_A), (t1_A), (lv1_A), (fp1_F), hs20, hs21, hs22, hXF_0, ⟨by omega, by omega⟩, ⟨by omega, by omega⟩, ⟨by omega, by omega⟩, ⟨by omega, by omega⟩, (by first | assumption | omega), (by first | assumption | omega), (by first | assumption | omega), (tf_RD_re (tf_RD_yes hRA_3 (by omega)) (tf_RD_n (by omega) (tf_s_nocmp (by omega) hq4 (by omega) (by omega)) (by decide) (by omega))), (by first | assumption | omega), (by first | assumption | omega)⟩⟩ dX2_readComparison_62
        · refine tf_bipush hx hb dX2_readComparison_52 (by decide) ?_
          refine lv_istore_n (lv' := [(2, .int (Int32.ofInt 8)), (0, .ref a0), (1, .int (Int32.ofInt x1))]) hx hb dX2_readComparison_54 rfl hl (by decide) rfl (fun ls hl => ?_)
          refine lv_goto (tgt := 63) hx hb dX2_readComparison_55 (by decide) ?_
          refine lv_aload_n hx hb dX2_readComparison_63 rfl (lv_at hl 1 rfl) ?_
          refine tf_callv (va_runV (As := []) (rest := []) ⟨hx, hb, hml, hown, hts⟩ (c_X2_next l g T a0 ha0 t0 ht0 so hso (mm) ⟨by omega, by omega⟩ ss (k1_A) ⟨by omega, by omega⟩ (by first | assumption | omega) (by first | assumption | omega)) (cwV 0 hts gv_X2_73 rfl rfl rfl hd_X2_next ⟨Nat.le_trans (show 1 + 1 ≤ 6 * n + 16 by omega) hR1, Nat.le_trans (show 8 + (1 + 11) + (40) ≤ 90 * n + 275 by omega) hR2⟩) (tf_preV hk hW ha0 (ci := 2) rfl rfl ⟨hs1, hs2, hs3, hs5, hXA_0⟩) rfl rfl hl.1 rfl (lv_room (Nat.le_of_ble_eq_true rfl)) dX2_readComparison_64 ⟨Nat.zero_le _, Nat.zero_le _⟩) hW (by decide) (fun HN locsN hW hFN hpN => ?_)
          have hs23 := tf_keepF hFN ha0 rfl rfl (by decide) hs1
          have hs24 := tf_keepF hFN ht0 rfl rfl (by decide) hs2
          have hs25 := tf_keepF hFN ht0 rfl rfl (by decide) hs3
          have hs26 := tf_keepF hFN ht0 rfl rfl (by decide) hs4
          have hs27 := tf_keepC hFN hso rfl (by decide) hs5
          have hs28 := tf_keepC hFN hpo rfl (by decide) hs6
          have hs29 := tf_keepF hFN ha0 rfl rfl (by decide) hXA_2
          have hs30 := tf_keepF hFN ha0 rfl rfl (by decide) hXA_3
          obtain ⟨k1_N, t1_N, hXN_0, hXN_1, hBN_0, hBN_1, hRN_0, hRN_1, hRN_2, hRN_3⟩ := hpN
          refine lv_aload_n hx hb dX2_readComparison_67 rfl (lv_at hl 1 rfl) ?_
          refine lv_iload_n hx hb dX2_readComparison_68 rfl (lv_at hl 2 rfl) ?_
          refine tf_calli (va_runV (As := [.int (Int32.ofInt x1)]) (rest := []) ⟨hx, hb, hml, hown, hts⟩ (hS a0 ha0 (x1) ⟨by omega, by omega⟩ (1) (S9) (e9) (i9) t0 ht0 so hso po hpo (mm) ⟨by omega, by omega⟩ ss pp (k1_N) ⟨by omega, by omega⟩ (t1_N) ⟨by omega, by omega⟩ (lv1_A) ⟨by omega, by omega⟩ (fp1_A) ⟨by omega, by omega⟩ (by first | assumption | omega) (by first | assumption | omega) (by first | assumption | omega) (by first | assumption | omega) (by omega)) (cwV 1 hts gv_X2_70 rfl rfl rfl hd_X2_readSum ⟨Nat.le_trans (show 6 * n + 14 + 1 ≤ 6 * n + 16 by omega) hR1, Nat.le_trans (show 8 + (4 + 11) + (90 * n + 250) ≤ 90 * n + 275 by omega) hR2⟩) (tf_preV hk hW ha0 (ci := 2) rfl rfl ⟨hs23, hs24, hs25, hs26, hs27, hs28, hXN_0, hXN_1, hs29, hs30⟩) rfl rfl hl.1 rfl (lv_room (Nat.le_of_ble_eq_true rfl)) dX2_readComparison_69 ⟨Nat.zero_le _, Nat.zero_le _⟩) hW (by decide) (fun zB HB locsB hW hFB hpB => ?_)
          have hs31 := tf_keepF hFB ha0 rfl rfl (by decide) hs23
          have hs32 := tf_keepF hFB ht0 rfl rfl (by decide) hs24
          have hs33 := tf_keepF hFB ht0 rfl rfl (by decide) hs25
          have hs34 := tf_keepF hFB ht0 rfl rfl (by decide) hs26
          have hs35 := tf_keepC hFB hso rfl (by decide) hs27
          have hs36 := tf_keepC hFB hpo rfl (by decide) hs28
          obtain ⟨hpB_0, hpB_1⟩ := hpB
          obtain ⟨k1_B, t1_B, lv1_B, fp1_B, hXB_0, hXB_1, hXB_2, hXB_3, hBB_0, hBB_1, hBB_2, hBB_3, hRB_0, hRB_1, hRB_2, hRB_3, hRB_4, hRB_5⟩ := hpB_1
          refine tf_if_ne (tgt := 77) hx hb ⟨by omega, by omega⟩ dX2_readComparison_72 (by decide) (fun h37 => ?_) (fun h37 => ?_)
          · refine lv_aload_n hx hb dX2_readComparison_77 rfl (lv_at hl 1 rfl) ?_
            refine lv_iload_n hx hb dX2_readComparison_78 rfl (lv_at hl 0 rfl) ?_
            refine tf_iconst hx hb dX2_readComparison_79 ?_
            refine tf_callv (va_runV (As := [.int (Int32.ofInt 8), .int (Int32.ofInt 0)]) (rest := []) ⟨hx, hb, hml, hown, hts⟩ (c_X2_add l g T a0 ha0 (8) ⟨by omega, by omega⟩ (0) ⟨by omega, by omega⟩) (cwV 2 hts gv_X2_93 rfl rfl rfl hd_X2_add ⟨Nat.le_trans (show 1 + 1 ≤ 6 * n + 16 by omega) hR1, Nat.le_trans (show 8 + (3 + 11) + (24) ≤ 90 * n + 275 by omega) hR2⟩) (tf_preV hk hW ha0 (ci := 2) rfl rfl trivial) rfl rfl hl.1 rfl (lv_room (Nat.le_of_ble_eq_true rfl)) dX2_readComparison_80 ⟨Nat.zero_le _, Nat.zero_le _⟩) hW (by decide) (fun H38 locs38 hW hF38 hp38 => ?_)
            have hs39 := tf_keepF hF38 ha0 rfl rfl (by decide) hs31
            have hs40 := tf_keepF hF38 ht0 rfl rfl (by decide) hs32
            have hs41 := tf_keepF hF38 ht0 rfl rfl (by decide) hs33
            have hs42 := tf_keepF hF38 ht0 rfl rfl (by decide) hs34
            have hs43 := tf_keepC hF38 hso rfl (by decide) hs35
            have hs44 := tf_keepC hF38 hpo rfl (by decide) hs36
            have hs45 := tf_keepF hF38 ha0 rfl rfl (by decide) hXB_0
            have hs46 := tf_keepF hF38 ha0 rfl rfl (by decide) hXB_1
            have hs47 := tf_keepF hF38 ha0 rfl rfl (by decide) hXB_2
            have hs48 := tf_keepF hF38 ha0 rfl rfl (by decide) hXB_3
            refine tf_iconst hx hb dX2_readComparison_83 ?_
            exact tf_retz (z := 1) hx hb hr hlocks hQ hW (by omega) ⟨by omega, ⟨(k1_B), (t1_B), (lv1_B), (fp1_B), hs45, hs46, hs47, hs48, ⟨by omega, by omega⟩, ⟨by omega, by omega⟩, ⟨by omega, by omega⟩, ⟨by omega, by omega⟩, (by first | assumption | omega), (by first | assumption | omega), (by first | assumption | omega), (tf_RD_ok (by omega) ((tf_RD_yes hRA_3 (by omega)).trans (tf_Re_st (tf_s_cmp (by omega) hq4 (by omega) (by omega) hRN_0) ((tf_RD_yes hRB_3 (by omega)).trans (tf_Re_1 (tf_s_told (by omega) hq4 (by omega))))))), (by first | assumption | omega), (by first | assumption | omega)⟩⟩ dX2_readComparison_84
          · refine tf_iconst hx hb dX2_readComparison_75 ?_
            exact tf_retz (z := 0) hx hb hr hlocks hQ hW (by omega) ⟨by omega, ⟨(k1_B), (t1_B), (lv1_B), (fp1_B), hXB_0, hXB_1, hXB_2, hXB_3, ⟨by omega, by omega⟩, ⟨by omega, by omega⟩, ⟨by omega, by omega⟩, ⟨by omega, by omega⟩, (by first | assumption | omega), (by first | assumption | omega), (by first | assumption | omega), (tf_RD_re (tf_RD_yes hRA_3 (by omega)) (tf_RD_st (tf_s_cmp (by omega) hq4 (by omega) (by omega) hRN_0) (tf_RD_bad hRB_3 (by omega) (by omega)))), (by first | assumption | omega), (by first | assumption | omega)⟩⟩ dX2_readComparison_76
      · refine tf_bipush hx hb dX2_readComparison_36 (by decide) ?_
        refine lv_istore_n (lv' := [(2, .int (Int32.ofInt 7)), (0, .ref a0), (1, .int (Int32.ofInt x1))]) hx hb dX2_readComparison_38 rfl hl (by decide) rfl (fun ls hl => ?_)
        refine lv_goto (tgt := 63) hx hb dX2_readComparison_39 (by decide) ?_
        refine lv_aload_n hx hb dX2_readComparison_63 rfl (lv_at hl 1 rfl) ?_
        refine tf_callv (va_runV (As := []) (rest := []) ⟨hx, hb, hml, hown, hts⟩ (c_X2_next l g T a0 ha0 t0 ht0 so hso (mm) ⟨by omega, by omega⟩ ss (k1_A) ⟨by omega, by omega⟩ (by first | assumption | omega) (by first | assumption | omega)) (cwV 0 hts gv_X2_73 rfl rfl rfl hd_X2_next ⟨Nat.le_trans (show 1 + 1 ≤ 6 * n + 16 by omega) hR1, Nat.le_trans (show 8 + (1 + 11) + (40) ≤ 90 * n + 275 by omega) hR2⟩) (tf_preV hk hW ha0 (ci := 2) rfl rfl ⟨hs1, hs2, hs3, hs5, hXA_0⟩) rfl rfl hl.1 rfl (lv_room (Nat.le_of_ble_eq_true rfl)) dX2_readComparison_64 ⟨Nat.zero_le _, Nat.zero_le _⟩) hW (by decide) (fun HN locsN hW hFN hpN => ?_)
        have hs49 := tf_keepF hFN ha0 rfl rfl (by decide) hs1
        have hs50 := tf_keepF hFN ht0 rfl rfl (by decide) hs2
        have hs51 := tf_keepF hFN ht0 rfl rfl (by decide) hs3
        have hs52 := tf_keepF hFN ht0 rfl rfl (by decide) hs4
        have hs53 := tf_keepC hFN hso rfl (by decide) hs5
        have hs54 := tf_keepC hFN hpo rfl (by decide) hs6
        have hs55 := tf_keepF hFN ha0 rfl rfl (by decide) hXA_2
        have hs56 := tf_keepF hFN ha0 rfl rfl (by decide) hXA_3
        obtain ⟨k1_N, t1_N, hXN_0, hXN_1, hBN_0, hBN_1, hRN_0, hRN_1, hRN_2, hRN_3⟩ := hpN
        refine lv_aload_n hx hb dX2_readComparison_67 rfl (lv_at hl 1 rfl) ?_
        refine lv_iload_n hx hb dX2_readComparison_68 rfl (lv_at hl 2 rfl) ?_
        refine tf_calli (va_runV (As := [.int (Int32.ofInt x1)]) (rest := []) ⟨hx, hb, hml, hown, hts⟩ (hS a0 ha0 (x1) ⟨by omega, by omega⟩ (1) (S9) (e9) (i9) t0 ht0 so hso po hpo (mm) ⟨by omega, by omega⟩ ss pp (k1_N) ⟨by omega, by omega⟩ (t1_N) ⟨by omega, by omega⟩ (lv1_A) ⟨by omega, by omega⟩ (fp1_A) ⟨by omega, by omega⟩ (by first | assumption | omega) (by first | assumption | omega) (by first | assumption | omega) (by first | assumption | omega) (by omega)) (cwV 1 hts gv_X2_70 rfl rfl rfl hd_X2_readSum ⟨Nat.le_trans (show 6 * n + 14 + 1 ≤ 6 * n + 16 by omega) hR1, Nat.le_trans (show 8 + (4 + 11) + (90 * n + 250) ≤ 90 * n + 275 by omega) hR2⟩) (tf_preV hk hW ha0 (ci := 2) rfl rfl ⟨hs49, hs50, hs51, hs52, hs53, hs54, hXN_0, hXN_1, hs55, hs56⟩) rfl rfl hl.1 rfl (lv_room (Nat.le_of_ble_eq_true rfl)) dX2_readComparison_69 ⟨Nat.zero_le _, Nat.zero_le _⟩) hW (by decide) (fun zB HB locsB hW hFB hpB => ?_)
        have hs57 := tf_keepF hFB ha0 rfl rfl (by decide) hs49
        have hs58 := tf_keepF hFB ht0 rfl rfl (by decide) hs50
        have hs59 := tf_keepF hFB ht0 rfl rfl (by decide) hs51
        have hs60 := tf_keepF hFB ht0 rfl rfl (by decide) hs52
        have hs61 := tf_keepC hFB hso rfl (by decide) hs53
        have hs62 := tf_keepC hFB hpo rfl (by decide) hs54
        obtain ⟨hpB_0, hpB_1⟩ := hpB
        obtain ⟨k1_B, t1_B, lv1_B, fp1_B, hXB_0, hXB_1, hXB_2, hXB_3, hBB_0, hBB_1, hBB_2, hBB_3, hRB_0, hRB_1, hRB_2, hRB_3, hRB_4, hRB_5⟩ := hpB_1
        refine tf_if_ne (tgt := 77) hx hb ⟨by omega, by omega⟩ dX2_readComparison_72 (by decide) (fun h63 => ?_) (fun h63 => ?_)
        · refine lv_aload_n hx hb dX2_readComparison_77 rfl (lv_at hl 1 rfl) ?_
          refine lv_iload_n hx hb dX2_readComparison_78 rfl (lv_at hl 0 rfl) ?_
          refine tf_iconst hx hb dX2_readComparison_79 ?_
          refine tf_callv (va_runV (As := [.int (Int32.ofInt 7), .int (Int32.ofInt 0)]) (rest := []) ⟨hx, hb, hml, hown, hts⟩ (c_X2_add l g T a0 ha0 (7) ⟨by omega, by omega⟩ (0) ⟨by omega, by omega⟩) (cwV 2 hts gv_X2_93 rfl rfl rfl hd_X2_add ⟨Nat.le_trans (show 1 + 1 ≤ 6 * n + 16 by omega) hR1, Nat.le_trans (show 8 + (3 + 11) + (24) ≤ 90 * n + 275 by omega) hR2⟩) (tf_preV hk hW ha0 (ci := 2) rfl rfl trivial) rfl rfl hl.1 rfl (lv_room (Nat.le_of_ble_eq_true rfl)) dX2_readComparison_80 ⟨Nat.zero_le _, Nat.zero_le _⟩) hW (by decide) (fun H64 locs64 hW hF64 hp64 => ?_)
          have hs65 := tf_keepF hF64 ha0 rfl rfl (by decide) hs57
          have hs66 := tf_keepF hF64 ht0 rfl rfl (by decide) hs58
          have hs67 := tf_keepF hF64 ht0 rfl rfl (by decide) hs59
          have hs68 := tf_keepF hF64 ht0 rfl rfl (by decide) hs60
          have hs69 := tf_keepC hF64 hso rfl (by decide) hs61
          have hs70 := tf_keepC hF64 hpo rfl (by decide) hs62
          have hs71 := tf_keepF hF64 ha0 rfl rfl (by decide) hXB_0
          have hs72 := tf_keepF hF64 ha0 rfl rfl (by decide) hXB_1
          have hs73 := tf_keepF hF64 ha0 rfl rfl (by decide) hXB_2
          have hs74 := tf_keepF hF64 ha0 rfl rfl (by decide) hXB_3
          refine tf_iconst hx hb dX2_readComparison_83 ?_
          exact tf_retz (z := 1) hx hb hr hlocks hQ hW (by omega) ⟨by omega, ⟨(k1_B), (t1_B), (lv1_B), (fp1_B), hs71, hs72, hs73, hs74, ⟨by omega, by omega⟩, ⟨by omega, by omega⟩, ⟨by omega, by omega⟩, ⟨by omega, by omega⟩, (by first | assumption | omega), (by first | assumption | omega), (by first | assumption | omega), (tf_RD_ok (by omega) ((tf_RD_yes hRA_3 (by omega)).trans (tf_Re_st (tf_s_cmp (by omega) hq4 (by omega) (by omega) hRN_0) ((tf_RD_yes hRB_3 (by omega)).trans (tf_Re_1 (tf_s_told (by omega) hq4 (by omega))))))), (by first | assumption | omega), (by first | assumption | omega)⟩⟩ dX2_readComparison_84
        · refine tf_iconst hx hb dX2_readComparison_75 ?_
          exact tf_retz (z := 0) hx hb hr hlocks hQ hW (by omega) ⟨by omega, ⟨(k1_B), (t1_B), (lv1_B), (fp1_B), hXB_0, hXB_1, hXB_2, hXB_3, ⟨by omega, by omega⟩, ⟨by omega, by omega⟩, ⟨by omega, by omega⟩, ⟨by omega, by omega⟩, (by first | assumption | omega), (by first | assumption | omega), (by first | assumption | omega), (tf_RD_re (tf_RD_yes hRA_3 (by omega)) (tf_RD_st (tf_s_cmp (by omega) hq4 (by omega) (by omega) hRN_0) (tf_RD_bad hRB_3 (by omega) (by omega)))), (by first | assumption | omega), (by first | assumption | omega)⟩⟩ dX2_readComparison_76
    · refine tf_bipush hx hb dX2_readComparison_20 (by decide) ?_
      refine lv_istore_n (lv' := [(2, .int (Int32.ofInt 6)), (0, .ref a0), (1, .int (Int32.ofInt x1))]) hx hb dX2_readComparison_22 rfl hl (by decide) rfl (fun ls hl => ?_)
      refine lv_goto (tgt := 63) hx hb dX2_readComparison_23 (by decide) ?_
      refine lv_aload_n hx hb dX2_readComparison_63 rfl (lv_at hl 1 rfl) ?_
      refine tf_callv (va_runV (As := []) (rest := []) ⟨hx, hb, hml, hown, hts⟩ (c_X2_next l g T a0 ha0 t0 ht0 so hso (mm) ⟨by omega, by omega⟩ ss (k1_A) ⟨by omega, by omega⟩ (by first | assumption | omega) (by first | assumption | omega)) (cwV 0 hts gv_X2_73 rfl rfl rfl hd_X2_next ⟨Nat.le_trans (show 1 + 1 ≤ 6 * n + 16 by omega) hR1, Nat.le_trans (show 8 + (1 + 11) + (40) ≤ 90 * n + 275 by omega) hR2⟩) (tf_preV hk hW ha0 (ci := 2) rfl rfl ⟨hs1, hs2, hs3, hs5, hXA_0⟩) rfl rfl hl.1 rfl (lv_room (Nat.le_of_ble_eq_true rfl)) dX2_readComparison_64 ⟨Nat.zero_le _, Nat.zero_le _⟩) hW (by decide) (fun HN locsN hW hFN hpN => ?_)
      have hs75 := tf_keepF hFN ha0 rfl rfl (by decide) hs1
      have hs76 := tf_keepF hFN ht0 rfl rfl (by decide) hs2
      have hs77 := tf_keepF hFN ht0 rfl rfl (by decide) hs3
      have hs78 := tf_keepF hFN ht0 rfl rfl (by decide) hs4
      have hs79 := tf_keepC hFN hso rfl (by decide) hs5
      have hs80 := tf_keepC hFN hpo rfl (by decide) hs6
      have hs81 := tf_keepF hFN ha0 rfl rfl (by decide) hXA_2
      have hs82 := tf_keepF hFN ha0 rfl rfl (by decide) hXA_3
      obtain ⟨k1_N, t1_N, hXN_0, hXN_1, hBN_0, hBN_1, hRN_0, hRN_1, hRN_2, hRN_3⟩ := hpN
      refine lv_aload_n hx hb dX2_readComparison_67 rfl (lv_at hl 1 rfl) ?_
      refine lv_iload_n hx hb dX2_readComparison_68 rfl (lv_at hl 2 rfl) ?_
      refine tf_calli (va_runV (As := [.int (Int32.ofInt x1)]) (rest := []) ⟨hx, hb, hml, hown, hts⟩ (hS a0 ha0 (x1) ⟨by omega, by omega⟩ (1) (S9) (e9) (i9) t0 ht0 so hso po hpo (mm) ⟨by omega, by omega⟩ ss pp (k1_N) ⟨by omega, by omega⟩ (t1_N) ⟨by omega, by omega⟩ (lv1_A) ⟨by omega, by omega⟩ (fp1_A) ⟨by omega, by omega⟩ (by first | assumption | omega) (by first | assumption | omega) (by first | assumption | omega) (by first | assumption | omega) (by omega)) (cwV 1 hts gv_X2_70 rfl rfl rfl hd_X2_readSum ⟨Nat.le_trans (show 6 * n + 14 + 1 ≤ 6 * n + 16 by omega) hR1, Nat.le_trans (show 8 + (4 + 11) + (90 * n + 250) ≤ 90 * n + 275 by omega) hR2⟩) (tf_preV hk hW ha0 (ci := 2) rfl rfl ⟨hs75, hs76, hs77, hs78, hs79, hs80, hXN_0, hXN_1, hs81, hs82⟩) rfl rfl hl.1 rfl (lv_room (Nat.le_of_ble_eq_true rfl)) dX2_readComparison_69 ⟨Nat.zero_le _, Nat.zero_le _⟩) hW (by decide) (fun zB HB locsB hW hFB hpB => ?_)
      have hs83 := tf_keepF hFB ha0 rfl rfl (by decide) hs75
      have hs84 := tf_keepF hFB ht0 rfl rfl (by decide) hs76
      have hs85 := tf_keepF hFB ht0 rfl rfl (by decide) hs77
      have hs86 := tf_keepF hFB ht0 rfl rfl (by decide) hs78
      have hs87 := tf_keepC hFB hso rfl (by decide) hs79
      have hs88 := tf_keepC hFB hpo rfl (by decide) hs80
      obtain ⟨hpB_0, hpB_1⟩ := hpB
      obtain ⟨k1_B, t1_B, lv1_B, fp1_B, hXB_0, hXB_1, hXB_2, hXB_3, hBB_0, hBB_1, hBB_2, hBB_3, hRB_0, hRB_1, hRB_2, hRB_3, hRB_4, hRB_5⟩ := hpB_1
      refine tf_if_ne (tgt := 77) hx hb ⟨by omega, by omega⟩ dX2_readComparison_72 (by decide) (fun h89 => ?_) (fun h89 => ?_)
      · refine lv_aload_n hx hb dX2_readComparison_77 rfl (lv_at hl 1 rfl) ?_
        refine lv_iload_n hx hb dX2_readComparison_78 rfl (lv_at hl 0 rfl) ?_
        refine tf_iconst hx hb dX2_readComparison_79 ?_
        refine tf_callv (va_runV (As := [.int (Int32.ofInt 6), .int (Int32.ofInt 0)]) (rest := []) ⟨hx, hb, hml, hown, hts⟩ (c_X2_add l g T a0 ha0 (6) ⟨by omega, by omega⟩ (0) ⟨by omega, by omega⟩) (cwV 2 hts gv_X2_93 rfl rfl rfl hd_X2_add ⟨Nat.le_trans (show 1 + 1 ≤ 6 * n + 16 by omega) hR1, Nat.le_trans (show 8 + (3 + 11) + (24) ≤ 90 * n + 275 by omega) hR2⟩) (tf_preV hk hW ha0 (ci := 2) rfl rfl trivial) rfl rfl hl.1 rfl (lv_room (Nat.le_of_ble_eq_true rfl)) dX2_readComparison_80 ⟨Nat.zero_le _, Nat.zero_le _⟩) hW (by decide) (fun H90 locs90 hW hF90 hp90 => ?_)
        have hs91 := tf_keepF hF90 ha0 rfl rfl (by decide) hs83
        have hs92 := tf_keepF hF90 ht0 rfl rfl (by decide) hs84
        have hs93 := tf_keepF hF90 ht0 rfl rfl (by decide) hs85
        have hs94 := tf_keepF hF90 ht0 rfl rfl (by decide) hs86
        have hs95 := tf_keepC hF90 hso rfl (by decide) hs87
        have hs96 := tf_keepC hF90 hpo rfl (by decide) hs88
        have hs97 := tf_keepF hF90 ha0 rfl rfl (by decide) hXB_0
        have hs98 := tf_keepF hF90 ha0 rfl rfl (by decide) hXB_1
        have hs99 := tf_keepF hF90 ha0 rfl rfl (by decide) hXB_2
        have hs100 := tf_keepF hF90 ha0 rfl rfl (by decide) hXB_3
        refine tf_iconst hx hb dX2_readComparison_83 ?_
        exact tf_retz (z := 1) hx hb hr hlocks hQ hW (by omega) ⟨by omega, ⟨(k1_B), (t1_B), (lv1_B), (fp1_B), hs97, hs98, hs99, hs100, ⟨by omega, by omega⟩, ⟨by omega, by omega⟩, ⟨by omega, by omega⟩, ⟨by omega, by omega⟩, (by first | assumption | omega), (by first | assumption | omega), (by first | assumption | omega), (tf_RD_ok (by omega) ((tf_RD_yes hRA_3 (by omega)).trans (tf_Re_st (tf_s_cmp (by omega) hq4 (by omega) (by omega) hRN_0) ((tf_RD_yes hRB_3 (by omega)).trans (tf_Re_1 (tf_s_told (by omega) hq4 (by omega))))))), (by first | assumption | omega), (by first | assumption | omega)⟩⟩ dX2_readComparison_84
      · refine tf_iconst hx hb dX2_readComparison_75 ?_
        exact tf_retz (z := 0) hx hb hr hlocks hQ hW (by omega) ⟨by omega, ⟨(k1_B), (t1_B), (lv1_B), (fp1_B), hXB_0, hXB_1, hXB_2, hXB_3, ⟨by omega, by omega⟩, ⟨by omega, by omega⟩, ⟨by omega, by omega⟩, ⟨by omega, by omega⟩, (by first | assumption | omega), (by first | assumption | omega), (by first | assumption | omega), (tf_RD_re (tf_RD_yes hRA_3 (by omega)) (tf_RD_st (tf_s_cmp (by omega) hq4 (by omega) (by omega) hRN_0) (tf_RD_bad hRB_3 (by omega) (by omega)))), (by first | assumption | omega), (by first | assumption | omega)⟩⟩ dX2_readComparison_76
  · refine tf_iconst hx hb dX2_readComparison_8 ?_
    exact tf_retz (z := 0) hx hb hr hlocks hQ hW (by omega) ⟨by omega, ⟨(k1_A), (t1_A), (lv1_A), (fp1_A), hXA_0, hXA_1, hXA_2, hXA_3, ⟨by omega, by omega⟩, ⟨by omega, by omega⟩, ⟨by omega, by omega⟩, ⟨by omega, by omega⟩, (by first | assumption | omega), (by first | assumption | omega), (by first | assumption | omega), (tf_RD_bad hRA_3 (by omega) (by omega)), (by first | assumption | omega), (by first | assumption | omega)⟩⟩ dX2_readComparison_9

set_option maxHeartbeats 4000000 in
set_option maxRecDepth 100000 in
theorem c_X2_readPlain (l : Launch) (g : tf_G) (T : tf_T) (n : Nat) (hT : ∀ n1, n = n1 + 1 → K_X2_readTest l g T n1) (hC : K_X2_readComparison l g T n) : K_X2_readPlain l g T n := by
  intro a0 ha0 x1 hp1 S9 e9 i9 t0 ht0 so hso po hpo mm hmm ss pp k0 hk0 tk htk lv hlv fp0 hfp0 hq0 hq1 hq2 hq3 hq4 hfu
  refine Met.ofW (cc := cX2_readPlain) (maxL := 3) (ret := (some .boolean)) (by decide) rfl ?_
  intro p e s m args below meth c s₁ B hml hv
  obtain ⟨hargs, hk, hW0, hB, hpre⟩ := hv
  obtain ⟨he0, he1, he2, he3, he4, he5, he6, he7, he8, he9⟩ := hpre
  have hx := B.exec
  have hb := B.bytes
  have hr := B.returns
  have hts : ∀ w ∈ wsL_law, w.before args s = true := fun w h => atoms_spec (ws := cd_X2_readPlain :: wsL_law) B.pre w (List.mem_cons_of_mem _ h)
  have hown : s.vm.findClass RX2 = some m.cls := findClass_of_methodNamed B.named
  have hlocks := B.notSynchronized
  have hK := hk.1
  have hW := tf_n.start (M := M_X2_readPlain) hW0 hB
  obtain ⟨Q, hQ⟩ : ∃ q, q = MQ below (tf_Qi g M_X2_readPlain T (fun z _ H => (z = 0 ∨ z = 1) ∧ (∃ (k1 t1 lv1 fp1 : Int) , tf_s H a0 (g.1.2 2 4) = some (.int (Int32.ofInt k1)) ∧ tf_s H a0 (g.1.2 2 5) = some (.int (Int32.ofInt t1)) ∧ tf_s H a0 (g.1.2 2 6) = some (.int (Int32.ofInt lv1)) ∧ tf_s H a0 (g.1.2 2 7) = some (.int (Int32.ofInt fp1)) ∧ (0 ≤ k1 ∧ k1 ≤ 400) ∧ ((-2147483648) ≤ t1 ∧ t1 ≤ 2147483647) ∧ (0 ≤ lv1 ∧ lv1 ≤ 50) ∧ ((-2147483648) ≤ fp1 ∧ fp1 ≤ 2147483647) ∧ (k1 < mm) ∧ (k0 ≤ k1) ∧ (t1 = ss k1) ∧ (tf_RD ss pp mm (k0, 0, 0, S9, lv, e9, i9) z (k1, 2, 0, S9, lv1, e9, i9) fp1) ∧ (z = 0 ∨ (k0 < k1)) ∧ (z = 0 ∨ fp1 = fp0)))) args s 0 0 (fun q => tf_B g ≤ q) := ⟨_, rfl⟩
  rw [← hQ]
  obtain ⟨R, hR⟩ : ∃ q, q = (headSpec (cd_X2_readPlain :: wsL_law) ({ frames := 6 * n + 18, cells := 0, slots := 0, locals := 90 * n + 300 })).room := ⟨_, rfl⟩
  rw [← hR]
  have hR1 : 6 * n + 18 ≤ R.frames := by rw [hR]; exact Nat.le_refl _
  have hR2 : 90 * n + 300 ≤ R.locals := by rw [hR]; exact Nat.le_refl _
  have hR3 : 0 ≤ R.cells := by rw [hR]; exact Nat.le_refl _
  have hR4 : 0 ≤ R.slots := by rw [hR]; exact Nat.le_refl _
  have hin := (name_of_methodNamed B.named B.method).1
  clear hR B
  have j_27 : 0 ≤ x1 ∧ x1 ≤ 8 → ∀ (x2_27 : Int), 0 ≤ x2_27 ∧ x2_27 ≤ 400 → ∀ (f4_27 : Int), 0 ≤ f4_27 ∧ f4_27 ≤ 400 → ∀ (f5_27 : Int), (-2147483648) ≤ f5_27 ∧ f5_27 ≤ 2147483647 → (f5_27 = ss f4_27) → (f4_27 < mm) → (k0 ≤ f4_27) → (tf_Re ss mm (k0, 0, 0, S9, lv, e9, i9) (f4_27, 0, 0, S9, lv, e9, i9)) → (ss f4_27 ≠ 5) → (fp0 = fp0) → ∀ (H : Heap) (locs : List Loc), tf_n tf_kt g M_X2_readPlain T s.heap T H locs → tf_s H a0 (g.1.2 2 3) = some (.ref t0) → tf_s H t0 (g.1.2 4 2) = some (.int (Int32.ofInt mm)) → tf_s H t0 (g.1.2 4 0) = some (.ref so) → tf_s H t0 (g.1.2 4 1) = some (.ref po) → tf_rw H so = ss → tf_rw H po = pp → tf_s H a0 (g.1.2 2 4) = some (.int (Int32.ofInt f4_27)) → tf_s H a0 (g.1.2 2 5) = some (.int (Int32.ofInt f5_27)) → tf_s H a0 (g.1.2 2 6) = some (.int (Int32.ofInt lv)) → tf_s H a0 (g.1.2 2 7) = some (.int (Int32.ofInt fp0)) → ∀ (ls : Array Slot), lv_has ls 3 [(0, .ref a0), (1, .int (Int32.ofInt x1)), (2, .int (Int32.ofInt x2_27))] → W p l e R s m args below meth c H locs 0 0 Q (F0 m 27 ls []) := by
    intro hx1_27 x2_27 hx2_27 f4_27 hf4_27 f5_27 hf5_27 hi0_27 hi1_27 hi2_27 hi3_27 hi4_27 hi5_27 H locs hW hs3_27 hst02_27 hst00_27 hst01_27 hcTKS_27 hcTKP_27 hs4_27 hs5_27 hs6_27 hs7_27 ls hl
    refine lv_aload_n hx hb dX2_readPlain_27 rfl (lv_at hl 0 rfl) ?_
    refine tf_get hx hb hts inlX2 hown hK (ci := 2) rfl hW ha0 rfl 5 rfl (by decide) (hts _ fl_X2_32) dX2_readPlain_28 (fun v1 hv1 hsv1 => ?_)
    obtain rfl : v1 = .int (Int32.ofInt f5_27) := Option.some.inj (hsv1.symm.trans hs5_27)
    refine tf_sipush hx hb dX2_readPlain_31 (by decide) ?_
    refine tf_icmp_ne (tgt := 74) hx hb ⟨by omega, by omega⟩ ⟨by decide, by decide⟩ dX2_readPlain_34 (by decide) (fun h2 => ?_) (fun h2 => ?_)
    · refine lv_aload_n hx hb dX2_readPlain_74 rfl (lv_at hl 0 rfl) ?_
      refine lv_iload_n hx hb dX2_readPlain_75 rfl (lv_at hl 1 rfl) ?_
      refine tf_calli (va_runV (As := [.int (Int32.ofInt x1)]) (rest := []) ⟨hx, hb, hml, hown, hts⟩ (hC a0 ha0 (x1) ⟨by omega, by omega⟩ S9 e9 i9 t0 ht0 so hso po hpo (mm) ⟨by omega, by omega⟩ ss pp (f4_27) ⟨by omega, by omega⟩ (f5_27) ⟨by omega, by omega⟩ (lv) ⟨by omega, by omega⟩ (fp0) ⟨by omega, by omega⟩ (by first | assumption | omega) (by first | assumption | omega) (by first | assumption | omega) (by first | assumption | omega) (by first | assumption | omega) (by omega)) (cwV 1 hts gv_X2_97 rfl rfl rfl hd_X2_readComparison ⟨Nat.le_trans (show 6 * n + 16 + 1 ≤ 6 * n + 18 by omega) hR1, Nat.le_trans (show 8 + (3 + 11) + (90 * n + 275) ≤ 90 * n + 300 by omega) hR2⟩) (tf_preV hk hW ha0 (ci := 2) rfl rfl ⟨hs3_27, hst02_27, hst00_27, hst01_27, hcTKS_27, hcTKP_27, hs4_27, hs5_27, hs6_27, hs7_27⟩) rfl rfl hl.1 rfl (lv_room (Nat.le_of_ble_eq_true rfl)) dX2_readPlain_76 ⟨Nat.zero_le _, Nat.zero_le _⟩) hW (by decide) (fun zC HC locsC hW hFC hpC => ?_)
      have hs3 := tf_keepF hFC ha0 rfl rfl (by decide) hs3_27
      have hs4 := tf_keepF hFC ht0 rfl rfl (by decide) hst02_27
      have hs5 := tf_keepF hFC ht0 rfl rfl (by decide) hst00_27
      have hs6 := tf_keepF hFC ht0 rfl rfl (by decide) hst01_27
      have hs7 := tf_keepC hFC hso rfl (by decide) hcTKS_27
      have hs8 := tf_keepC hFC hpo rfl (by decide) hcTKP_27
      obtain ⟨hpC_0, hpC_1⟩ := hpC
      obtain ⟨k1_C, t1_C, lv1_C, fp1_C, hXC_0, hXC_1, hXC_2, hXC_3, hBC_0, hBC_1, hBC_2, hBC_3, hRC_0, hRC_1, hRC_2, hRC_3, hRC_4, hRC_5⟩ := hpC_1
      refine tf_if_ne (tgt := 84) hx hb ⟨by omega, by omega⟩ dX2_readPlain_79 (by decide) (fun h9 => ?_) (fun h9 => ?_)
      · refine lv_iload_n hx hb dX2_readPlain_84 rfl (lv_at hl 2 rfl) ?_
        refine tf_iconst hx hb dX2_readPlain_85 ?_
        refine tf_irem hx hb ⟨by omega, by omega⟩ (by omega) ⟨by decide, by decide⟩ (by decide) dX2_readPlain_86 ?_
        refine tf_name (fun z10 ez10 => ?_)
        refine tf_iconst hx hb dX2_readPlain_87 ?_
        refine tf_icmp_ne (tgt := 98) hx hb ⟨by omega, by omega⟩ ⟨by decide, by decide⟩ dX2_readPlain_88 (by decide) (fun h11 => ?_) (fun h11 => ?_)
        · refine tf_iconst hx hb dX2_readPlain_98 ?_
          exact tf_retz (z := 1) hx hb hr hlocks hQ hW (by omega) ⟨by omega, ⟨(k1_C), (t1_C), (lv1_C), (fp1_C), hXC_0, hXC_1, hXC_2, hXC_3, ⟨by omega, by omega⟩, ⟨by omega, by omega⟩, ⟨by omega, by omega⟩, ⟨by omega, by omega⟩, (by first | assumption | omega), (by first | assumption | omega), (by first | assumption | omega), (by first | exact (tf_RD_ok (by omega) (hi3_27.trans (tf_Re_st (tf_n_open (by omega) (by omega) hRN_0) ((tf_RD_yes hRT_3 (by omega)).trans (tf_Re_1 (tf_t_close (by omega) (by omega))))))) | exact (tf_RD_re hi3_27 (tf_RD_plain (by omega) (by omega) (tf_RD_ok (by omega) (tf_RD_yes hRC_3 (by omega)))))), (by first | assumption | omega), (by first | assumption | omega)⟩⟩ dX2_readPlain_99
        · refine lv_aload_n hx hb dX2_readPlain_91 rfl (lv_at hl 0 rfl) ?_
          refine tf_bipush hx hb dX2_readPlain_92 (by decide) ?_
          refine tf_iconst hx hb dX2_readPlain_94 ?_
          refine tf_callv (va_runV (As := [.int (Int32.ofInt 9), .int (Int32.ofInt 0)]) (rest := []) ⟨hx, hb, hml, hown, hts⟩ (c_X2_add l g T a0 ha0 (9) ⟨by omega, by omega⟩ (0) ⟨by omega, by omega⟩) (cwV 2 hts gv_X2_93 rfl rfl rfl hd_X2_add ⟨Nat.le_trans (show 1 + 1 ≤ 6 * n + 18 by omega) hR1, Nat.le_trans (show 8 + (3 + 11) + (24) ≤ 90 * n + 300 by omega) hR2⟩) (tf_preV hk hW ha0 (ci := 2) rfl rfl trivial) rfl rfl hl.1 rfl (lv_room (Nat.le_of_ble_eq_true rfl)) dX2_readPlain_95 ⟨Nat.zero_le _, Nat.zero_le _⟩) hW (by decide) (fun H12 locs12 hW hF12 hp12 => ?_)
          have hs13 := tf_keepF hF12 ha0 rfl rfl (by decide) hs3
          have hs14 := tf_keepF hF12 ht0 rfl rfl (by decide) hs4
          have hs15 := tf_keepF hF12 ht0 rfl rfl (by decide) hs5
          have hs16 := tf_keepF hF12 ht0 rfl rfl (by decide) hs6
          have hs17 := tf_keepC hF12 hso rfl (by decide) hs7
          have hs18 := tf_keepC hF12 hpo rfl (by decide) hs8
          have hs19 := tf_keepF hF12 ha0 rfl rfl (by decide) hXC_0
          have hs20 := tf_keepF hF12 ha0 rfl rfl (by decide) hXC_1
          have hs21 := tf_keepF hF12 ha0 rfl rfl (by decide) hXC_2
          have hs22 := tf_keepF hF12 ha0 rfl rfl (by decide) hXC_3
          refine tf_iconst hx hb dX2_readPlain_98 ?_
          exact tf_retz (z := 1) hx hb hr hlocks hQ hW (by omega) ⟨by omega, ⟨(k1_C), (t1_C), (lv1_C), (fp1_C), hs19, hs20, hs21, hs22, ⟨by omega, by omega⟩, ⟨by omega, by omega⟩, ⟨by omega, by omega⟩, ⟨by omega, by omega⟩, (by first | assumption | omega), (by first | assumption | omega), (by first | assumption | omega), (by first | exact (tf_RD_ok (by omega) (hi3_27.trans (tf_Re_st (tf_n_open (by omega) (by omega) hRN_0) ((tf_RD_yes hRT_3 (by omega)).trans (tf_Re_1 (tf_t_close (by omega) (by omega))))))) | exact (tf_RD_re hi3_27 (tf_RD_plain (by omega) (by omega) (tf_RD_ok (by omega) (tf_RD_yes hRC_3 (by omega)))))), (by first | assumption | omega), (by first | assumption | omega)⟩⟩ dX2_readPlain_99
      · refine tf_iconst hx hb dX2_readPlain_82 ?_
        exact tf_retz (z := 0) hx hb hr hlocks hQ hW (by omega) ⟨by omega, ⟨(k1_C), (t1_C), (lv1_C), (fp1_C), hXC_0, hXC_1, hXC_2, hXC_3, ⟨by omega, by omega⟩, ⟨by omega, by omega⟩, ⟨by omega, by omega⟩, ⟨by omega, by omega⟩, (by first | assumption | omega), (by first | assumption | omega), (by first | assumption | omega), (tf_RD_re hi3_27 (tf_RD_plain (by omega) (by omega) (tf_RD_bad hRC_3 (by omega) (by omega)))), (by first | assumption | omega), (by first | assumption | omega)⟩⟩ dX2_readPlain_83
    · refine lv_iload_n hx hb dX2_readPlain_37 rfl (lv_at hl 1 rfl) ?_
      refine tf_bipush hx hb dX2_readPlain_38 (by decide) ?_
      refine tf_icmp_lt (tgt := 48) hx hb ⟨by omega, by omega⟩ ⟨by decide, by decide⟩ dX2_readPlain_40 (by decide) (fun h23 => ?_) (fun h23 => ?_)
      · refine lv_aload_n hx hb dX2_readPlain_48 rfl (lv_at hl 0 rfl) ?_
        refine tf_callv (va_runV (As := []) (rest := []) ⟨hx, hb, hml, hown, hts⟩ (c_X2_next l g T a0 ha0 t0 ht0 so hso (mm) ⟨by omega, by omega⟩ ss (f4_27) ⟨by omega, by omega⟩ (by first | assumption | omega) (by first | assumption | omega)) (cwV 0 hts gv_X2_73 rfl rfl rfl hd_X2_next ⟨Nat.le_trans (show 1 + 1 ≤ 6 * n + 18 by omega) hR1, Nat.le_trans (show 8 + (1 + 11) + (40) ≤ 90 * n + 300 by omega) hR2⟩) (tf_preV hk hW ha0 (ci := 2) rfl rfl ⟨hs3_27, hst02_27, hst00_27, hcTKS_27, hs4_27⟩) rfl rfl hl.1 rfl (lv_room (Nat.le_of_ble_eq_true rfl)) dX2_readPlain_49 ⟨Nat.zero_le _, Nat.zero_le _⟩) hW (by decide) (fun HN locsN hW hFN hpN => ?_)
        have hs24 := tf_keepF hFN ha0 rfl rfl (by decide) hs3_27
        have hs25 := tf_keepF hFN ht0 rfl rfl (by decide) hst02_27
        have hs26 := tf_keepF hFN ht0 rfl rfl (by decide) hst00_27
        have hs27 := tf_keepF hFN ht0 rfl rfl (by decide) hst01_27
        have hs28 := tf_keepC hFN hso rfl (by decide) hcTKS_27
        have hs29 := tf_keepC hFN hpo rfl (by decide) hcTKP_27
        have hs30 := tf_keepF hFN ha0 rfl rfl (by decide) hs6_27
        have hs31 := tf_keepF hFN ha0 rfl rfl (by decide) hs7_27
        obtain ⟨k1_N, t1_N, hXN_0, hXN_1, hBN_0, hBN_1, hRN_0, hRN_1, hRN_2, hRN_3⟩ := hpN
        refine lv_aload_n hx hb dX2_readPlain_52 rfl (lv_at hl 0 rfl) ?_
        refine lv_iload_n hx hb dX2_readPlain_53 rfl (lv_at hl 1 rfl) ?_
        refine tf_iconst hx hb dX2_readPlain_54 ?_
        refine tf_iadd hx hb dX2_readPlain_55 ?_
        obtain ⟨n1, hn1⟩ : ∃ n1, n = n1 + 1 := ⟨n - 1, by omega⟩
        refine tf_calli (va_runV (As := [.int (Int32.ofInt ((x1 + 1)))]) (rest := []) ⟨hx, hb, hml, hown, hts⟩ (hT n1 hn1 a0 ha0 ((x1 + 1)) ⟨by omega, by omega⟩ ((30, 0) :: S9) (e9) (i9) t0 ht0 so hso po hpo (mm) ⟨by omega, by omega⟩ ss pp (k1_N) ⟨by omega, by omega⟩ (t1_N) ⟨by omega, by omega⟩ (lv) ⟨by omega, by omega⟩ (fp0) ⟨by omega, by omega⟩ (by first | assumption | omega) (by first | assumption | omega) (by first | assumption | omega) (tf_len1 hq3) tf_nsq_30 (by omega)) (cwV 1 hts gv_X2_76 rfl rfl rfl hd_X2_readTest ⟨Nat.le_trans (show 6 * n1 + 22 + 1 ≤ 6 * n + 18 by omega) hR1, Nat.le_trans (show 8 + (4 + 11) + (90 * n1 + 350) ≤ 90 * n + 300 by omega) hR2⟩) (tf_preV hk hW ha0 (ci := 2) rfl rfl ⟨hs24, hs25, hs26, hs27, hs28, hs29, hXN_0, hXN_1, hs30, hs31⟩) rfl rfl hl.1 rfl (lv_room (Nat.le_of_ble_eq_true rfl)) dX2_readPlain_56 ⟨Nat.zero_le _, Nat.zero_le _⟩) hW (by decide) (fun zT HT locsT hW hFT hpT => ?_)
        have hs32 := tf_keepF hFT ha0 rfl rfl (by decide) hs24
        have hs33 := tf_keepF hFT ht0 rfl rfl (by decide) hs25
        have hs34 := tf_keepF hFT ht0 rfl rfl (by decide) hs26
        have hs35 := tf_keepF hFT ht0 rfl rfl (by decide) hs27
        have hs36 := tf_keepC hFT hso rfl (by decide) hs28
        have hs37 := tf_keepC hFT hpo rfl (by decide) hs29
        obtain ⟨hpT_0, hpT_1⟩ := hpT
        obtain ⟨k1_T, t1_T, lv1_T, fp1_T, hXT_0, hXT_1, hXT_2, hXT_3, hBT_0, hBT_1, hBT_2, hBT_3, hRT_0, hRT_1, hRT_2, hRT_3, hRT_4, hRT_5⟩ := hpT_1
        refine tf_if_eq (tgt := 72) hx hb ⟨by omega, by omega⟩ dX2_readPlain_59 (by decide) (fun h38 => ?_) (fun h38 => ?_)
        · refine tf_iconst hx hb dX2_readPlain_72 ?_
          exact tf_retz (z := 0) hx hb hr hlocks hQ hW (by omega) ⟨by omega, ⟨(k1_T), (t1_T), (lv1_T), (fp1_T), hXT_0, hXT_1, hXT_2, hXT_3, ⟨by omega, by omega⟩, ⟨by omega, by omega⟩, ⟨by omega, by omega⟩, ⟨by omega, by omega⟩, (by first | assumption | omega), (by first | assumption | omega), (by first | assumption | omega), (by first | exact (tf_RD_re hi3_27 (tf_RD_st (tf_n_open (by omega) (by omega) hRN_0) (tf_RD_bad hRT_3 (by omega) (by omega)))) | exact (tf_RD_re hi3_27 (tf_RD_st (tf_n_open (by omega) (by omega) hRN_0) (tf_RD_re (tf_RD_yes hRT_3 (by omega)) (tf_RD_n (by omega) (tf_t_nocl (by omega) (by omega)) (by decide) (by omega)))))), (by first | assumption | omega), (by first | assumption | omega)⟩⟩ dX2_readPlain_73
        · refine lv_aload_n hx hb dX2_readPlain_62 rfl (lv_at hl 0 rfl) ?_
          refine tf_sipush hx hb dX2_readPlain_63 (by decide) ?_
          refine tf_calli (va_runV (As := [.int (Int32.ofInt 1041)]) (rest := []) ⟨hx, hb, hml, hown, hts⟩ (c_X2_pass l g T a0 ha0 (1041) ⟨by omega, by omega⟩ t0 ht0 so hso po hpo (mm) ⟨by omega, by omega⟩ ss pp (k1_T) ⟨by omega, by omega⟩ (t1_T) ⟨by omega, by omega⟩ (fp1_T) ⟨by omega, by omega⟩ (by first | assumption | omega) (by first | assumption | omega) (by first | assumption | omega)) (cwV 1 hts gv_X2_63 rfl rfl rfl hd_X2_pass ⟨Nat.le_trans (show 2 + 1 ≤ 6 * n + 18 by omega) hR1, Nat.le_trans (show 8 + (2 + 11) + (60) ≤ 90 * n + 300 by omega) hR2⟩) (tf_preV hk hW ha0 (ci := 2) rfl rfl ⟨hs32, hs33, hs34, hs35, hs36, hs37, hXT_0, hXT_1, hXT_3⟩) rfl rfl hl.1 rfl (lv_room (Nat.le_of_ble_eq_true rfl)) dX2_readPlain_66 ⟨Nat.zero_le _, Nat.zero_le _⟩) hW (by decide) (fun zP HP locsP hW hFP hpP => ?_)
          have hs39 := tf_keepF hFP ha0 rfl rfl (by decide) hs32
          have hs40 := tf_keepF hFP ht0 rfl rfl (by decide) hs33
          have hs41 := tf_keepF hFP ht0 rfl rfl (by decide) hs34
          have hs42 := tf_keepF hFP ht0 rfl rfl (by decide) hs35
          have hs43 := tf_keepC hFP hso rfl (by decide) hs36
          have hs44 := tf_keepC hFP hpo rfl (by decide) hs37
          have hs45 := tf_keepF hFP ha0 rfl rfl (by decide) hXT_2
          obtain ⟨hpP_0, hpP_1⟩ := hpP
          obtain ⟨k1_P, t1_P, fp1_P, hXP_0, hXP_1, hXP_2, hBP_0, hBP_1, hBP_2, hRP_0, hRP_1, hRP_2⟩ := hpP_1
          refine tf_if_ne (tgt := 84) hx hb ⟨by omega, by omega⟩ dX2_readPlain_69 (by decide) (fun h46 => ?_) (fun h46 => ?_)
          · refine lv_iload_n hx hb dX2_readPlain_84 rfl (lv_at hl 2 rfl) ?_
            refine tf_iconst hx hb dX2_readPlain_85 ?_
            refine tf_irem hx hb ⟨by omega, by omega⟩ (by omega) ⟨by decide, by decide⟩ (by decide) dX2_readPlain_86 ?_
            refine tf_name (fun z47 ez47 => ?_)
            refine tf_iconst hx hb dX2_readPlain_87 ?_
            refine tf_icmp_ne (tgt := 98) hx hb ⟨by omega, by omega⟩ ⟨by decide, by decide⟩ dX2_readPlain_88 (by decide) (fun h48 => ?_) (fun h48 => ?_)
            · refine tf_iconst hx hb dX2_readPlain_98 ?_
              exact tf_retz (z := 1) hx hb hr hlocks hQ hW (by omega) ⟨by omega, ⟨(k1_P), (t1_P), (lv1_T), (fp1_P), hXP_0, hXP_1, hs45, hXP_2, ⟨by omega, by omega⟩, ⟨by omega, by omega⟩, ⟨by omega, by omega⟩, ⟨by omega, by omega⟩, (by first | assumption | omega), (by first | assumption | omega), (by first | assumption | omega), (by first | exact (tf_RD_ok (by omega) (hi3_27.trans (tf_Re_st (tf_n_open (by omega) (by omega) hRN_0) ((tf_RD_yes hRT_3 (by omega)).trans (tf_Re_1 (tf_t_close (by omega) (by omega))))))) | exact (tf_RD_re hi3_27 (tf_RD_plain (by omega) (by omega) (tf_RD_ok (by omega) (tf_RD_yes hRC_3 (by omega)))))), (by first | assumption | omega), (by first | assumption | omega)⟩⟩ dX2_readPlain_99
            · refine lv_aload_n hx hb dX2_readPlain_91 rfl (lv_at hl 0 rfl) ?_
              refine tf_bipush hx hb dX2_readPlain_92 (by decide) ?_
              refine tf_iconst hx hb dX2_readPlain_94 ?_
              refine tf_callv (va_runV (As := [.int (Int32.ofInt 9), .int (Int32.ofInt 0)]) (rest := []) ⟨hx, hb, hml, hown, hts⟩ (c_X2_add l g T a0 ha0 (9) ⟨by omega, by omega⟩ (0) ⟨by omega, by omega⟩) (cwV 2 hts gv_X2_93 rfl rfl rfl hd_X2_add ⟨Nat.le_trans (show 1 + 1 ≤ 6 * n + 18 by omega) hR1, Nat.le_trans (show 8 + (3 + 11) + (24) ≤ 90 * n + 300 by omega) hR2⟩) (tf_preV hk hW ha0 (ci := 2) rfl rfl trivial) rfl rfl hl.1 rfl (lv_room (Nat.le_of_ble_eq_true rfl)) dX2_readPlain_95 ⟨Nat.zero_le _, Nat.zero_le _⟩) hW (by decide) (fun H49 locs49 hW hF49 hp49 => ?_)
              have hs50 := tf_keepF hF49 ha0 rfl rfl (by decide) hs39
              have hs51 := tf_keepF hF49 ht0 rfl rfl (by decide) hs40
              have hs52 := tf_keepF hF49 ht0 rfl rfl (by decide) hs41
              have hs53 := tf_keepF hF49 ht0 rfl rfl (by decide) hs42
              have hs54 := tf_keepC hF49 hso rfl (by decide) hs43
              have hs55 := tf_keepC hF49 hpo rfl (by decide) hs44
              have hs56 := tf_keepF hF49 ha0 rfl rfl (by decide) hs45
              have hs57 := tf_keepF hF49 ha0 rfl rfl (by decide) hXP_0
              have hs58 := tf_keepF hF49 ha0 rfl rfl (by decide) hXP_1
              have hs59 := tf_keepF hF49 ha0 rfl rfl (by decide) hXP_2
              refine tf_iconst hx hb dX2_readPlain_98 ?_
              exact tf_retz (z := 1) hx hb hr hlocks hQ hW (by omega) ⟨by omega, ⟨(k1_P), (t1_P), (lv1_T), (fp1_P), hs57, hs58, hs56, hs59, ⟨by omega, by omega⟩, ⟨by omega, by omega⟩, ⟨by omega, by omega⟩, ⟨by omega, by omega⟩, (by first | assumption | omega), (by first | assumption | omega), (by first | assumption | omega), (by first | exact (tf_RD_ok (by omega) (hi3_27.trans (tf_Re_st (tf_n_open (by omega) (by omega) hRN_0) ((tf_RD_yes hRT_3 (by omega)).trans (tf_Re_1 (tf_t_close (by omega) (by omega))))))) | exact (tf_RD_re hi3_27 (tf_RD_plain (by omega) (by omega) (tf_RD_ok (by omega) (tf_RD_yes hRC_3 (by omega)))))), (by first | assumption | omega), (by first | assumption | omega)⟩⟩ dX2_readPlain_99
          · refine tf_iconst hx hb dX2_readPlain_72 ?_
            exact tf_retz (z := 0) hx hb hr hlocks hQ hW (by omega) ⟨by omega, ⟨(k1_P), (t1_P), (lv1_T), (fp1_P), hXP_0, hXP_1, hs45, hXP_2, ⟨by omega, by omega⟩, ⟨by omega, by omega⟩, ⟨by omega, by omega⟩, ⟨by omega, by omega⟩, (by first | assumption | omega), (by first | assumption | omega), (by first | assumption | omega), (by first | exact (tf_RD_re hi3_27 (tf_RD_st (tf_n_open (by omega) (by omega) hRN_0) (tf_RD_bad hRT_3 (by omega) (by omega)))) | exact (tf_RD_re hi3_27 (tf_RD_st (tf_n_open (by omega) (by omega) hRN_0) (tf_RD_re (tf_RD_yes hRT_3 (by omega)) (tf_RD_n (by omega) (tf_t_nocl (by omega) (by omega)) (by decide) (by omega)))))), (by first | assumption | omega), (by first | assumption | omega)⟩⟩ dX2_readPlain_73
      · refine lv_aload_n hx hb dX2_readPlain_43 rfl (lv_at hl 0 rfl) ?_
        refine tf_calli (va_runV (As := []) (rest := []) ⟨hx, hb, hml, hown, hts⟩ (c_X2_failHere l g T a0 ha0 t0 ht0 po hpo pp (f4_27) ⟨by omega, by omega⟩) (cwV 0 hts gv_X2_66 rfl rfl rfl hd_X2_failHere ⟨Nat.le_trans (show 1 + 1 ≤ 6 * n + 18 by omega) hR1, Nat.le_trans (show 8 + (1 + 11) + (24) ≤ 90 * n + 300 by omega) hR2⟩) (tf_preV hk hW ha0 (ci := 2) rfl rfl ⟨hs3_27, hst01_27, hcTKP_27, hs4_27⟩) rfl rfl hl.1 rfl (lv_room (Nat.le_of_ble_eq_true rfl)) dX2_readPlain_44 ⟨Nat.zero_le _, Nat.zero_le _⟩) hW (by decide) (fun zF HF locsF hW hFF hpF => ?_)
        have hs60 := tf_keepF hFF ha0 rfl rfl (by decide) hs3_27
        have hs61 := tf_keepF hFF ht0 rfl rfl (by decide) hst02_27
        have hs62 := tf_keepF hFF ht0 rfl rfl (by decide) hst00_27
        have hs63 := tf_keepF hFF ht0 rfl rfl (by decide) hst01_27
        have hs64 := tf_keepC hFF hso rfl (by decide) hcTKS_27
        have hs65 := tf_keepC hFF hpo rfl (by decide) hcTKP_27
        have hs66 := tf_keepF hFF ha0 rfl rfl (by decide) hs4_27
        have hs67 := tf_keepF hFF ha0 rfl rfl (by decide) hs5_27
        have hs68 := tf_keepF hFF ha0 rfl rfl (by decide) hs6_27
        obtain ⟨hpF_0, hpF_1⟩ := hpF
        obtain ⟨fp1_F, hXF_0, hBF_0, hRF_0, hRF_1⟩ := hpF_1
        exact tf_retz (z := zF) hx hb hr hlocks hQ hW (by omega) ⟨by omega, ⟨(f4_27), (f5_27), (lv), (fp1_F), hs66, hs67, hs68, hXF_0, ⟨by omega, by omega⟩, ⟨by omega, by omega⟩, ⟨by omega, by omega⟩, ⟨by omega, by omega⟩, (by first | assumption | omega), (by first | assumption | omega), (by first | assumption | omega), (tf_RD_re hi3_27 (tf_RD_n (by omega) (tf_n_deep (by omega) (by omega)) (by decide) (by omega))), (by first | assumption | omega), (by first | assumption | omega)⟩⟩ dX2_readPlain_47
  have j_2 : ∀ (n_2 : Nat), 0 ≤ x1 ∧ x1 ≤ 8 → ∀ (x2_2 : Int), 0 ≤ x2_2 ∧ x2_2 ≤ 400 → ∀ (f4_2 : Int), 0 ≤ f4_2 ∧ f4_2 ≤ 400 → ∀ (f5_2 : Int), (-2147483648) ≤ f5_2 ∧ f5_2 ≤ 2147483647 → (f5_2 = ss f4_2) → (f4_2 < mm) → (k0 ≤ f4_2) → (x2_2 ≤ f4_2) → (tf_Re ss mm (k0, 0, 0, S9, lv, e9, i9) (f4_2, 0, 0, S9, lv, e9, i9)) → (fp0 = fp0) → (400 - x2_2 + 1 ≤ (n_2 : Int)) → ∀ (H : Heap) (locs : List Loc), tf_n tf_kt g M_X2_readPlain T s.heap T H locs → tf_s H a0 (g.1.2 2 3) = some (.ref t0) → tf_s H t0 (g.1.2 4 2) = some (.int (Int32.ofInt mm)) → tf_s H t0 (g.1.2 4 0) = some (.ref so) → tf_s H t0 (g.1.2 4 1) = some (.ref po) → tf_rw H so = ss → tf_rw H po = pp → tf_s H a0 (g.1.2 2 4) = some (.int (Int32.ofInt f4_2)) → tf_s H a0 (g.1.2 2 5) = some (.int (Int32.ofInt f5_2)) → tf_s H a0 (g.1.2 2 6) = some (.int (Int32.ofInt lv)) → tf_s H a0 (g.1.2 2 7) = some (.int (Int32.ofInt fp0)) → ∀ (ls : Array Slot), lv_has ls 3 [(0, .ref a0), (1, .int (Int32.ofInt x1)), (2, .int (Int32.ofInt x2_2))] → W p l e R s m args below meth c H locs 0 0 Q (F0 m 2 ls []) := by
    intro n_2
    induction n_2 with
    | zero =>
      intro hx1_2 x2_2 hx2_2 f4_2 hf4_2 f5_2 hf5_2 hi0_2 hi1_2 hi2_2 hi3_2 hi4_2 hi5_2 hm_2
      exfalso; omega
    | succ n_2 ih_2 =>
      intro hx1_2 x2_2 hx2_2 f4_2 hf4_2 f5_2 hf5_2 hi0_2 hi1_2 hi2_2 hi3_2 hi4_2 hi5_2 hm_2 H locs hW hs3_2 hst02_2 hst00_2 hst01_2 hcTKS_2 hcTKP_2 hs4_2 hs5_2 hs6_2 hs7_2 ls hl
      refine lv_aload_n hx hb dX2_readPlain_2 rfl (lv_at hl 0 rfl) ?_
      refine tf_get hx hb hts inlX2 hown hK (ci := 2) rfl hW ha0 rfl 5 rfl (by decide) (hts _ fl_X2_32) dX2_readPlain_3 (fun v69 hv69 hsv69 => ?_)
      obtain rfl : v69 = .int (Int32.ofInt f5_2) := Option.some.inj (hsv69.symm.trans hs5_2)
      refine tf_iconst hx hb dX2_readPlain_6 ?_
      refine tf_icmp_ne (tgt := 27) hx hb ⟨by omega, by omega⟩ ⟨by decide, by decide⟩ dX2_readPlain_7 (by decide) (fun h70 => ?_) (fun h70 => ?_)
      · exact j_27 ⟨by omega, by omega⟩ (x2_2) ⟨by omega, by omega⟩ (f4_2) ⟨by omega, by omega⟩ (f5_2) ⟨by omega, by omega⟩ (by first | assumption | omega) (by first | assumption | omega) (by first | assumption | omega) (by first | exact hi4_2) (by first | assumption | omega) (by first | assumption | omega) _ _ hW hs3_2 hst02_2 hst00_2 hst01_2 hcTKS_2 hcTKP_2 hs4_2 hs5_2 hs6_2 hs7_2 _ (lv_sub hl [0, 1, 2] rfl)
      · refine lv_iload_n hx hb dX2_readPlain_10 rfl (lv_at hl 2 rfl) ?_
        refine tf_sipush hx hb dX2_readPlain_11 (by decide) ?_
        refine tf_icmp_gt (tgt := 27) hx hb ⟨by omega, by omega⟩ ⟨by decide, by decide⟩ dX2_readPlain_14 (by decide) (fun h71 => ?_) (fun h71 => ?_)
        · exfalso; omega
        · refine lv_iinc (v := Int32.ofInt ((x2_2 + 1))) (lv' := [(2, .int (Int32.ofInt ((x2_2 + 1)))), (0, .ref a0), (1, .int (Int32.ofInt x1))]) hx hb dX2_readPlain_17 hl (k := 2) rfl (Int32.ofInt_add _ _).symm (by decide) rfl (fun ls hl => ?_)
          refine lv_aload_n hx hb dX2_readPlain_20 rfl (lv_at hl 1 rfl) ?_
          refine tf_callv (va_runV (As := []) (rest := []) ⟨hx, hb, hml, hown, hts⟩ (c_X2_next l g T a0 ha0 t0 ht0 so hso (mm) ⟨by omega, by omega⟩ ss (f4_2) ⟨by omega, by omega⟩ (by first | assumption | omega) (by first | assumption | omega)) (cwV 0 hts gv_X2_73 rfl rfl rfl hd_X2_next ⟨Nat.le_trans (show 1 + 1 ≤ 6 * n + 18 by omega) hR1, Nat.le_trans (show 8 + (1 + 11) + (40) ≤ 90 * n + 300 by omega) hR2⟩) (tf_preV hk hW ha0 (ci := 2) rfl rfl ⟨hs3_2, hst02_2, hst00_2, hcTKS_2, hs4_2⟩) rfl rfl hl.1 rfl (lv_room (Nat.le_of_ble_eq_true rfl)) dX2_readPlain_21 ⟨Nat.zero_le _, Nat.zero_le _⟩) hW (by decide) (fun HX locsX hW hFX hpX => ?_)
          have hs72 := tf_keepF hFX ha0 rfl rfl (by decide) hs3_2
          have hs73 := tf_keepF hFX ht0 rfl rfl (by decide) hst02_2
          have hs74 := tf_keepF hFX ht0 rfl rfl (by decide) hst00_2
          have hs75 := tf_keepF hFX ht0 rfl rfl (by decide) hst01_2
          have hs76 := tf_keepC hFX hso rfl (by decide) hcTKS_2
          have hs77 := tf_keepC hFX hpo rfl (by decide) hcTKP_2
          have hs78 := tf_keepF hFX ha0 rfl rfl (by decide) hs6_2
          have hs79 := tf_keepF hFX ha0 rfl rfl (by decide) hs7_2
          obtain ⟨k1_X, t1_X, hXX_0, hXX_1, hBX_0, hBX_1, hRX_0, hRX_1, hRX_2, hRX_3⟩ := hpX
          refine lv_goto (tgt := 2) hx hb dX2_readPlain_24 (by decide) ?_
          exact ih_2 ⟨by omega, by omega⟩ ((x2_2 + 1)) ⟨by omega, by omega⟩ (k1_X) ⟨by omega, by omega⟩ (t1_X) ⟨by omega, by omega⟩ (by first | assumption | omega) (by first | assumption | omega) (by first | assumption | omega) (by first | assumption | omega) (by first | exact tf_Re_rf | exact hi4_2.trans (tf_Re_1 (tf_n_not (by omega) hRX_0))) (by first | assumption | omega) (by omega) _ _ hW hs72 hs73 hs74 hs75 hs76 hs77 hXX_0 hXX_1 hs78 hs79 _ (lv_sub hl [1, 2, 0] rfl)
  refine tf_enter (As := [.ref a0, .int (Int32.ofInt x1)]) hargs (Nat.le_of_ble_eq_true rfl) (fun ls hl => ?_)
  have hl : lv_has ls 3 [(0, .ref a0), (1, .int (Int32.ofInt x1))] := hl
  refine tf_iconst hx hb dX2_readPlain_0 ?_
  refine lv_istore_n (lv' := [(2, .int (Int32.ofInt 0)), (0, .ref a0), (1, .int (Int32.ofInt x1))]) hx hb dX2_readPlain_1 rfl hl (by decide) rfl (fun ls hl => ?_)
  exact j_2 ((400 - 0 + 1 : Int)).toNat ⟨by omega, by omega⟩ (0) ⟨by omega, by omega⟩ (k0) ⟨by omega, by omega⟩ (tk) ⟨by omega, by omega⟩ (by first | assumption | omega) (by first | assumption | omega) (by first | assumption | omega) (by first | assumption | omega) (by first | exact tf_Re_rf | exact hi4_2.trans (tf_Re_1 (tf_n_not (by omega) hRX_0))) (by first | assumption | omega) (by omega) _ _ hW he0 he1 he2 he3 he4 he5 he6 he7 he8 he9 _ (lv_sub hl [1, 2, 0] rfl)

set_option maxHeartbeats 4000000 in
set_option maxRecDepth 100000 in
theorem c_X2_readBoth (l : Launch) (g : tf_G) (T : tf_T) (n : Nat) (hP : K_X2_readPlain l g T n) : K_X2_readBoth l g T n := by
  intro a0 ha0 x1 hp1 S9 e9 i9 t0 ht0 so hso po hpo mm hmm ss pp k0 hk0 tk htk lv hlv fp0 hfp0 hq0 hq1 hq2 hq3 hq4 hfu
  refine Met.ofW (cc := cX2_readBoth) (maxL := 4) (ret := (some .boolean)) (by decide) rfl ?_
  intro p e s m args below meth c s₁ B hml hv
  obtain ⟨hargs, hk, hW0, hB, hpre⟩ := hv
  obtain ⟨he0, he1, he2, he3, he4, he5, he6, he7, he8, he9⟩ := hpre
  have hx := B.exec
  have hb := B.bytes
  have hr := B.returns
  have hts : ∀ w ∈ wsL_law, w.before args s = true := fun w h => atoms_spec (ws := cd_X2_readBoth :: wsL_law) B.pre w (List.mem_cons_of_mem _ h)
  have hown : s.vm.findClass RX2 = some m.cls := findClass_of_methodNamed B.named
  have hlocks := B.notSynchronized
  have hK := hk.1
  have hW := tf_n.start (M := M_X2_readBoth) hW0 hB
  obtain ⟨Q, hQ⟩ : ∃ q, q = MQ below (tf_Qi g M_X2_readBoth T (fun z _ H => (z = 0 ∨ z = 1) ∧ (∃ (k1 t1 lv1 fp1 : Int) , tf_s H a0 (g.1.2 2 4) = some (.int (Int32.ofInt k1)) ∧ tf_s H a0 (g.1.2 2 5) = some (.int (Int32.ofInt t1)) ∧ tf_s H a0 (g.1.2 2 6) = some (.int (Int32.ofInt lv1)) ∧ tf_s H a0 (g.1.2 2 7) = some (.int (Int32.ofInt fp1)) ∧ (0 ≤ k1 ∧ k1 ≤ 400) ∧ ((-2147483648) ≤ t1 ∧ t1 ≤ 2147483647) ∧ (0 ≤ lv1 ∧ lv1 ≤ 50) ∧ ((-2147483648) ≤ fp1 ∧ fp1 ≤ 2147483647) ∧ (k1 < mm) ∧ (k0 ≤ k1) ∧ (t1 = ss k1) ∧ (tf_RD ss pp mm (k0, 0, 0, S9, lv, e9, i9) z (k1, 2, 0, S9, lv1, e9, i9) fp1) ∧ (z = 0 ∨ (k0 < k1 ∧ ss k1 ≠ 4)) ∧ (z = 0 ∨ fp1 = fp0)))) args s 0 0 (fun q => tf_B g ≤ q) := ⟨_, rfl⟩
  rw [← hQ]
  obtain ⟨R, hR⟩ : ∃ q, q = (headSpec (cd_X2_readBoth :: wsL_law) ({ frames := 6 * n + 20, cells := 0, slots := 0, locals := 90 * n + 325 })).room := ⟨_, rfl⟩
  rw [← hR]
  have hR1 : 6 * n + 20 ≤ R.frames := by rw [hR]; exact Nat.le_refl _
  have hR2 : 90 * n + 325 ≤ R.locals := by rw [hR]; exact Nat.le_refl _
  have hR3 : 0 ≤ R.cells := by rw [hR]; exact Nat.le_refl _
  have hR4 : 0 ≤ R.slots := by rw [hR]; exact Nat.le_refl _
  have hin := (name_of_methodNamed B.named B.method).1
  clear hR B
  have j_50 : ∀ (x2_50 : Int), (-2147483648) ≤ x2_50 ∧ x2_50 ≤ 2147483647 → ∀ (f4_50 : Int), 0 ≤ f4_50 ∧ f4_50 ≤ 400 → ∀ (f5_50 : Int), (-2147483648) ≤ f5_50 ∧ f5_50 ≤ 2147483647 → ∀ (f6_50 : Int), 0 ≤ f6_50 ∧ f6_50 ≤ 50 → ∀ (f7_50 : Int), (-2147483648) ≤ f7_50 ∧ f7_50 ≤ 2147483647 → (f5_50 = ss f4_50) → (f4_50 < mm) → (k0 < f4_50) → (tf_Re ss mm (k0, 0, 0, S9, lv, e9, i9) (f4_50, 2, 0, S9, f6_50, e9, i9)) → (ss f4_50 ≠ 4) → (f7_50 = fp0) → ∀ (H : Heap) (locs : List Loc), tf_n tf_kt g M_X2_readBoth T s.heap T H locs → tf_s H a0 (g.1.2 2 4) = some (.int (Int32.ofInt f4_50)) → tf_s H a0 (g.1.2 2 5) = some (.int (Int32.ofInt f5_50)) → tf_s H a0 (g.1.2 2 6) = some (.int (Int32.ofInt f6_50)) → tf_s H a0 (g.1.2 2 7) = some (.int (Int32.ofInt f7_50)) → ∀ (ls : Array Slot), lv_has ls 4 [(0, .ref a0), (2, .int (Int32.ofInt x2_50))] → W p l e R s m args below meth c H locs 0 0 Q (F0 m 50 ls []) := by
    intro x2_50 hx2_50 f4_50 hf4_50 f5_50 hf5_50 f6_50 hf6_50 f7_50 hf7_50 hi0_50 hi1_50 hi2_50 hi3_50 hi4_50 hi5_50 H locs hW hs4_50 hs5_50 hs6_50 hs7_50 ls hl
    refine lv_aload_n hx hb dX2_readBoth_50 rfl (lv_at hl 0 rfl) ?_
    refine lv_iload_n hx hb dX2_readBoth_51 rfl (lv_at hl 1 rfl) ?_
    refine tf_callv (va_runV (As := [.int (Int32.ofInt x2_50)]) (rest := []) ⟨hx, hb, hml, hown, hts⟩ (c_X2_landHere l g T a0 ha0 (x2_50) ⟨by omega, by omega⟩) (cwV 1 hts gv_X2_86 rfl rfl rfl hd_X2_landHere ⟨Nat.le_trans (show 1 + 1 ≤ 6 * n + 20 by omega) hR1, Nat.le_trans (show 8 + (5 + 11) + (24) ≤ 90 * n + 325 by omega) hR2⟩) (tf_preV hk hW ha0 (ci := 2) rfl rfl trivial) rfl rfl hl.1 rfl (lv_room (Nat.le_of_ble_eq_true rfl)) dX2_readBoth_52 ⟨Nat.zero_le _, Nat.zero_le _⟩) hW (by decide) (fun H1 locs1 hW hF1 hp1 => ?_)
    have hs2 := tf_keepF hF1 ha0 rfl rfl (by decide) hs4_50
    have hs3 := tf_keepF hF1 ha0 rfl rfl (by decide) hs5_50
    have hs4 := tf_keepF hF1 ha0 rfl rfl (by decide) hs6_50
    have hs5 := tf_keepF hF1 ha0 rfl rfl (by decide) hs7_50
    refine tf_iconst hx hb dX2_readBoth_55 ?_
    exact tf_retz (z := 1) hx hb hr hlocks hQ hW (by omega) ⟨by omega, ⟨(f4_50), (f5_50), (f6_50), (f7_50), hs2, hs3, hs4, hs5, ⟨by omega, by omega⟩, ⟨by omega, by omega⟩, ⟨by omega, by omega⟩, ⟨by omega, by omega⟩, (by first | assumption | omega), (by first | assumption | omega), (by first | assumption | omega), (tf_RD_ok (by omega) hi3_50), (by first | assumption | omega), (by first | assumption | omega)⟩⟩ dX2_readBoth_56
  have j_4 : ∀ (n_4 : Nat), 0 ≤ x1 ∧ x1 ≤ 8 → ∀ (x2_4 : Int), (-2147483648) ≤ x2_4 ∧ x2_4 ≤ 2147483647 → ∀ (x3_4 : Int), 0 ≤ x3_4 ∧ x3_4 ≤ 400 → ∀ (f4_4 : Int), 0 ≤ f4_4 ∧ f4_4 ≤ 400 → ∀ (f5_4 : Int), (-2147483648) ≤ f5_4 ∧ f5_4 ≤ 2147483647 → ∀ (f6_4 : Int), 0 ≤ f6_4 ∧ f6_4 ≤ 50 → ∀ (f7_4 : Int), (-2147483648) ≤ f7_4 ∧ f7_4 ≤ 2147483647 → (f5_4 = ss f4_4) → (f4_4 < mm) → (k0 ≤ f4_4) → (x3_4 ≤ f4_4) → (tf_Re ss mm (k0, 0, 0, S9, lv, e9, i9) (f4_4, 0, 0, S9, f6_4, e9, i9)) → (f7_4 = fp0) → (400 - x3_4 + 1 ≤ (n_4 : Int)) → ∀ (H : Heap) (locs : List Loc), tf_n tf_kt g M_X2_readBoth T s.heap T H locs → tf_s H a0 (g.1.2 2 3) = some (.ref t0) → tf_s H t0 (g.1.2 4 2) = some (.int (Int32.ofInt mm)) → tf_s H t0 (g.1.2 4 0) = some (.ref so) → tf_s H t0 (g.1.2 4 1) = some (.ref po) → tf_rw H so = ss → tf_rw H po = pp → tf_s H a0 (g.1.2 2 4) = some (.int (Int32.ofInt f4_4)) → tf_s H a0 (g.1.2 2 5) = some (.int (Int32.ofInt f5_4)) → tf_s H a0 (g.1.2 2 6) = some (.int (Int32.ofInt f6_4)) → tf_s H a0 (g.1.2 2 7) = some (.int (Int32.ofInt f7_4)) → ∀ (ls : Array Slot), lv_has ls 4 [(0, .ref a0), (1, .int (Int32.ofInt x1)), (2, .int (Int32.ofInt x2_4)), (3, .int (Int32.ofInt x3_4))] → W p l e R s m args below meth c H locs 0 0 Q (F0 m 4 ls []) := by
    intro n_4
    induction n_4 with
    | zero =>
      intro hx1_4 x2_4 hx2_4 x3_4 hx3_4 f4_4 hf4_4 f5_4 hf5_4 f6_4 hf6_4 f7_4 hf7_4 hi0_4 hi1_4 hi2_4 hi3_4 hi4_4 hi5_4 hm_4
      exfalso; omega
    | succ n_4 ih_4 =>
      intro hx1_4 x2_4 hx2_4 x3_4 hx3_4 f4_4 hf4_4 f5_4 hf5_4 f6_4 hf6_4 f7_4 hf7_4 hi0_4 hi1_4 hi2_4 hi3_4 hi4_4 hi5_4 hm_4 H locs hW hs3_4 hst02_4 hst00_4 hst01_4 hcTKS_4 hcTKP_4 hs4_4 hs5_4 hs6_4 hs7_4 ls hl
      refine lv_iload_n hx hb dX2_readBoth_4 rfl (lv_at hl 3 rfl) ?_
      refine tf_sipush hx hb dX2_readBoth_5 (by decide) ?_
      refine tf_icmp_gt (tgt := 50) hx hb ⟨by omega, by omega⟩ ⟨by decide, by decide⟩ dX2_readBoth_8 (by decide) (fun h6 => ?_) (fun h6 => ?_)
      · exfalso; omega
      · refine lv_aload_n hx hb dX2_readBoth_11 rfl (lv_at hl 0 rfl) ?_
        refine lv_iload_n hx hb dX2_readBoth_12 rfl (lv_at hl 1 rfl) ?_
        refine tf_calli (va_runV (As := [.int (Int32.ofInt x1)]) (rest := []) ⟨hx, hb, hml, hown, hts⟩ (hP a0 ha0 (x1) ⟨by omega, by omega⟩ S9 e9 i9 t0 ht0 so hso po hpo (mm) ⟨by omega, by omega⟩ ss pp (f4_4) ⟨by omega, by omega⟩ (f5_4) ⟨by omega, by omega⟩ (f6_4) ⟨by omega, by omega⟩ (f7_4) ⟨by omega, by omega⟩ (by first | assumption | omega) (by first | assumption | omega) (by first | assumption | omega) (by first | assumption | omega) (by first | assumption | omega) (by omega)) (cwV 1 hts gv_X2_90 rfl rfl rfl hd_X2_readPlain ⟨Nat.le_trans (show 6 * n + 18 + 1 ≤ 6 * n + 20 by omega) hR1, Nat.le_trans (show 8 + (3 + 11) + (90 * n + 300) ≤ 90 * n + 325 by omega) hR2⟩) (tf_preV hk hW ha0 (ci := 2) rfl rfl ⟨hs3_4, hst02_4, hst00_4, hst01_4, hcTKS_4, hcTKP_4, hs4_4, hs5_4, hs6_4, hs7_4⟩) rfl rfl hl.1 rfl (lv_room (Nat.le_of_ble_eq_true rfl)) dX2_readBoth_13 ⟨Nat.zero_le _, Nat.zero_le _⟩) hW (by decide) (fun zA HA locsA hW hFA hpA => ?_)
        have hs7 := tf_keepF hFA ha0 rfl rfl (by decide) hs3_4
        have hs8 := tf_keepF hFA ht0 rfl rfl (by decide) hst02_4
        have hs9 := tf_keepF hFA ht0 rfl rfl (by decide) hst00_4
        have hs10 := tf_keepF hFA ht0 rfl rfl (by decide) hst01_4
        have hs11 := tf_keepC hFA hso rfl (by decide) hcTKS_4
        have hs12 := tf_keepC hFA hpo rfl (by decide) hcTKP_4
        obtain ⟨hpA_0, hpA_1⟩ := hpA
        obtain ⟨k1_A, t1_A, lv1_A, fp1_A, hXA_0, hXA_1, hXA_2, hXA_3, hBA_0, hBA_1, hBA_2, hBA_3, hRA_0, hRA_1, hRA_2, hRA_3, hRA_4, hRA_5⟩ := hpA_1
        refine tf_if_ne (tgt := 21) hx hb ⟨by omega, by omega⟩ dX2_readBoth_16 (by decide) (fun h13 => ?_) (fun h13 => ?_)
        · refine lv_aload_n hx hb dX2_readBoth_21 rfl (lv_at hl 0 rfl) ?_
          refine tf_get hx hb hts inlX2 hown hK (ci := 2) rfl hW ha0 rfl 5 rfl (by decide) (hts _ fl_X2_32) dX2_readBoth_22 (fun v14 hv14 hsv14 => ?_)
          obtain rfl : v14 = .int (Int32.ofInt t1_A) := Option.some.inj (hsv14.symm.trans hXA_1)
          refine tf_iconst hx hb dX2_readBoth_25 ?_
          refine tf_icmp_eq (tgt := 32) hx hb ⟨by omega, by omega⟩ ⟨by decide, by decide⟩ dX2_readBoth_26 (by decide) (fun h15 => ?_) (fun h15 => ?_)
          · refine lv_aload_n hx hb dX2_readBoth_32 rfl (lv_at hl 0 rfl) ?_
            refine tf_callv (va_runV (As := []) (rest := []) ⟨hx, hb, hml, hown, hts⟩ (c_X2_next l g T a0 ha0 t0 ht0 so hso (mm) ⟨by omega, by omega⟩ ss (k1_A) ⟨by omega, by omega⟩ (by first | assumption | omega) (by first | assumption | omega)) (cwV 0 hts gv_X2_73 rfl rfl rfl hd_X2_next ⟨Nat.le_trans (show 1 + 1 ≤ 6 * n + 20 by omega) hR1, Nat.le_trans (show 8 + (1 + 11) + (40) ≤ 90 * n + 325 by omega) hR2⟩) (tf_preV hk hW ha0 (ci := 2) rfl rfl ⟨hs7, hs8, hs9, hs11, hXA_0⟩) rfl rfl hl.1 rfl (lv_room (Nat.le_of_ble_eq_true rfl)) dX2_readBoth_33 ⟨Nat.zero_le _, Nat.zero_le _⟩) hW (by decide) (fun HN locsN hW hFN hpN => ?_)
            have hs16 := tf_keepF hFN ha0 rfl rfl (by decide) hs7
            have hs17 := tf_keepF hFN ht0 rfl rfl (by decide) hs8
            have hs18 := tf_keepF hFN ht0 rfl rfl (by decide) hs9
            have hs19 := tf_keepF hFN ht0 rfl rfl (by decide) hs10
            have hs20 := tf_keepC hFN hso rfl (by decide) hs11
            have hs21 := tf_keepC hFN hpo rfl (by decide) hs12
            have hs22 := tf_keepF hFN ha0 rfl rfl (by decide) hXA_2
            have hs23 := tf_keepF hFN ha0 rfl rfl (by decide) hXA_3
            obtain ⟨k1_N, t1_N, hXN_0, hXN_1, hBN_0, hBN_1, hRN_0, hRN_1, hRN_2, hRN_3⟩ := hpN
            refine lv_aload_n hx hb dX2_readBoth_36 rfl (lv_at hl 0 rfl) ?_
            refine tf_bipush hx hb dX2_readBoth_37 (by decide) ?_
            refine lv_iload_n hx hb dX2_readBoth_39 rfl (lv_at hl 2 rfl) ?_
            refine tf_calli (va_runV (As := [.int (Int32.ofInt 10), .int (Int32.ofInt x2_4)]) (rest := []) ⟨hx, hb, hml, hown, hts⟩ (c_X2_addJump l g T a0 ha0 (10) ⟨by omega, by omega⟩ (x2_4) ⟨by omega, by omega⟩) (cwV 2 hts gv_X2_82 rfl rfl rfl hd_X2_addJump ⟨Nat.le_trans (show 2 + 1 ≤ 6 * n + 20 by omega) hR1, Nat.le_trans (show 8 + (3 + 11) + (46) ≤ 90 * n + 325 by omega) hR2⟩) (tf_preV hk hW ha0 (ci := 2) rfl rfl trivial) rfl rfl hl.1 rfl (lv_room (Nat.le_of_ble_eq_true rfl)) dX2_readBoth_40 ⟨Nat.zero_le _, Nat.zero_le _⟩) hW (by decide) (fun z24 H24 locs24 hW hF24 hp24 => ?_)
            have hs25 := tf_keepF hF24 ha0 rfl rfl (by decide) hs16
            have hs26 := tf_keepF hF24 ht0 rfl rfl (by decide) hs17
            have hs27 := tf_keepF hF24 ht0 rfl rfl (by decide) hs18
            have hs28 := tf_keepF hF24 ht0 rfl rfl (by decide) hs19
            have hs29 := tf_keepC hF24 hso rfl (by decide) hs20
            have hs30 := tf_keepC hF24 hpo rfl (by decide) hs21
            have hs31 := tf_keepF hF24 ha0 rfl rfl (by decide) hs22
            have hs32 := tf_keepF hF24 ha0 rfl rfl (by decide) hs23
            have hs33 := tf_keepF hF24 ha0 rfl rfl (by decide) hXN_0
            have hs34 := tf_keepF hF24 ha0 rfl rfl (by decide) hXN_1
            obtain ⟨hp24_0, hp24_1⟩ := hp24
            refine lv_istore_n (lv' := [(2, .int (Int32.ofInt z24)), (0, .ref a0), (1, .int (Int32.ofInt x1)), (3, .int (Int32.ofInt x3_4))]) hx hb dX2_readBoth_43 rfl hl (by decide) rfl (fun ls hl => ?_)
            refine lv_iinc (v := Int32.ofInt ((x3_4 + 1))) (lv' := [(3, .int (Int32.ofInt ((x3_4 + 1)))), (2, .int (Int32.ofInt z24)), (0, .ref a0), (1, .int (Int32.ofInt x1))]) hx hb dX2_readBoth_44 hl (k := 3) rfl (Int32.ofInt_add _ _).symm (by decide) rfl (fun ls hl => ?_)
            refine lv_goto (tgt := 4) hx hb dX2_readBoth_47 (by decide) ?_
            exact ih_4 ⟨by omega, by omega⟩ (z24) ⟨by omega, by omega⟩ ((x3_4 + 1)) ⟨by omega, by omega⟩ (k1_N) ⟨by omega, by omega⟩ (t1_N) ⟨by omega, by omega⟩ (lv1_A) ⟨by omega, by omega⟩ (fp1_A) ⟨by omega, by omega⟩ (by first | assumption | omega) (by first | assumption | omega) (by first | assumption | omega) (by first | assumption | omega) (by first | exact tf_Re_rf | exact hi4_4.trans ((tf_RD_yes hRA_3 (by omega)).trans (tf_Re_1 (tf_t_and (by omega) hRN_0)))) (by first | assumption | omega) (by omega) _ _ hW hs25 hs26 hs27 hs28 hs29 hs30 hs33 hs34 hs31 hs32 _ (lv_sub hl [2, 3, 1, 0] rfl)
          · refine lv_goto (tgt := 50) hx hb dX2_readBoth_29 (by decide) ?_
            exact j_50 (x2_4) ⟨by omega, by omega⟩ (k1_A) ⟨by omega, by omega⟩ (t1_A) ⟨by omega, by omega⟩ (lv1_A) ⟨by omega, by omega⟩ (fp1_A) ⟨by omega, by omega⟩ (by first | assumption | omega) (by first | assumption | omega) (by first | assumption | omega) (by first | exact hi4_4.trans (tf_RD_yes hRA_3 (by omega))) (by first | assumption | omega) (by first | assumption | omega) _ _ hW hXA_0 hXA_1 hXA_2 hXA_3 _ (lv_sub hl [0, 2] rfl)
        · refine tf_iconst hx hb dX2_readBoth_19 ?_
          exact tf_retz (z := 0) hx hb hr hlocks hQ hW (by omega) ⟨by omega, ⟨(k1_A), (t1_A), (lv1_A), (fp1_A), hXA_0, hXA_1, hXA_2, hXA_3, ⟨by omega, by omega⟩, ⟨by omega, by omega⟩, ⟨by omega, by omega⟩, ⟨by omega, by omega⟩, (by first | assumption | omega), (by first | assumption | omega), (by first | assumption | omega), (tf_RD_re hi4_4 (tf_RD_bad hRA_3 (by omega) (by omega))), (by first | assumption | omega), (by first | assumption | omega)⟩⟩ dX2_readBoth_20
  refine tf_enter (As := [.ref a0, .int (Int32.ofInt x1)]) hargs (Nat.le_of_ble_eq_true rfl) (fun ls hl => ?_)
  have hl : lv_has ls 4 [(0, .ref a0), (1, .int (Int32.ofInt x1))] := hl
  refine tf_iconst hx hb dX2_readBoth_0 ?_
  refine lv_istore_n (lv' := [(2, .int (Int32.ofInt ((-1)))), (0, .ref a0), (1, .int (Int32.ofInt x1))]) hx hb dX2_readBoth_1 rfl hl (by decide) rfl (fun ls hl => ?_)
  refine tf_iconst hx hb dX2_readBoth_2 ?_
  refine lv_istore_n (lv' := [(3, .int (Int32.ofInt 0)), (2, .int (Int32.ofInt ((-1)))), (0, .ref a0), (1, .int (Int32.ofInt x1))]) hx hb dX2_readBoth_3 rfl hl (by decide) rfl (fun ls hl => ?_)
  exact j_4 ((400 - 0 + 1 : Int)).toNat ⟨by omega, by omega⟩ ((-1)) ⟨by omega, by omega⟩ (0) ⟨by omega, by omega⟩ (k0) ⟨by omega, by omega⟩ (tk) ⟨by omega, by omega⟩ (lv) ⟨by omega, by omega⟩ (fp0) ⟨by omega, by omega⟩ (by first | assumption | omega) (by first | assumption | omega) (by first | assumption | omega) (by first | assumption | omega) (by first | exact tf_Re_rf | exact hi4_4.trans ((tf_RD_yes hRA_3 (by omega)).trans (tf_Re_1 (tf_t_and (by omega) hRN_0)))) (by first | assumption | omega) (by omega) _ _ hW he0 he1 he2 he3 he4 he5 he6 he7 he8 he9 _ (lv_sub hl [2, 3, 1, 0] rfl)

set_option maxHeartbeats 4000000 in
set_option maxRecDepth 100000 in
theorem c_X2_readTest (l : Launch) (g : tf_G) (T : tf_T) (n : Nat) (hBo : K_X2_readBoth l g T n) : K_X2_readTest l g T n := by
  intro a0 ha0 x1 hp1 S9 e9 i9 t0 ht0 so hso po hpo mm hmm ss pp k0 hk0 tk htk lv hlv fp0 hfp0 hq0 hq1 hq2 hq3 hq4 hfu
  refine Met.ofW (cc := cX2_readTest) (maxL := 4) (ret := (some .boolean)) (by decide) rfl ?_
  intro p e s m args below meth c s₁ B hml hv
  obtain ⟨hargs, hk, hW0, hB, hpre⟩ := hv
  obtain ⟨he0, he1, he2, he3, he4, he5, he6, he7, he8, he9⟩ := hpre
  have hx := B.exec
  have hb := B.bytes
  have hr := B.returns
  have hts : ∀ w ∈ wsL_law, w.before args s = true := fun w h => atoms_spec (ws := cd_X2_readTest :: wsL_law) B.pre w (List.mem_cons_of_mem _ h)
  have hown : s.vm.findClass RX2 = some m.cls := findClass_of_methodNamed B.named
  have hlocks := B.notSynchronized
  have hK := hk.1
  have hW := tf_n.start (M := M_X2_readTest) hW0 hB
  obtain ⟨Q, hQ⟩ : ∃ q, q = MQ below (tf_Qi g M_X2_readTest T (fun z _ H => (z = 0 ∨ z = 1) ∧ (∃ (k1 t1 lv1 fp1 : Int) , tf_s H a0 (g.1.2 2 4) = some (.int (Int32.ofInt k1)) ∧ tf_s H a0 (g.1.2 2 5) = some (.int (Int32.ofInt t1)) ∧ tf_s H a0 (g.1.2 2 6) = some (.int (Int32.ofInt lv1)) ∧ tf_s H a0 (g.1.2 2 7) = some (.int (Int32.ofInt fp1)) ∧ (0 ≤ k1 ∧ k1 ≤ 400) ∧ ((-2147483648) ≤ t1 ∧ t1 ≤ 2147483647) ∧ (0 ≤ lv1 ∧ lv1 ≤ 50) ∧ ((-2147483648) ≤ fp1 ∧ fp1 ≤ 2147483647) ∧ (k1 < mm) ∧ (k0 ≤ k1) ∧ (t1 = ss k1) ∧ (tf_RD ss pp mm (k0, 0, 0, S9, lv, e9, i9) z (k1, 2, 0, S9, lv1, e9, i9) fp1) ∧ (z = 0 ∨ (k0 < k1 ∧ ss k1 ≠ 3 ∧ ss k1 ≠ 4)) ∧ (z = 0 ∨ fp1 = fp0)))) args s 0 0 (fun q => tf_B g ≤ q) := ⟨_, rfl⟩
  rw [← hQ]
  obtain ⟨R, hR⟩ : ∃ q, q = (headSpec (cd_X2_readTest :: wsL_law) ({ frames := 6 * n + 22, cells := 0, slots := 0, locals := 90 * n + 350 })).room := ⟨_, rfl⟩
  rw [← hR]
  have hR1 : 6 * n + 22 ≤ R.frames := by rw [hR]; exact Nat.le_refl _
  have hR2 : 90 * n + 350 ≤ R.locals := by rw [hR]; exact Nat.le_refl _
  have hR3 : 0 ≤ R.cells := by rw [hR]; exact Nat.le_refl _
  have hR4 : 0 ≤ R.slots := by rw [hR]; exact Nat.le_refl _
  have hin := (name_of_methodNamed B.named B.method).1
  clear hR B
  have j_50 : ∀ (x2_50 : Int), (-2147483648) ≤ x2_50 ∧ x2_50 ≤ 2147483647 → ∀ (f4_50 : Int), 0 ≤ f4_50 ∧ f4_50 ≤ 400 → ∀ (f5_50 : Int), (-2147483648) ≤ f5_50 ∧ f5_50 ≤ 2147483647 → ∀ (f6_50 : Int), 0 ≤ f6_50 ∧ f6_50 ≤ 50 → ∀ (f7_50 : Int), (-2147483648) ≤ f7_50 ∧ f7_50 ≤ 2147483647 → (f5_50 = ss f4_50) → (f4_50 < mm) → (k0 < f4_50) → (tf_Re ss mm (k0, 0, 0, S9, lv, e9, i9) (f4_50, 2, 0, S9, f6_50, e9, i9)) → (ss f4_50 ≠ 3 ∧ ss f4_50 ≠ 4) → (f7_50 = fp0) → ∀ (H : Heap) (locs : List Loc), tf_n tf_kt g M_X2_readTest T s.heap T H locs → tf_s H a0 (g.1.2 2 4) = some (.int (Int32.ofInt f4_50)) → tf_s H a0 (g.1.2 2 5) = some (.int (Int32.ofInt f5_50)) → tf_s H a0 (g.1.2 2 6) = some (.int (Int32.ofInt f6_50)) → tf_s H a0 (g.1.2 2 7) = some (.int (Int32.ofInt f7_50)) → ∀ (ls : Array Slot), lv_has ls 4 [(0, .ref a0), (2, .int (Int32.ofInt x2_50))] → W p l e R s m args below meth c H locs 0 0 Q (F0 m 50 ls []) := by
    intro x2_50 hx2_50 f4_50 hf4_50 f5_50 hf5_50 f6_50 hf6_50 f7_50 hf7_50 hi0_50 hi1_50 hi2_50 hi3_50 hi4_50 hi5_50 H locs hW hs4_50 hs5_50 hs6_50 hs7_50 ls hl
    refine lv_aload_n hx hb dX2_readTest_50 rfl (lv_at hl 0 rfl) ?_
    refine lv_iload_n hx hb dX2_readTest_51 rfl (lv_at hl 1 rfl) ?_
    refine tf_callv (va_runV (As := [.int (Int32.ofInt x2_50)]) (rest := []) ⟨hx, hb, hml, hown, hts⟩ (c_X2_landHere l g T a0 ha0 (x2_50) ⟨by omega, by omega⟩) (cwV 1 hts gv_X2_86 rfl rfl rfl hd_X2_landHere ⟨Nat.le_trans (show 1 + 1 ≤ 6 * n + 22 by omega) hR1, Nat.le_trans (show 8 + (5 + 11) + (24) ≤ 90 * n + 350 by omega) hR2⟩) (tf_preV hk hW ha0 (ci := 2) rfl rfl trivial) rfl rfl hl.1 rfl (lv_room (Nat.le_of_ble_eq_true rfl)) dX2_readTest_52 ⟨Nat.zero_le _, Nat.zero_le _⟩) hW (by decide) (fun H1 locs1 hW hF1 hp1 => ?_)
    have hs2 := tf_keepF hF1 ha0 rfl rfl (by decide) hs4_50
    have hs3 := tf_keepF hF1 ha0 rfl rfl (by decide) hs5_50
    have hs4 := tf_keepF hF1 ha0 rfl rfl (by decide) hs6_50
    have hs5 := tf_keepF hF1 ha0 rfl rfl (by decide) hs7_50
    refine tf_iconst hx hb dX2_readTest_55 ?_
    exact tf_retz (z := 1) hx hb hr hlocks hQ hW (by omega) ⟨by omega, ⟨(f4_50), (f5_50), (f6_50), (f7_50), hs2, hs3, hs4, hs5, ⟨by omega, by omega⟩, ⟨by omega, by omega⟩, ⟨by omega, by omega⟩, ⟨by omega, by omega⟩, (by first | assumption | omega), (by first | assumption | omega), (by first | assumption | omega), (tf_RD_ok (by omega) hi3_50), (by first | assumption | omega), (by first | assumption | omega)⟩⟩ dX2_readTest_56
  have j_4 : ∀ (n_4 : Nat), 0 ≤ x1 ∧ x1 ≤ 8 → ∀ (x2_4 : Int), (-2147483648) ≤ x2_4 ∧ x2_4 ≤ 2147483647 → ∀ (x3_4 : Int), 0 ≤ x3_4 ∧ x3_4 ≤ 400 → ∀ (f4_4 : Int), 0 ≤ f4_4 ∧ f4_4 ≤ 400 → ∀ (f5_4 : Int), (-2147483648) ≤ f5_4 ∧ f5_4 ≤ 2147483647 → ∀ (f6_4 : Int), 0 ≤ f6_4 ∧ f6_4 ≤ 50 → ∀ (f7_4 : Int), (-2147483648) ≤ f7_4 ∧ f7_4 ≤ 2147483647 → (f5_4 = ss f4_4) → (f4_4 < mm) → (k0 ≤ f4_4) → (x3_4 ≤ f4_4) → (tf_Re ss mm (k0, 0, 0, S9, lv, e9, i9) (f4_4, 0, 0, S9, f6_4, e9, i9)) → (f7_4 = fp0) → (400 - x3_4 + 1 ≤ (n_4 : Int)) → ∀ (H : Heap) (locs : List Loc), tf_n tf_kt g M_X2_readTest T s.heap T H locs → tf_s H a0 (g.1.2 2 3) = some (.ref t0) → tf_s H t0 (g.1.2 4 2) = some (.int (Int32.ofInt mm)) → tf_s H t0 (g.1.2 4 0) = some (.ref so) → tf_s H t0 (g.1.2 4 1) = some (.ref po) → tf_rw H so = ss → tf_rw H po = pp → tf_s H a0 (g.1.2 2 4) = some (.int (Int32.ofInt f4_4)) → tf_s H a0 (g.1.2 2 5) = some (.int (Int32.ofInt f5_4)) → tf_s H a0 (g.1.2 2 6) = some (.int (Int32.ofInt f6_4)) → tf_s H a0 (g.1.2 2 7) = some (.int (Int32.ofInt f7_4)) → ∀ (ls : Array Slot), lv_has ls 4 [(0, .ref a0), (1, .int (Int32.ofInt x1)), (2, .int (Int32.ofInt x2_4)), (3, .int (Int32.ofInt x3_4))] → W p l e R s m args below meth c H locs 0 0 Q (F0 m 4 ls []) := by
    intro n_4
    induction n_4 with
    | zero =>
      intro hx1_4 x2_4 hx2_4 x3_4 hx3_4 f4_4 hf4_4 f5_4 hf5_4 f6_4 hf6_4 f7_4 hf7_4 hi0_4 hi1_4 hi2_4 hi3_4 hi4_4 hi5_4 hm_4
      exfalso; omega
    | succ n_4 ih_4 =>
      intro hx1_4 x2_4 hx2_4 x3_4 hx3_4 f4_4 hf4_4 f5_4 hf5_4 f6_4 hf6_4 f7_4 hf7_4 hi0_4 hi1_4 hi2_4 hi3_4 hi4_4 hi5_4 hm_4 H locs hW hs3_4 hst02_4 hst00_4 hst01_4 hcTKS_4 hcTKP_4 hs4_4 hs5_4 hs6_4 hs7_4 ls hl
      refine lv_iload_n hx hb dX2_readTest_4 rfl (lv_at hl 3 rfl) ?_
      refine tf_sipush hx hb dX2_readTest_5 (by decide) ?_
      refine tf_icmp_gt (tgt := 50) hx hb ⟨by omega, by omega⟩ ⟨by decide, by decide⟩ dX2_readTest_8 (by decide) (fun h6 => ?_) (fun h6 => ?_)
      · exfalso; omega
      · refine lv_aload_n hx hb dX2_readTest_11 rfl (lv_at hl 0 rfl) ?_
        refine lv_iload_n hx hb dX2_readTest_12 rfl (lv_at hl 1 rfl) ?_
        refine tf_calli (va_runV (As := [.int (Int32.ofInt x1)]) (rest := []) ⟨hx, hb, hml, hown, hts⟩ (hBo a0 ha0 (x1) ⟨by omega, by omega⟩ S9 e9 i9 t0 ht0 so hso po hpo (mm) ⟨by omega, by omega⟩ ss pp (f4_4) ⟨by omega, by omega⟩ (f5_4) ⟨by omega, by omega⟩ (f6_4) ⟨by omega, by omega⟩ (f7_4) ⟨by omega, by omega⟩ (by first | assumption | omega) (by first | assumption | omega) (by first | assumption | omega) (by first | assumption | omega) (by first | assumption | omega) (by omega)) (cwV 1 hts gv_X2_79 rfl rfl rfl hd_X2_readBoth ⟨Nat.le_trans (show 6 * n + 20 + 1 ≤ 6 * n + 22 by omega) hR1, Nat.le_trans (show 8 + (4 + 11) + (90 * n + 325) ≤ 90 * n + 350 by omega) hR2⟩) (tf_preV hk hW ha0 (ci := 2) rfl rfl ⟨hs3_4, hst02_4, hst00_4, hst01_4, hcTKS_4, hcTKP_4, hs4_4, hs5_4, hs6_4, hs7_4⟩) rfl rfl hl.1 rfl (lv_room (Nat.le_of_ble_eq_true rfl)) dX2_readTest_13 ⟨Nat.zero_le _, Nat.zero_le _⟩) hW (by decide) (fun zA HA locsA hW hFA hpA => ?_)
        have hs7 := tf_keepF hFA ha0 rfl rfl (by decide) hs3_4
        have hs8 := tf_keepF hFA ht0 rfl rfl (by decide) hst02_4
        have hs9 := tf_keepF hFA ht0 rfl rfl (by decide) hst00_4
        have hs10 := tf_keepF hFA ht0 rfl rfl (by decide) hst01_4
        have hs11 := tf_keepC hFA hso rfl (by decide) hcTKS_4
        have hs12 := tf_keepC hFA hpo rfl (by decide) hcTKP_4
        obtain ⟨hpA_0, hpA_1⟩ := hpA
        obtain ⟨k1_A, t1_A, lv1_A, fp1_A, hXA_0, hXA_1, hXA_2, hXA_3, hBA_0, hBA_1, hBA_2, hBA_3, hRA_0, hRA_1, hRA_2, hRA_3, hRA_4, hRA_5⟩ := hpA_1
        refine tf_if_ne (tgt := 21) hx hb ⟨by omega, by omega⟩ dX2_readTest_16 (by decide) (fun h13 => ?_) (fun h13 => ?_)
        · refine lv_aload_n hx hb dX2_readTest_21 rfl (lv_at hl 0 rfl) ?_
          refine tf_get hx hb hts inlX2 hown hK (ci := 2) rfl hW ha0 rfl 5 rfl (by decide) (hts _ fl_X2_32) dX2_readTest_22 (fun v14 hv14 hsv14 => ?_)
          obtain rfl : v14 = .int (Int32.ofInt t1_A) := Option.some.inj (hsv14.symm.trans hXA_1)
          refine tf_iconst hx hb dX2_readTest_25 ?_
          refine tf_icmp_eq (tgt := 32) hx hb ⟨by omega, by omega⟩ ⟨by decide, by decide⟩ dX2_readTest_26 (by decide) (fun h15 => ?_) (fun h15 => ?_)
          · refine lv_aload_n hx hb dX2_readTest_32 rfl (lv_at hl 0 rfl) ?_
            refine tf_callv (va_runV (As := []) (rest := []) ⟨hx, hb, hml, hown, hts⟩ (c_X2_next l g T a0 ha0 t0 ht0 so hso (mm) ⟨by omega, by omega⟩ ss (k1_A) ⟨by omega, by omega⟩ (by first | assumption | omega) (by first | assumption | omega)) (cwV 0 hts gv_X2_73 rfl rfl rfl hd_X2_next ⟨Nat.le_trans (show 1 + 1 ≤ 6 * n + 22 by omega) hR1, Nat.le_trans (show 8 + (1 + 11) + (40) ≤ 90 * n + 350 by omega) hR2⟩) (tf_preV hk hW ha0 (ci := 2) rfl rfl ⟨hs7, hs8, hs9, hs11, hXA_0⟩) rfl rfl hl.1 rfl (lv_room (Nat.le_of_ble_eq_true rfl)) dX2_readTest_33 ⟨Nat.zero_le _, Nat.zero_le _⟩) hW (by decide) (fun HN locsN hW hFN hpN => ?_)
            have hs16 := tf_keepF hFN ha0 rfl rfl (by decide) hs7
            have hs17 := tf_keepF hFN ht0 rfl rfl (by decide) hs8
            have hs18 := tf_keepF hFN ht0 rfl rfl (by decide) hs9
            have hs19 := tf_keepF hFN ht0 rfl rfl (by decide) hs10
            have hs20 := tf_keepC hFN hso rfl (by decide) hs11
            have hs21 := tf_keepC hFN hpo rfl (by decide) hs12
            have hs22 := tf_keepF hFN ha0 rfl rfl (by decide) hXA_2
            have hs23 := tf_keepF hFN ha0 rfl rfl (by decide) hXA_3
            obtain ⟨k1_N, t1_N, hXN_0, hXN_1, hBN_0, hBN_1, hRN_0, hRN_1, hRN_2, hRN_3⟩ := hpN
            refine lv_aload_n hx hb dX2_readTest_36 rfl (lv_at hl 0 rfl) ?_
            refine tf_bipush hx hb dX2_readTest_37 (by decide) ?_
            refine lv_iload_n hx hb dX2_readTest_39 rfl (lv_at hl 2 rfl) ?_
            refine tf_calli (va_runV (As := [.int (Int32.ofInt 11), .int (Int32.ofInt x2_4)]) (rest := []) ⟨hx, hb, hml, hown, hts⟩ (c_X2_addJump l g T a0 ha0 (11) ⟨by omega, by omega⟩ (x2_4) ⟨by omega, by omega⟩) (cwV 2 hts gv_X2_82 rfl rfl rfl hd_X2_addJump ⟨Nat.le_trans (show 2 + 1 ≤ 6 * n + 22 by omega) hR1, Nat.le_trans (show 8 + (3 + 11) + (46) ≤ 90 * n + 350 by omega) hR2⟩) (tf_preV hk hW ha0 (ci := 2) rfl rfl trivial) rfl rfl hl.1 rfl (lv_room (Nat.le_of_ble_eq_true rfl)) dX2_readTest_40 ⟨Nat.zero_le _, Nat.zero_le _⟩) hW (by decide) (fun z24 H24 locs24 hW hF24 hp24 => ?_)
            have hs25 := tf_keepF hF24 ha0 rfl rfl (by decide) hs16
            have hs26 := tf_keepF hF24 ht0 rfl rfl (by decide) hs17
            have hs27 := tf_keepF hF24 ht0 rfl rfl (by decide) hs18
            have hs28 := tf_keepF hF24 ht0 rfl rfl (by decide) hs19
            have hs29 := tf_keepC hF24 hso rfl (by decide) hs20
            have hs30 := tf_keepC hF24 hpo rfl (by decide) hs21
            have hs31 := tf_keepF hF24 ha0 rfl rfl (by decide) hs22
            have hs32 := tf_keepF hF24 ha0 rfl rfl (by decide) hs23
            have hs33 := tf_keepF hF24 ha0 rfl rfl (by decide) hXN_0
            have hs34 := tf_keepF hF24 ha0 rfl rfl (by decide) hXN_1
            obtain ⟨hp24_0, hp24_1⟩ := hp24
            refine lv_istore_n (lv' := [(2, .int (Int32.ofInt z24)), (0, .ref a0), (1, .int (Int32.ofInt x1)), (3, .int (Int32.ofInt x3_4))]) hx hb dX2_readTest_43 rfl hl (by decide) rfl (fun ls hl => ?_)
            refine lv_iinc (v := Int32.ofInt ((x3_4 + 1))) (lv' := [(3, .int (Int32.ofInt ((x3_4 + 1)))), (2, .int (Int32.ofInt z24)), (0, .ref a0), (1, .int (Int32.ofInt x1))]) hx hb dX2_readTest_44 hl (k := 3) rfl (Int32.ofInt_add _ _).symm (by decide) rfl (fun ls hl => ?_)
            refine lv_goto (tgt := 4) hx hb dX2_readTest_47 (by decide) ?_
            exact ih_4 ⟨by omega, by omega⟩ (z24) ⟨by omega, by omega⟩ ((x3_4 + 1)) ⟨by omega, by omega⟩ (k1_N) ⟨by omega, by omega⟩ (t1_N) ⟨by omega, by omega⟩ (lv1_A) ⟨by omega, by omega⟩ (fp1_A) ⟨by omega, by omega⟩ (by first | assumption | omega) (by first | assumption | omega) (by first | assumption | omega) (by first | assumption | omega) (by first | exact tf_Re_rf | exact hi4_4.trans ((tf_RD_yes hRA_3 (by omega)).trans (tf_Re_1 (tf_t_and (by omega) hRN_0)))) (by first | assumption | omega) (by omega) _ _ hW hs25 hs26 hs27 hs28 hs29 hs30 hs33 hs34 hs31 hs32 _ (lv_sub hl [2, 3, 1, 0] rfl)
          · refine lv_goto (tgt := 50) hx hb dX2_readTest_29 (by decide) ?_
            exact j_50 (x2_4) ⟨by omega, by omega⟩ (k1_A) ⟨by omega, by omega⟩ (t1_A) ⟨by omega, by omega⟩ (lv1_A) ⟨by omega, by omega⟩ (fp1_A) ⟨by omega, by omega⟩ (by first | assumption | omega) (by first | assumption | omega) (by first | assumption | omega) (by first | exact hi4_4.trans (tf_RD_yes hRA_3 (by omega))) (by first | assumption | omega) (by first | assumption | omega) _ _ hW hXA_0 hXA_1 hXA_2 hXA_3 _ (lv_sub hl [0, 2] rfl)
        · refine tf_iconst hx hb dX2_readTest_19 ?_
          exact tf_retz (z := 0) hx hb hr hlocks hQ hW (by omega) ⟨by omega, ⟨(k1_A), (t1_A), (lv1_A), (fp1_A), hXA_0, hXA_1, hXA_2, hXA_3, ⟨by omega, by omega⟩, ⟨by omega, by omega⟩, ⟨by omega, by omega⟩, ⟨by omega, by omega⟩, (by first | assumption | omega), (by first | assumption | omega), (by first | assumption | omega), (tf_RD_re hi4_4 (tf_RD_bad hRA_3 (by omega) (by omega))), (by first | assumption | omega), (by first | assumption | omega)⟩⟩ dX2_readTest_20
  refine tf_enter (As := [.ref a0, .int (Int32.ofInt x1)]) hargs (Nat.le_of_ble_eq_true rfl) (fun ls hl => ?_)
  have hl : lv_has ls 4 [(0, .ref a0), (1, .int (Int32.ofInt x1))] := hl
  refine tf_iconst hx hb dX2_readTest_0 ?_
  refine lv_istore_n (lv' := [(2, .int (Int32.ofInt ((-1)))), (0, .ref a0), (1, .int (Int32.ofInt x1))]) hx hb dX2_readTest_1 rfl hl (by decide) rfl (fun ls hl => ?_)
  refine tf_iconst hx hb dX2_readTest_2 ?_
  refine lv_istore_n (lv' := [(3, .int (Int32.ofInt 0)), (2, .int (Int32.ofInt ((-1)))), (0, .ref a0), (1, .int (Int32.ofInt x1))]) hx hb dX2_readTest_3 rfl hl (by decide) rfl (fun ls hl => ?_)
  exact j_4 ((400 - 0 + 1 : Int)).toNat ⟨by omega, by omega⟩ ((-1)) ⟨by omega, by omega⟩ (0) ⟨by omega, by omega⟩ (k0) ⟨by omega, by omega⟩ (tk) ⟨by omega, by omega⟩ (lv) ⟨by omega, by omega⟩ (fp0) ⟨by omega, by omega⟩ (by first | assumption | omega) (by first | assumption | omega) (by first | assumption | omega) (by first | assumption | omega) (by first | exact tf_Re_rf | exact hi4_4.trans ((tf_RD_yes hRA_3 (by omega)).trans (tf_Re_1 (tf_t_and (by omega) hRN_0)))) (by first | assumption | omega) (by omega) _ _ hW he0 he1 he2 he3 he4 he5 he6 he7 he8 he9 _ (lv_sub hl [2, 3, 1, 0] rfl)

theorem all_X2_readSum (l : Launch) (g : tf_G) (T : tf_T) : ∀ n, K_X2_readSum l g T n
  | 0 => c_X2_readSum l g T 0 (c_X2_readTerm l g T 0 (c_X2_readPart l g T 0 (fun n1 h => absurd h (by omega))))
  | n + 1 => c_X2_readSum l g T (n + 1) (c_X2_readTerm l g T (n + 1) (c_X2_readPart l g T (n + 1) (fun n1 h => by
      obtain rfl : n = n1 := by omega
      exact all_X2_readSum l g T n)))
theorem all_X2_readTest (l : Launch) (g : tf_G) (T : tf_T) : ∀ n, K_X2_readTest l g T n
  | 0 => c_X2_readTest l g T 0 (c_X2_readBoth l g T 0 (c_X2_readPlain l g T 0 (fun n1 h => absurd h (by omega)) (c_X2_readComparison l g T 0 (all_X2_readSum l g T 0))))
  | n + 1 => c_X2_readTest l g T (n + 1) (c_X2_readBoth l g T (n + 1) (c_X2_readPlain l g T (n + 1) (fun n1 h => by
      obtain rfl : n = n1 := by omega
      exact all_X2_readTest l g T n) (c_X2_readComparison l g T (n + 1) (all_X2_readSum l g T (n + 1)))))

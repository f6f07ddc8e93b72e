theorem tf_ne {T : tf_T} {a b k n k2 n2 : Nat} (ha : T a = some (k, n)) (hb : T b = some (k2, n2)) (h : k ≠ k2) : a ≠ b := by
  rintro rfl
  rw [ha] at hb
  cases hb
  exact h rfl
theorem tf_keepQ {H H' : Heap} {a j : Nat} {v : Value} (h : tf_s H a j = some v) (hq : H'[a]? = H[a]?) : tf_s H' a j = some v := by
  unfold tf_s at h ⊢
  rw [hq]; exact h
theorem tf_keepF {kt : List tf_Kd} {g : tf_G} {M : List (Nat × Nat)} {T : tf_T} {H H' : Heap} {a k n ci j : Nat} {fts : List tf_F} {ro : Bool} {v : Value} (hF : tf_f kt g M T H H') (ha : T a = some (k, n)) (hk : kt[k]? = some (false, ci, fts, ro)) (hl : decide (j < fts.length) = true) (hM : (k, j) ∉ M) (h : tf_s H a (g.1.2 ci j) = some v) : tf_s H' a (g.1.2 ci j) = some v :=
  ((hF.2.2 a k n _ ha hk).2 rfl j (of_decide_eq_true hl) hM).trans h
theorem tf_narZ {z : Int} (h : z = 0 ∨ z = 1) : narrow .boolean (.int (Int32.ofInt z)) = .int (Int32.ofInt z) := by rcases h with rfl | rfl <;> decide
theorem tf_fitZ {z : Int} (h : z = 0 ∨ z = 1) : fits .boolean (.int (Int32.ofInt z)) = true := by rcases h with rfl | rfl <;> decide
theorem tf_storePairs : ∀ (xs : List Value) (i : Nat) (cd : Cell) (d : Nat), (cd.storePairs d (xs.zipIdx i)).cls = cd.cls ∧ (cd.storePairs d (xs.zipIdx i)).vm = cd.vm ∧ (cd.storePairs d (xs.zipIdx i)).slots.size = cd.slots.size ∧ ∀ k : Nat, (cd.storePairs d (xs.zipIdx i)).slots[k]? = cd.slots[k]? ∨ ∃ v ∈ xs, (cd.storePairs d (xs.zipIdx i)).slots[k]? = some v
  | [], i, cd, d => ⟨rfl, rfl, rfl, fun k => Or.inl rfl⟩
  | x :: xs, i, cd, d => by
    rw [List.zipIdx_cons]
    show ((cd.setSlot (d + i) x).storePairs d (xs.zipIdx (i + 1))).cls = cd.cls ∧ ((cd.setSlot (d + i) x).storePairs d (xs.zipIdx (i + 1))).vm = cd.vm ∧ ((cd.setSlot (d + i) x).storePairs d (xs.zipIdx (i + 1))).slots.size = cd.slots.size ∧ ∀ k : Nat, ((cd.setSlot (d + i) x).storePairs d (xs.zipIdx (i + 1))).slots[k]? = cd.slots[k]? ∨ ∃ v ∈ x :: xs, ((cd.setSlot (d + i) x).storePairs d (xs.zipIdx (i + 1))).slots[k]? = some v
    obtain ⟨h1, h2, h3, h4⟩ := tf_storePairs xs (i + 1) (cd.setSlot (d + i) x) d
    refine ⟨h1, h2, by rw [h3]; simp [Cell.setSlot], fun k => ?_⟩
    rcases h4 k with h | ⟨v, hv, h⟩
    · rw [h]
      by_cases e : d + i = k
      · subst e
        by_cases hl : d + i < cd.slots.size
        · exact Or.inr ⟨x, List.mem_cons_self, Cell.slots_setSlot_self x hl⟩
        · refine Or.inl ?_
          simp [Cell.setSlot, Array.getElem?_setIfInBounds, hl]
      · exact Or.inl (slot_ne _ _ e)
    · exact Or.inr ⟨v, List.mem_cons_of_mem _ hv, h⟩
section TFM
variable {p : Program} {l : Launch} {e : Env} {R : Room} {s : State} {m : MethodId} {args : Array Value} {below : List Frame} {meth : Method} {c : Code} {H : Heap} {locs : List Loc} {cells slots : Nat} {Q : State → Prop}
variable {cc : ByteArray} {pc : Nat} {ls : Array Slot} {rest : List Value} {g : tf_G} {M : List (Nat × Nat)} {T : tf_T}
theorem tf_name {x : Int} (k : ∀ y : Int, y = x → W p l e R s m args below meth c H locs cells slots Q (F0 m pc ls (.int (Int32.ofInt y) :: rest))) : W p l e R s m args below meth c H locs cells slots Q (F0 m pc ls (.int (Int32.ofInt x) :: rest)) := k x rfl
theorem tf_idiv_pos (hexec : p.tables.exec = Jvm.exec) (hb : c.code = cc) {a b : Int} (ha : tf_r a) (h0 : 0 ≤ a) (hb2 : tf_r b) (h1 : 0 < b) (hdg : decode cc pc = .ok (.idiv, 1)) (k : ∀ z : Int, 0 ≤ z ∧ z ≤ a → W p l e R s m args below meth c H locs cells slots Q (F0 m (pc + 1) ls (.int (Int32.ofInt z) :: rest))) : W p l e R s m args below meth c H locs cells slots Q (F0 m pc ls (.int (Int32.ofInt b) :: .int (Int32.ofInt a) :: rest)) :=
  tf_idiv hexec hb ha h0 hb2 h1 hdg (k _ ⟨Int.ediv_nonneg h0 (Int.le_of_lt h1), Int.ediv_le_self b h0⟩)
theorem tf_irem_pos (hexec : p.tables.exec = Jvm.exec) (hb : c.code = cc) {a b : Int} (ha : tf_r a) (h0 : 0 ≤ a) (hb2 : tf_r b) (h1 : 0 < b) (hdg : decode cc pc = .ok (.irem, 1)) (k : ∀ z : Int, 0 ≤ z ∧ z < b → W p l e R s m args below meth c H locs cells slots Q (F0 m (pc + 1) ls (.int (Int32.ofInt z) :: rest))) : W p l e R s m args below meth c H locs cells slots Q (F0 m pc ls (.int (Int32.ofInt b) :: .int (Int32.ofInt a) :: rest)) :=
  tf_irem hexec hb ha h0 hb2 h1 hdg (k _ ⟨Int.emod_nonneg a (by omega), Int.emod_lt_of_pos a h1⟩)
theorem tf_l2i_any (hexec : p.tables.exec = Jvm.exec) (hb : c.code = cc) {x : Int64} (hdg : decode cc pc = .ok (.l2i, 1)) (k : ∀ z : Int, tf_r z → W p l e R s m args below meth c H locs cells slots Q (F0 m (pc + 1) ls (.int (Int32.ofInt z) :: rest))) : W p l e R s m args below meth c H locs cells slots Q (F0 m pc ls (.long x :: rest)) := by
  refine lv_l2i hexec hb hdg rfl ?_
  refine lv_topi (fun y _ => ?_)
  obtain ⟨z, rfl, hz⟩ := tf_any y
  exact k z hz
theorem tf_lushr_k (hexec : p.tables.exec = Jvm.exec) (hb : c.code = cc) {x : Int64} {y : Int} (kk : Nat) (hk : 0 < kk ∧ kk < 64) (hy : ((Int32.ofInt y).toInt64.toUInt64 &&& Int64.toUInt64 63).toNat = kk) (h64 : 2 ^ (64 - kk) ≤ 9223372036854775808) (hdg : decode cc pc = .ok (.lushr, 1)) (k : ∀ z : Int, 0 ≤ z → z < 2 ^ (64 - kk) → W p l e R s m args below meth c H locs cells slots Q (F0 m (pc + 1) ls (.long (Int64.ofInt z) :: rest))) : W p l e R s m args below meth c H locs cells slots Q (F0 m pc ls (.int (Int32.ofInt y) :: .long x :: rest)) := by
  refine lv_lushr hexec hb hdg rfl ?_
  refine lv_topl (fun w hw => ?_)
  obtain ⟨z, rfl, hz⟩ := tf_anyL w
  have hn : (x.toUInt64 >>> ((Int32.ofInt y).toInt64.toUInt64 &&& Int64.toUInt64 63)).toNat < 2 ^ (64 - kk) := by
    rw [UInt64.toNat_shiftRight, hy, Nat.mod_eq_of_lt hk.2, Nat.shiftRight_eq_div_pow]
    apply Nat.div_lt_of_lt_mul
    rw [← Nat.pow_add]
    have := x.toUInt64.toNat_lt
    have e : kk + (64 - kk) = 64 := by omega
    rw [e]; exact this
  have h1 : (Int64.ofInt z).toInt = z := tf_tl hz
  rw [hw] at h1
  have h2 : (x.toUInt64 >>> ((Int32.ofInt y).toInt64.toUInt64 &&& Int64.toUInt64 63)).toInt64.toInt = ((x.toUInt64 >>> ((Int32.ofInt y).toInt64.toUInt64 &&& Int64.toUInt64 63)).toNat : Int) := by
    show (x.toUInt64 >>> ((Int32.ofInt y).toInt64.toUInt64 &&& Int64.toUInt64 63)).toBitVec.toInt = ((x.toUInt64 >>> ((Int32.ofInt y).toInt64.toUInt64 &&& Int64.toUInt64 63)).toBitVec.toNat : Int)
    exact BitVec.toInt_eq_toNat_of_lt (by show 2 * (x.toUInt64 >>> ((Int32.ofInt y).toInt64.toUInt64 &&& Int64.toUInt64 63)).toNat < 2 ^ 64; omega)
  rw [h2] at h1
  exact k z (by omega) (by rw [← h1]; exact_mod_cast hn)
theorem tf_lcmp (hexec : p.tables.exec = Jvm.exec) (hb : c.code = cc) {a b : Int} (ha : tf_rL a) (hb2 : tf_rL b) (hdg : decode cc pc = .ok (.lcmp, 1)) (k : ∀ z : Int, (a < b ∧ z = -1) ∨ (a = b ∧ z = 0) ∨ (b < a ∧ z = 1) → W p l e R s m args below meth c H locs cells slots Q (F0 m (pc + 1) ls (.int (Int32.ofInt z) :: rest))) : W p l e R s m args below meth c H locs cells slots Q (F0 m pc ls (.long (Int64.ofInt b) :: .long (Int64.ofInt a) :: rest)) := by
  refine W.lcmp hexec hb hdg ?_
  have h1 : (Int64.ofInt b < Int64.ofInt a) ↔ b < a := by rw [Int64.lt_iff_toInt_lt, tf_tl ha, tf_tl hb2]
  have h2 : (Int64.ofInt a = Int64.ofInt b) ↔ a = b := by rw [← Int64.toInt_inj, tf_tl ha, tf_tl hb2]
  unfold lg_cmp
  simp only [gt_iff_lt, h1, h2]
  by_cases c1 : b < a
  · rw [if_pos c1]
    exact k 1 (Or.inr (Or.inr ⟨c1, rfl⟩))
  · rw [if_neg c1]
    by_cases c2 : a = b
    · rw [if_pos c2]
      exact k 0 (Or.inr (Or.inl ⟨c2, rfl⟩))
    · rw [if_neg c2]
      exact k (-1) (Or.inl ⟨by omega, rfl⟩)
theorem tf_tableIn (hexec : p.tables.exec = Jvm.exec) (hb : c.code = cc) {dflt lo hi : Int} {offs : Array Int} {len : Nat} {x v off : Int} {tgt : Nat} (hdg : decode cc pc = .ok (.tableswitch dflt lo hi offs, len)) (hx : x = v) (hr : tf_r v) (h1 : ¬ v < lo) (h2 : ¬ hi < v) (ho : offs[(v - lo).toNat]? = some off) (ht : (pc : Int) + off = (tgt : Int)) (k : W p l e R s m args below meth c H locs cells slots Q (F0 m tgt ls rest)) : W p l e R s m args below meth c H locs cells slots Q (F0 m pc ls (.int (Int32.ofInt x) :: rest)) := by
  subst hx
  exact lv_tableIn hexec hb hdg (by rw [tf_ti hr]; exact h1) (by rw [tf_ti hr]; exact h2) (by rw [tf_ti hr]; exact ho) ht k
theorem tf_tableOut (hexec : p.tables.exec = Jvm.exec) (hb : c.code = cc) {dflt lo hi : Int} {offs : Array Int} {len : Nat} {x : Int} {tgt : Nat} (hdg : decode cc pc = .ok (.tableswitch dflt lo hi offs, len)) (hr : tf_r x) (h : x < lo ∨ hi < x) (ht : (pc : Int) + dflt = (tgt : Int)) (k : W p l e R s m args below meth c H locs cells slots Q (F0 m tgt ls rest)) : W p l e R s m args below meth c H locs cells slots Q (F0 m pc ls (.int (Int32.ofInt x) :: rest)) :=
  lv_tableOut hexec hb hdg (by rw [tf_ti hr]; exact h) ht k
theorem tf_S (hW : tf_n tf_kt g M T s.heap T H locs) : va_S (fun q => tf_B g ≤ q) s.heap H locs := ⟨hW.2.2.1.1, fun q h1 h2 => hW.2.2.1.2.1 q h1 (Or.inl (Nat.not_le.mp h2)), hW.2.2.2.1⟩
theorem tf_gets (hexec : p.tables.exec = Jvm.exec) (hb : c.code = cc) {C n d own host : String} {index z : Nat} (hown : s.vm.findClass own = some m.cls) (hl : va_Nw (.fieldLinkNest own index C n d host) s) (hZ : va_Z C n d (.ref (g.2.2.2 z)) (fun q => tf_B g ≤ q) s s.heap) (hW : tf_n tf_kt g M T s.heap T H locs) (hdg : decode cc pc = .ok (.getstatic index, 3))
    (k : W p l e R s m args below meth c H locs cells slots Q (F0 m (pc + 3) ls (.ref (g.2.2.2 z) :: rest))) : W p l e R s m args below meth c H locs cells slots Q (F0 m pc ls rest) :=
  va_getsN hexec hb hZ (tf_S hW) hown (va_Nw.use rfl hl) (fun _ h => h) hdg k
theorem tf_mmax {nL : Nat} {lv : List (Nat × Value)} (hexec : p.tables.exec = Jvm.exec) (hb : c.code = cc) (hml : c.maxLocals = nL) (hl : lv_has ls nL lv) {own : String} {index : Nat} (hown : s.vm.findClass own = some m.cls) (hlink : (Cond.methodLink own index Lib.Math.max.name).before args s = true) (hstat : (Cond.static Lib.Math.max.name).before args s = true) (hini : (Cond.initialized "java/lang/Math").before args s = true) (hcode : (Cond.code Lib.Math.max.name Lib.Math.max.code 2 (some .int)).before args s = true) {a b : Int} (ha : tf_r a) (hb2 : tf_r b)
    (hrest : (rest.map fun v => v.category).sum ≤ 8) (hR1 : 1 ≤ R.frames) (hR2 : 21 ≤ R.locals) (hcl : cells ≤ R.cells) (hsl : slots ≤ R.slots) (hdg : decode cc pc = .ok (.invokestatic index, 3)) (k : ∀ z : Int, (z = a ∧ b ≤ a) ∨ (z = b ∧ a ≤ b) → W p l e R s m args below meth c H locs cells slots Q (F0 m (pc + 3) ls (.int (Int32.ofInt z) :: rest))) : W p l e R s m args below meth c H locs cells slots Q (F0 m pc ls (.int (Int32.ofInt b) :: .int (Int32.ofInt a) :: rest)) := by
  refine va_mmax hexec hb (hml.trans hl.1.symm) hown hlink hstat hini hcode hR1 (by omega) hcl hsl hdg ?_
  by_cases h : a < b
  · rw [if_pos ((tf_lt ha hb2).mpr h)]; exact k b (Or.inr ⟨rfl, by omega⟩)
  · rw [if_neg (fun q => h ((tf_lt ha hb2).mp q))]; exact k a (Or.inl ⟨rfl, by omega⟩)
theorem tf_mmin {nL : Nat} {lv : List (Nat × Value)} (hexec : p.tables.exec = Jvm.exec) (hb : c.code = cc) (hml : c.maxLocals = nL) (hl : lv_has ls nL lv) {own : String} {index : Nat} (hown : s.vm.findClass own = some m.cls) (hlink : (Cond.methodLink own index Lib.Math.min.name).before args s = true) (hstat : (Cond.static Lib.Math.min.name).before args s = true) (hini : (Cond.initialized "java/lang/Math").before args s = true) (hcode : (Cond.code Lib.Math.min.name Lib.Math.min.code 2 (some .int)).before args s = true) {a b : Int} (ha : tf_r a) (hb2 : tf_r b)
    (hrest : (rest.map fun v => v.category).sum ≤ 8) (hR1 : 1 ≤ R.frames) (hR2 : 21 ≤ R.locals) (hcl : cells ≤ R.cells) (hsl : slots ≤ R.slots) (hdg : decode cc pc = .ok (.invokestatic index, 3)) (k : ∀ z : Int, (z = a ∧ a ≤ b) ∨ (z = b ∧ b ≤ a) → W p l e R s m args below meth c H locs cells slots Q (F0 m (pc + 3) ls (.int (Int32.ofInt z) :: rest))) : W p l e R s m args below meth c H locs cells slots Q (F0 m pc ls (.int (Int32.ofInt b) :: .int (Int32.ofInt a) :: rest)) := by
  refine va_mmin hexec hb (hml.trans hl.1.symm) hown hlink hstat hini hcode hR1 (by omega) hcl hsl hdg ?_
  first
    | (by_cases h : b < a
       · rw [if_pos ((tf_lt hb2 ha).mpr h)]; exact k b (Or.inr ⟨rfl, by omega⟩)
       · rw [if_neg (fun q => h ((tf_lt hb2 ha).mp q))]; exact k a (Or.inl ⟨rfl, by omega⟩))
    | (by_cases h : a < b
       · rw [if_pos ((tf_lt ha hb2).mpr h)]; exact k a (Or.inl ⟨rfl, by omega⟩)
       · rw [if_neg (fun q => h ((tf_lt ha hb2).mp q))]; exact k b (Or.inr ⟨rfl, by omega⟩))
    | (by_cases h : a ≤ b
       · rw [if_pos ((tf_le ha hb2).mpr h)]; exact k a (Or.inl ⟨rfl, by omega⟩)
       · rw [if_neg (fun q => h ((tf_le ha hb2).mp q))]; exact k b (Or.inr ⟨rfl, by omega⟩))
theorem tf_mabs {nL : Nat} {lv : List (Nat × Value)} (hexec : p.tables.exec = Jvm.exec) (hb : c.code = cc) (hml : c.maxLocals = nL) (hl : lv_has ls nL lv) {own : String} {index : Nat} (hown : s.vm.findClass own = some m.cls) (hlink : (Cond.methodLink own index Lib.Math.abs.name).before args s = true) (hstat : (Cond.static Lib.Math.abs.name).before args s = true) (hini : (Cond.initialized "java/lang/Math").before args s = true) (hcode : (Cond.code Lib.Math.abs.name Lib.Math.abs.code 1 (some .int)).before args s = true) {a : Int}
    (hrest : (rest.map fun v => v.category).sum ≤ 8) (hR1 : 1 ≤ R.frames) (hR2 : 21 ≤ R.locals) (hcl : cells ≤ R.cells) (hsl : slots ≤ R.slots) (hdg : decode cc pc = .ok (.invokestatic index, 3)) (k : ∀ z : Int, tf_r z → W p l e R s m args below meth c H locs cells slots Q (F0 m (pc + 3) ls (.int (Int32.ofInt z) :: rest))) : W p l e R s m args below meth c H locs cells slots Q (F0 m pc ls (.int (Int32.ofInt a) :: rest)) := by
  refine va_mabs hexec hb (hml.trans hl.1.symm) hown hlink hstat hini hcode hR1 (by omega) hcl hsl hdg ?_
  refine lv_topi (fun y _ => ?_)
  obtain ⟨z, rfl, hz⟩ := tf_any y
  exact k z hz
theorem tf_aloadN (hexec : p.tables.exec = Jvm.exec) (hb : c.code = cc) {k : Fin 4} (hdg : decode cc pc = .ok (.aload_n k, 1)) (hl : ls[(k : Nat)]? = some (.val .null)) (kk : W p l e R s m args below meth c H locs cells slots Q (F0 m (pc + 1) ls (.null :: rest))) : W p l e R s m args below meth c H locs cells slots Q (F0 m pc ls rest) := by
  intro T hT X
  obtain ⟨t, a, b⟩ := kk T hT X
  refine ⟨t, ?_, b⟩
  jvm_step X.here [X.here.top, hexec, hb, hdg, hl]
  exact ⟨rfl, a⟩
end TFM

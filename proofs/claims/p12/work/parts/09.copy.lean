section TFA
variable {p : Program} {l : Launch} {e : Env} {R : Room} {s : State} {m : MethodId} {args : Array Value} {below : List Frame} {meth : Method} {c : Code} {H : Heap} {locs : List Loc} {cells slots : Nat} {Q : State → Prop}
variable {cc : ByteArray} {pc : Nat} {ls : Array Slot} {rest : List Value} {g : tf_G} {M : List (Nat × Nat)} {T0 T : tf_T} {H0 : Heap} {cl : List vw_C} {tys : List (ClassId × FieldType)}
theorem tf_acopy {nL : Nat} {lv : List (Nat × Value)} (hexec : p.tables.exec = Jvm.exec) (hb : c.code = cc) (hml : c.maxLocals = nL) (hl : lv_has ls nL lv) {own : String} {index : Nat} (hown : s.vm.findClass own = some m.cls) (hlink : (Cond.methodLink own index arraycopyName).before args s = true) (hnat : (Cond.native arraycopyName).before args s = true) (hstat : (Cond.static arraycopyName).before args s = true) (hini : (Cond.initialized "java/lang/System").before args s = true)
    (hK : va_K g.1 cl tys s) (hW : tf_n tf_kt g M T0 H0 T H locs) {a0 k0 n0 a k n1 ai t0 : Nat} (ha0 : T a0 = some (k0, n0)) (ha : T a = some (k, n1)) {lo hi : Int} {ro : Bool} (hk0 : tf_kt[k0]? = some (true, ai, [(0, 0, 0, lo, hi)], ro)) (hk : tf_kt[k]? = some (true, ai, [(0, 0, 0, lo, hi)], false)) (ht : tys[t0]? = some (g.2.1 ai, .int)) (hM : (k, 0) ∈ M)
    {sp dp n : Int} (h1 : 0 ≤ sp) (h2 : 0 ≤ dp) (h3 : 0 ≤ n) (h4 : sp + n ≤ n0) (h5 : dp + n ≤ n1) (hrest : (rest.map fun v => v.category).sum ≤ 8) (hR1 : 1 ≤ R.frames) (hR2 : 8 + (nativeFrameWords "java/lang/System" "arraycopy" 5 + 11) ≤ R.locals) (hdg : decode cc pc = .ok (.invokestatic index, 3))
    (kk : ∀ (H' : Heap) (locs' : List Loc), tf_n tf_kt g M T0 H0 T H' locs' → (∀ q, q ≠ a → H'[q]? = H[q]?) → W p l e R s m args below meth c H' locs' cells slots Q (F0 m (pc + 3) ls rest)) : W p l e R s m args below meth c H locs cells slots Q (F0 m pc ls (.int (Int32.ofInt n) :: .int (Int32.ofInt dp) :: .ref a :: .int (Int32.ofInt sp) :: .ref a0 :: rest)) := by
  obtain ⟨cs, q1, q2, q3, q4, q5, q6⟩ := tf_cellA hW ha0 hk0 hK ht
  obtain ⟨cd, r1, r2, r3, r4, r5, r6⟩ := tf_cellA hW ha hk hK ht
  obtain ⟨-, kk0, hk0', cm0, hkk0⟩ := q2
  obtain ⟨-, kk1, hk1', cm1, hkk1⟩ := r2
  have rs : tf_r sp := ⟨by omega, by omega⟩
  have rd : tf_r dp := ⟨by omega, by omega⟩
  have rn : tf_r n := ⟨by omega, by omega⟩
  have hc1 : (Int32.ofInt sp).toNatClampNeg = sp.toNat := tf_cl rs h1
  have hc2 : (Int32.ofInt dp).toNatClampNeg = dp.toNat := tf_cl rd h2
  have hc3 : (Int32.ofInt n).toNatClampNeg = n.toNat := tf_cl rn h3
  have nneg : ∀ z : Int, tf_r z → 0 ≤ z → ¬ Int32.ofInt z < 0 := fun z hr h => by rw [tf_0, tf_lt hr ⟨by omega, by omega⟩]; omega
  have hat : ∀ i, i < n.toNat → ∃ z : Int, cs.slots.getD (sp.toNat + i) .null = .int (Int32.ofInt z) := by
    intro i hi
    obtain ⟨v, hv, hok⟩ := q6 (sp.toNat + i) _ (by omega) rfl
    obtain ⟨z, rfl, -⟩ := tf_v0 hok
    exact ⟨z, by rw [Array.getD_eq_getD_getElem?, hv]; rfl⟩
  intro X hX St
  obtain ⟨vm', X', step⟩ := St.arraycopy hexec hown hlink hnat hstat hini (src := a0) (dst := a) (cs := cs) (cd := cd) (srcPos := Int32.ofInt sp) (destPos := Int32.ofInt dp) (n := Int32.ofInt n) (by rw [hX]; exact q1) (by rw [hX]; exact r1)
    (fun _ h => by rw [q3] at h; cases h) (fun _ h => by rw [r3] at h; cases h) (fun h => by rw [q3] at h; cases h) (fun h => by rw [r3] at h; cases h) hk0' hk1' hkk0 hkk1 (by simp [refKind]) (nneg sp rs h1) (nneg dp rd h2) (nneg n rn h3)
    (by rw [tf_ti rs, tf_ti rn, q4]; omega) (by rw [tf_ti rd, tf_ti rn, r4]; omega)
    (fun vm₁ _ i hi => by
      rw [hc3] at hi
      obtain ⟨z, hz⟩ := hat i hi
      rw [hc1, hz]
      exact ⟨rfl, trivial⟩)
    (g := F0 m pc ls (.int (Int32.ofInt n) :: .int (Int32.ofInt dp) :: .ref a :: .int (Int32.ofInt sp) :: .ref a0 :: rest)) rfl (by rw [hml]; exact hl.1) (rest := rest) rfl (by rw [hb]; exact hdg) hR1 (by show 2 * 0 + _ + _ ≤ _; omega)
  have hst : cs.stretch (Int32.ofInt sp).toNatClampNeg (Int32.ofInt n).toNatClampNeg = (List.range n.toNat).map (fun i => cs.slots.getD (sp.toNat + i) .null) := by
    rw [hc1, hc3]; rfl
  have hcp : copied cs cd (Int32.ofInt sp) (Int32.ofInt dp) (Int32.ofInt n) = cd.storePairs dp.toNat (((List.range n.toNat).map (fun i => cs.slots.getD (sp.toNat + i) .null)).zipIdx 0) := by
    show cd.storeRun (Int32.ofInt dp).toNatClampNeg (cs.stretch (Int32.ofInt sp).toNatClampNeg (Int32.ofInt n).toNatClampNeg) = _
    rw [hst, hc2]; rfl
  obtain ⟨e1, e2, e3, e4⟩ := tf_storePairs ((List.range n.toNat).map (fun i => cs.slots.getD (sp.toNat + i) .null)) 0 cd dp.toNat
  rw [← hcp] at e1 e2 e3 e4
  have hlt : a < H.size := (Array.getElem?_eq_some_iff.mp r1).1
  have hheap : ((X.setVm vm').setCell a (copied cs cd (Int32.ofInt sp) (Int32.ofInt dp) (Int32.ofInt n))).heap = H.setIfInBounds a (copied cs cd (Int32.ofInt sp) (Int32.ofInt dp) (Int32.ofInt n)) := by rw [← hX]; rfl
  have g1 : (H.setIfInBounds a (copied cs cd (Int32.ofInt sp) (Int32.ofInt dp) (Int32.ofInt n)))[a]? = some (copied cs cd (Int32.ofInt sp) (Int32.ofInt dp) (Int32.ofInt n)) := by simp [Array.getElem?_setIfInBounds, hlt]
  have g2 : ∀ q : Nat, q ≠ a → (H.setIfInBounds a (copied cs cd (Int32.ofInt sp) (Int32.ofInt dp) (Int32.ofInt n)))[q]? = H[q]? := fun q hq => by simp [Array.getElem?_setIfInBounds, Ne.symm hq]
  have hN := hW.arr (i := 0) ha hk hM r1 (by rw [e2]; exact r3) e1 e3 (fun j f hj hf => by
    rcases e4 j with h | ⟨v, hv, h⟩
    · rw [h]; exact r6 j f hj hf
    · refine ⟨v, h, ?_⟩
      obtain ⟨i, hi, rfl⟩ := List.mem_map.mp hv
      have hi' := List.mem_range.mp hi
      cases hf
      obtain ⟨v, hv2, hok⟩ := q6 (sp.toNat + i) _ (by omega) rfl
      rw [Array.getD_eq_getD_getElem?, hv2]
      obtain ⟨z, rfl, hz1, hz2⟩ := tf_v0 hok
      exact tf_u0 hz1 hz2) g1 (by simp) g2 (fun f2 hf => by cases hf; trivial)
  refine (kk _ _ ⟨hN.1, hN.2.1, hN.2.2.1, fun q hq => ?_, hN.2.2.2.2⟩ g2 _ hheap X').elim (fun t ht => ⟨t, step t ht.1, ht.2⟩)
  rcases List.mem_append.mp hq with h | h
  · exact hW.2.2.2.1 q h
  · obtain ⟨z, -, hz⟩ := List.mem_map.mp h
    rw [← hz]
    exact hW.1.2 a k n1 _ ha hk rfl
theorem tf_mulB {a b A B : Int} (h1 : 0 ≤ a) (h2 : a ≤ A) (h3 : -B ≤ b) (h4 : b ≤ B) : -(A * B) ≤ a * b ∧ a * b ≤ A * B := by
  have hA : 0 ≤ A := by omega
  have hB : 0 ≤ B := by omega
  have e1 : a * b ≤ a * B := Int.mul_le_mul_of_nonneg_left h4 h1
  have e2 : a * B ≤ A * B := Int.mul_le_mul_of_nonneg_right h2 hB
  have e3 : a * (-B) ≤ a * b := Int.mul_le_mul_of_nonneg_left h3 h1
  rw [Int.mul_neg] at e3
  omega
theorem tf_imul_b (hexec : p.tables.exec = Jvm.exec) (hb : c.code = cc) {a b : Int} (A B : Int) (h1 : 0 ≤ a) (h2 : a ≤ A) (h3 : -B ≤ b) (h4 : b ≤ B) (hdg : decode cc pc = .ok (.imul, 1)) (k : ∀ z : Int, -(A * B) ≤ z ∧ z ≤ A * B → W p l e R s m args below meth c H locs cells slots Q (F0 m (pc + 1) ls (.int (Int32.ofInt z) :: rest))) : W p l e R s m args below meth c H locs cells slots Q (F0 m pc ls (.int (Int32.ofInt b) :: .int (Int32.ofInt a) :: rest)) :=
  tf_imul hexec hb hdg (k _ (tf_mulB h1 h2 h3 h4))
end TFA
section TFB
variable {p : Program} {l : Launch} {e : Env} {R : Room} {s : State} {m : MethodId} {args : Array Value} {below : List Frame} {meth : Method} {c : Code} {H : Heap} {locs : List Loc} {cells slots : Nat} {Q : State → Prop}
variable {cc : ByteArray} {pc : Nat} {ls : Array Slot} {rest : List Value} {g : tf_G} {M : List (Nat × Nat)} {T0 T : tf_T} {H0 : Heap} {cl : List vw_C} {tys : List (ClassId × FieldType)}
theorem tf_aast (hexec : p.tables.exec = Jvm.exec) (hb : c.code = cc) (hK : va_K g.1 cl tys s) (hW : tf_n tf_kt g M T0 H0 T H locs) {a k n ai t0 b kb ci : Nat} {i : Int} (ha : T a = some (k, n)) (hk : tf_kt[k]? = some (true, ai, [(2, kb, 0, 0, 0)], false)) {C : String} {Tb : u_T} {N : Nat} (ht : tys[t0]? = some (g.2.1 ai, .object C)) (hbv : T b = some (kb, 0)) {fts : List tf_F} {ro : Bool} (hkb : tf_kt[kb]? = some (false, ci, fts, ro)) (hc : cl[ci]? = some (C, Tb, N)) (h0 : 0 ≤ i) (h1 : i < n) (hM : (k, 0) ∈ M) (hdg : decode cc pc = .ok (.aastore, 1))
    (kk : ∀ (H' : Heap) (locs' : List Loc), tf_n tf_kt g M T0 H0 T H' locs' → tf_s H' a i.toNat = some (.ref b) → (∀ j, j ≠ i.toNat → tf_s H' a j = tf_s H a j) → (∀ q, q ≠ a → H'[q]? = H[q]?) → W p l e R s m args below meth c H' locs' cells slots Q (F0 m (pc + 1) ls rest)) : W p l e R s m args below meth c H locs cells slots Q (F0 m pc ls (.ref b :: .int (Int32.ofInt i) :: .ref a :: rest)) := by
  obtain ⟨cell, q1, q2, q3, q4, q5, q6⟩ := tf_cellA hW ha hk hK ht
  have hcl : (Int32.ofInt i).toNatClampNeg = i.toNat := tf_cl ⟨by omega, by omega⟩ h0
  have hlt : i.toNat < cell.slots.size := by rw [q4]; omega
  have hin := tf_in q5 h0 h1
  obtain ⟨cellV, g1, qv, g2, g3, -, g5⟩ := hW.1.1 b kb 0 hbv
  cases hkb.symm.trans g2
  have hcls := (hK.1 ci _ hc).2
  obtain ⟨kA, comp, k1, k2, k3, -⟩ := (hK.2 t0 _ ht).2
  have hcomp : comp = g.1.1 ci := Option.some.inj (k3.symm.trans hcls.1)
  subst hcomp
  obtain ⟨kC, hkC, -⟩ := hcls.2
  obtain ⟨cell2, p1, pq, p2, -, p4, -⟩ := hW.1.1 a k n ha
  cases q1.symm.trans p1
  cases hk.symm.trans p2
  refine W.aast hexec hb q1 (fun q h => by rw [q3] at h; cases h) (fun h => by rw [q3] at h; cases h) (by rw [(p4 rfl).1]; exact k1) k2 rfl hkC ⟨fun h => hin (Or.inl h), by rw [hcl]; exact hlt⟩ g1 (fun q h => by rw [g3] at h; cases h) (by rw [(g5 rfl).1]; exact hkC) (by rw [(g5 rfl).1]; exact va_assign hcls) rfl rfl hdg fun H' e1 e2 e3 => ?_
  rw [hcl] at e1 ⊢
  refine kk H' _ (hW.arr (cell' := cell.setSlot i.toNat _) ha hk hM q1 q3 rfl (by simp [Cell.setSlot]) (fun j f2 hj hf => ?_) e1 e2 e3 (fun f2 hf => by cases hf; trivial)) ?_ (fun j hj => ?_) e3
  · by_cases e : j = i.toNat
    · subst e
      cases hf
      exact ⟨_, Cell.slots_setSlot_self _ hlt, tf_u2 hbv⟩
    · rw [slot_ne _ _ (fun z => e z.symm)]
      exact q6 j f2 hj hf
  · unfold tf_s
    rw [e1]
    exact Cell.slots_setSlot_self _ hlt
  · unfold tf_s
    rw [e1, q1]
    exact slot_ne _ _ (fun z => hj z.symm)
theorem tf_aastN (hexec : p.tables.exec = Jvm.exec) (hb : c.code = cc) (hK : va_K g.1 cl tys s) (hW : tf_n tf_kt g M T0 H0 T H locs) {a k n ai t0 kb : Nat} {i : Int} (ha : T a = some (k, n)) (hk : tf_kt[k]? = some (true, ai, [(2, kb, 0, 0, 0)], false)) {C : String} (ht : tys[t0]? = some (g.2.1 ai, .object C)) (h0 : 0 ≤ i) (h1 : i < n) (hM : (k, 0) ∈ M) (hdg : decode cc pc = .ok (.aastore, 1))
    (kk : ∀ (H' : Heap) (locs' : List Loc), tf_n tf_kt g M T0 H0 T H' locs' → tf_s H' a i.toNat = some .null → (∀ j, j ≠ i.toNat → tf_s H' a j = tf_s H a j) → (∀ q, q ≠ a → H'[q]? = H[q]?) → W p l e R s m args below meth c H' locs' cells slots Q (F0 m (pc + 1) ls rest)) : W p l e R s m args below meth c H locs cells slots Q (F0 m pc ls (.null :: .int (Int32.ofInt i) :: .ref a :: rest)) := by
  obtain ⟨cell, q1, q2, q3, q4, q5, q6⟩ := tf_cellA hW ha hk hK ht
  have hcl : (Int32.ofInt i).toNatClampNeg = i.toNat := tf_cl ⟨by omega, by omega⟩ h0
  have hlt : i.toNat < cell.slots.size := by rw [q4]; omega
  refine va_WaastN hexec hb q1 q2 (by rw [q3]; exact fun h => by cases h) (by rw [q4]; exact tf_in q5 h0 h1) rfl rfl hdg fun H' e1 e2 e3 => ?_
  rw [hcl] at e1 ⊢
  refine kk H' _ (hW.arr (cell' := cell.setSlot i.toNat _) ha hk hM q1 q3 rfl (by simp [Cell.setSlot]) (fun j f2 hj hf => ?_) e1 e2 e3 (fun f2 hf => by cases hf; trivial)) ?_ (fun j hj => ?_) e3
  · by_cases e : j = i.toNat
    · subst e
      cases hf
      exact ⟨_, Cell.slots_setSlot_self _ hlt, tf_u2n⟩
    · rw [slot_ne _ _ (fun z => e z.symm)]
      exact q6 j f2 hj hf
  · unfold tf_s
    rw [e1]
    exact Cell.slots_setSlot_self _ hlt
  · unfold tf_s
    rw [e1, q1]
    exact slot_ne _ _ (fun z => hj z.symm)
end TFB
section TFD
variable {p : Program} {l : Launch} {e : Env} {R : Room} {s : State} {m : MethodId} {args : Array Value} {below : List Frame} {meth : Method} {c : Code} {H : Heap} {locs : List Loc} {cells slots : Nat} {Q : State → Prop}
variable {cc : ByteArray} {pc : Nat} {ls : Array Slot} {rest : List Value}
theorem tf_ishr_k (hexec : p.tables.exec = Jvm.exec) (hb : c.code = cc) {x : Int32} {b : Int} (kk : Nat) (P : Int) (hk : kk ≤ 31) (hs : ((Int32.ofInt b &&& 31).toBitVec.smod 32).toNat = kk) (hP : P * 2 ^ kk = 2147483648) (hdg : decode cc pc = .ok (.ishr, 1)) (k : ∀ z : Int, -P ≤ z ∧ z < P → W p l e R s m args below meth c H locs cells slots Q (F0 m (pc + 1) ls (.int (Int32.ofInt z) :: rest))) : W p l e R s m args below meth c H locs cells slots Q (F0 m pc ls (.int (Int32.ofInt b) :: .int x :: rest)) := by
  refine lv_ishr hexec hb hdg ?_
  refine lv_topi (fun y hy => ?_)
  obtain ⟨z, rfl, hz⟩ := tf_any y
  have h1 : (Int32.ofInt z).toInt = x.toInt >>> kk := by
    rw [hy]; exact pk_shr x _ kk hs
  rw [tf_ti hz, Int.shiftRight_eq_div_pow] at h1
  have hx1 := Int32.le_toInt x
  have hx2 := Int32.toInt_lt x
  have h2 : (0 : Int) < ((2 ^ kk : Nat) : Int) := by exact_mod_cast Nat.pow_pos (by decide)
  refine k z ⟨?_, ?_⟩
  · rw [h1]
    apply (Int.le_ediv_iff_mul_le h2).mpr
    have e : P * ((2 ^ kk : Nat) : Int) = 2147483648 := by rw [← hP]; norm_cast
    rw [Int.neg_mul, e]; omega
  · rw [h1]
    apply (Int.ediv_lt_iff_lt_mul h2).mpr
    have e : P * ((2 ^ kk : Nat) : Int) = 2147483648 := by rw [← hP]; norm_cast
    rw [e]; omega
theorem tf_idiv_c (hexec : p.tables.exec = Jvm.exec) (hb : c.code = cc) {a b : Int} (ha : tf_r a) (hb2 : tf_r b) (h1 : 0 < b) (hdg : decode cc pc = .ok (.idiv, 1)) (k : ∀ z : Int, (0 ≤ a ∧ b * z ≤ a ∧ a < b * z + b) ∨ (a < 0 ∧ a ≤ b * z ∧ b * z < a + b ∧ z ≤ 0) → W p l e R s m args below meth c H locs cells slots Q (F0 m (pc + 1) ls (.int (Int32.ofInt z) :: rest))) : W p l e R s m args below meth c H locs cells slots Q (F0 m pc ls (.int (Int32.ofInt b) :: .int (Int32.ofInt a) :: rest)) := by
  refine lv_idiv hexec hb hdg (by rw [tf_0, tf_eq hb2 ⟨by omega, by omega⟩]; omega) ?_
  refine lv_topi (fun y hy => ?_)
  obtain ⟨z, rfl, hz⟩ := tf_any y
  have h2 : (Int32.ofInt z).toInt = a.tdiv b := by
    rw [hy, Int32.toInt_div_of_ne_right, tf_ti ha, tf_ti hb2]
    intro h
    have h2 := congrArg Int32.toInt h
    rw [tf_ti hb2] at h2
    have h3 : (-1 : Int32).toInt = -1 := by decide
    rw [h3] at h2
    omega
  rw [tf_ti hz] at h2
  have h3 := Int.mul_tdiv_add_tmod a b
  rw [← h2] at h3
  refine k z ?_
  rcases Int.lt_or_le a 0 with h | h
  · right
    have h4 := Int.lt_tmod_of_pos a h1
    have h5 := Int.tmod_nonneg b (show 0 ≤ -a by omega)
    rw [Int.neg_tmod] at h5
    have h6 := Int.tdiv_nonneg (show 0 ≤ -a by omega) (Int.le_of_lt h1)
    rw [Int.neg_tdiv] at h6
    exact ⟨h, by omega, by omega, by omega⟩
  · left
    have h4 := Int.tmod_lt_of_pos a h1
    have h5 := Int.tmod_nonneg b h
    exact ⟨h, by omega, by omega⟩
theorem tf_Nastore (hexec : p.tables.exec = Jvm.exec) (hb : c.code = cc) {i nL : Nat} {lv lv' : List (Nat × Value)} (hdg : decode cc pc = .ok (.astore i, 2)) (h : lv_has ls nL lv) (hn : i < nL) (hl : (i, Value.null) :: lv.filter (fun q => !(q.1 == i) && !(q.1 + 1 == i && q.2.category == 2)) = lv')
    (kk : ∀ ls' : Array Slot, lv_has ls' nL lv' → W p l e R s m args below meth c H locs cells slots Q (F0 m (pc + 2) ls' rest)) : W p l e R s m args below meth c H locs cells slots Q (F0 m pc ls (.null :: rest)) := by
  obtain ⟨ls', h1, h2⟩ := lv_store1 h hn (v := .null) rfl
  rw [hl] at h2
  intro T hT X
  obtain ⟨t, a, b⟩ := kk ls' h2 T hT X
  refine ⟨t, ?_, b⟩
  jvm_step X.here [X.here.top, hexec, hb, hdg, h1]
  exact ⟨rfl, a⟩
theorem tf_Nastore_n (hexec : p.tables.exec = Jvm.exec) (hb : c.code = cc) {k : Fin 4} {i nL : Nat} {lv lv' : List (Nat × Value)} (hdg : decode cc pc = .ok (.astore_n k, 1)) (hi : (k : Nat) = i) (h : lv_has ls nL lv) (hn : i < nL) (hl : (i, Value.null) :: lv.filter (fun q => !(q.1 == i) && !(q.1 + 1 == i && q.2.category == 2)) = lv')
    (kk : ∀ ls' : Array Slot, lv_has ls' nL lv' → W p l e R s m args below meth c H locs cells slots Q (F0 m (pc + 1) ls' rest)) : W p l e R s m args below meth c H locs cells slots Q (F0 m pc ls (.null :: rest)) := by
  subst hi
  obtain ⟨ls', h1, h2⟩ := lv_store1 h hn (v := .null) rfl
  rw [hl] at h2
  intro T hT X
  obtain ⟨t, a, b⟩ := kk ls' h2 T hT X
  refine ⟨t, ?_, b⟩
  jvm_step X.here [X.here.top, hexec, hb, hdg, h1]
  exact ⟨rfl, a⟩
end TFD
section TFL
variable {p : Program} {l : Launch} {e : Env} {R : Room} {s : State} {m : MethodId} {args : Array Value} {below : List Frame} {meth : Method} {c : Code} {H : Heap} {locs : List Loc} {cells slots : Nat} {Q : State → Prop}
variable {cc : ByteArray} {pc : Nat} {ls : Array Slot} {rest : List Value}
theorem tf_aloadN2 (hexec : p.tables.exec = Jvm.exec) (hb : c.code = cc) {i : Nat} (hdg : decode cc pc = .ok (.aload i, 2)) (hl : ls[i]? = some (.val .null)) (kk : W p l e R s m args below meth c H locs cells slots Q (F0 m (pc + 2) ls (.null :: rest))) : W p l e R s m args below meth c H locs cells slots Q (F0 m pc ls rest) := by
  intro T hT X
  obtain ⟨t, a, b⟩ := kk T hT X
  refine ⟨t, ?_, b⟩
  jvm_step X.here [X.here.top, hexec, hb, hdg, hl]
  exact ⟨rfl, a⟩
end TFL

section TFX
variable {p : Program} {l : Launch} {e : Env} {R : Room} {s : State} {m : MethodId} {args : Array Value} {below : List Frame} {meth : Method} {c : Code} {H : Heap} {locs : List Loc} {cells slots : Nat} {Q : State → Prop}
variable {cc : ByteArray} {pc : Nat} {ls : Array Slot} {rest : List Value}
theorem tf_ishl_e (hexec : p.tables.exec = Jvm.exec) (hb : c.code = cc) {x y : Int32} (hdg : decode cc pc = .ok (.ishl, 1)) (k : ∀ z : Int, Int32.ofInt z = x <<< (y &&& 31) → tf_r z → W p l e R s m args below meth c H locs cells slots Q (F0 m (pc + 1) ls (.int (Int32.ofInt z) :: rest))) : W p l e R s m args below meth c H locs cells slots Q (F0 m pc ls (.int y :: .int x :: rest)) := by
  refine lv_ishl hexec hb hdg ?_
  refine lv_topi (fun w hw => ?_)
  obtain ⟨z, rfl, hz⟩ := tf_any w
  exact k z hw hz
theorem tf_ishr_e (hexec : p.tables.exec = Jvm.exec) (hb : c.code = cc) {x y : Int32} (hdg : decode cc pc = .ok (.ishr, 1)) (k : ∀ z : Int, Int32.ofInt z = x >>> (y &&& 31) → tf_r z → W p l e R s m args below meth c H locs cells slots Q (F0 m (pc + 1) ls (.int (Int32.ofInt z) :: rest))) : W p l e R s m args below meth c H locs cells slots Q (F0 m pc ls (.int y :: .int x :: rest)) := by
  refine lv_ishr hexec hb hdg ?_
  refine lv_topi (fun w hw => ?_)
  obtain ⟨z, rfl, hz⟩ := tf_any w
  exact k z hw hz
theorem tf_iand_e (hexec : p.tables.exec = Jvm.exec) (hb : c.code = cc) {x y : Int32} (hdg : decode cc pc = .ok (.iand, 1)) (k : ∀ z : Int, Int32.ofInt z = x &&& y → tf_r z → W p l e R s m args below meth c H locs cells slots Q (F0 m (pc + 1) ls (.int (Int32.ofInt z) :: rest))) : W p l e R s m args below meth c H locs cells slots Q (F0 m pc ls (.int y :: .int x :: rest)) := by
  refine lv_iand hexec hb hdg ?_
  refine lv_topi (fun w hw => ?_)
  obtain ⟨z, rfl, hz⟩ := tf_any w
  exact k z hw hz
theorem tf_ior_e (hexec : p.tables.exec = Jvm.exec) (hb : c.code = cc) {x y : Int32} (hdg : decode cc pc = .ok (.ior, 1)) (k : ∀ z : Int, Int32.ofInt z = x ||| y → tf_r z → W p l e R s m args below meth c H locs cells slots Q (F0 m (pc + 1) ls (.int (Int32.ofInt z) :: rest))) : W p l e R s m args below meth c H locs cells slots Q (F0 m pc ls (.int y :: .int x :: rest)) := by
  refine lv_ior hexec hb hdg ?_
  refine lv_topi (fun w hw => ?_)
  obtain ⟨z, rfl, hz⟩ := tf_any w
  exact k z hw hz
theorem tf_iushr_e (hexec : p.tables.exec = Jvm.exec) (hb : c.code = cc) {x y : Int32} (hdg : decode cc pc = .ok (.iushr, 1)) (k : ∀ z : Int, Int32.ofInt z = (x.toUInt32 >>> (y.toUInt32 &&& Int32.toUInt32 31)).toInt32 → tf_r z → W p l e R s m args below meth c H locs cells slots Q (F0 m (pc + 1) ls (.int (Int32.ofInt z) :: rest))) : W p l e R s m args below meth c H locs cells slots Q (F0 m pc ls (.int y :: .int x :: rest)) := by
  refine lv_iushr hexec hb hdg rfl ?_
  refine lv_topi (fun w hw => ?_)
  obtain ⟨z, rfl, hz⟩ := tf_any w
  exact k z hw hz
theorem tf_iadd_e (hexec : p.tables.exec = Jvm.exec) (hb : c.code = cc) {x y : Int32} (hdg : decode cc pc = .ok (.iadd, 1)) (k : ∀ z : Int, Int32.ofInt z = x + y → tf_r z → W p l e R s m args below meth c H locs cells slots Q (F0 m (pc + 1) ls (.int (Int32.ofInt z) :: rest))) : W p l e R s m args below meth c H locs cells slots Q (F0 m pc ls (.int y :: .int x :: rest)) := by
  refine lv_iadd hexec hb hdg ?_
  refine lv_topi (fun w hw => ?_)
  obtain ⟨z, rfl, hz⟩ := tf_any w
  exact k z hw hz
theorem tf_isub_e (hexec : p.tables.exec = Jvm.exec) (hb : c.code = cc) {x y : Int32} (hdg : decode cc pc = .ok (.isub, 1)) (k : ∀ z : Int, Int32.ofInt z = x - y → tf_r z → W p l e R s m args below meth c H locs cells slots Q (F0 m (pc + 1) ls (.int (Int32.ofInt z) :: rest))) : W p l e R s m args below meth c H locs cells slots Q (F0 m pc ls (.int y :: .int x :: rest)) := by
  refine lv_isub hexec hb hdg ?_
  refine lv_topi (fun w hw => ?_)
  obtain ⟨z, rfl, hz⟩ := tf_any w
  exact k z hw hz
end TFX
def tf_us (x y : Int32) : Int32 := (x.toUInt32 >>> (y.toUInt32 &&& Int32.toUInt32 31)).toInt32
def tf_b1 (x : Int32) : Int32 := x - (tf_us x (Int32.ofInt 1) &&& Int32.ofInt 1431655765)
def tf_b2 (x : Int32) : Int32 := (tf_b1 x &&& Int32.ofInt 858993459) + (tf_us (tf_b1 x) (Int32.ofInt 2) &&& Int32.ofInt 858993459)
def tf_b3 (x : Int32) : Int32 := (tf_b2 x + tf_us (tf_b2 x) (Int32.ofInt 4)) &&& Int32.ofInt 252645135
def tf_b4 (x : Int32) : Int32 := tf_b3 x + tf_us (tf_b3 x) (Int32.ofInt 8)
def tf_b5 (x : Int32) : Int32 := tf_b4 x + tf_us (tf_b4 x) (Int32.ofInt 16)
def tf_bc (x : Int32) : Int32 := tf_b5 x &&& Int32.ofInt 63
theorem tf_bc_fin : ∀ (n : Fin 64) (m : Fin 7) (t : Fin 6), t.val < m.val → n.val < 2 ^ m.val → ((nI n.val >>> (nI t.val &&& 31)) &&& 1) = 0 → 0 ≤ (tf_bc (nI n.val)).toInt ∧ (tf_bc (nI n.val)).toInt ≤ (m.val : Int) - 1 := by decide +kernel
theorem tf_sh_fin : ∀ m : Fin 7, (1 : Int32) <<< (nI m.val &&& 31) = nI (2 ^ m.val) := by decide +kernel
theorem tf_or_fin : ∀ (n : Fin 64) (t : Fin 6), 0 ≤ (nI n.val ||| ((1 : Int32) <<< (nI t.val &&& 31))).toInt ∧ (nI n.val ||| ((1 : Int32) <<< (nI t.val &&& 31))).toInt ≤ 63 := by decide +kernel
theorem tf_nI {z : Int} (h : 0 ≤ z) : Int32.ofInt z = nI z.toNat := by
  have e : z = (z.toNat : Int) := by omega
  rw [e]; exact Int32.ofInt_eq_ofNat
theorem tf_sh1 {m z : Int} (h0 : 0 ≤ m) (h1 : m ≤ 6) (hz : tf_r z) (e : Int32.ofInt z = Int32.ofInt 1 <<< (Int32.ofInt m &&& 31)) : z = ((2 ^ m.toNat : Nat) : Int) ∧ 1 ≤ z ∧ z ≤ 64 := by
  have h2 := tf_sh_fin ⟨m.toNat, by omega⟩
  rw [tf_nI h0, show Int32.ofInt 1 = (1 : Int32) by decide, h2] at e
  have h3 : 2 ^ m.toNat ≤ 64 := by
    have : m.toNat ≤ 6 := by omega
    calc 2 ^ m.toNat ≤ 2 ^ 6 := Nat.pow_le_pow_right (by decide) this
      _ = 64 := by decide
  have h4 : 1 ≤ 2 ^ m.toNat := Nat.one_le_two_pow
  have h5 := congrArg Int32.toInt e
  rw [tf_ti hz] at h5
  have h6 : (nI (2 ^ m.toNat)).toInt = ((2 ^ m.toNat : Nat) : Int) := nI_toInt (by omega)
  rw [h6] at h5
  exact ⟨h5, by omega, by omega⟩
theorem tf_share1 {n m t z zr za zb : Int} (hm0 : 1 ≤ m) (hm1 : m ≤ 6) (ht0 : 0 ≤ t) (ht1 : t ≤ m - 1) (hn0 : 0 ≤ n) (hz : tf_r z) (ez : Int32.ofInt z = Int32.ofInt 1 <<< (Int32.ofInt m &&& 31)) (hn : n < z) (er : Int32.ofInt zr = Int32.ofInt n >>> (Int32.ofInt t &&& 31)) (ea : Int32.ofInt za = Int32.ofInt zr &&& Int32.ofInt 1) (h0 : za = 0) (eb : zb = (tf_bc (Int32.ofInt n)).toInt) : 0 ≤ zb ∧ zb ≤ m - 1 := by
  obtain ⟨h1, h2, h3⟩ := tf_sh1 (by omega) hm1 hz ez
  have h4 := tf_bc_fin ⟨n.toNat, by omega⟩ ⟨m.toNat, by omega⟩ ⟨t.toNat, by omega⟩ (by show t.toNat < m.toNat; omega) (by show n.toNat < 2 ^ m.toNat; omega) (by
    rw [← tf_nI hn0, ← tf_nI ht0, ← er, show (1 : Int32) = Int32.ofInt 1 by decide, ← ea, h0]; decide)
  rw [eb, tf_nI hn0]
  have e : ((m.toNat : Nat) : Int) = m := by omega
  have h5 := h4.2
  dsimp only at h5 h4
  rw [e] at h5
  exact ⟨h4.1, h5⟩
theorem tf_share2 {n t z zo : Int} (hn0 : 0 ≤ n) (hn1 : n ≤ 63) (ht0 : 0 ≤ t) (ht1 : t ≤ 5) (hz : tf_r zo) (e1 : Int32.ofInt z = Int32.ofInt 1 <<< (Int32.ofInt t &&& 31)) (e2 : Int32.ofInt zo = Int32.ofInt n ||| Int32.ofInt z) : 0 ≤ zo ∧ zo ≤ 63 := by
  have h := tf_or_fin ⟨n.toNat, by omega⟩ ⟨t.toNat, by omega⟩
  dsimp only at h
  rw [← tf_nI hn0, ← tf_nI ht0, show (1 : Int32) = Int32.ofInt 1 by decide, ← e1, ← e2, tf_ti hz] at h
  exact h

abbrev tf_r (z : Int) : Prop := -2147483648 ≤ z ∧ z ≤ 2147483647
abbrev tf_rL (z : Int) : Prop := -9223372036854775808 ≤ z ∧ z ≤ 9223372036854775807
theorem tf_ti {z : Int} (h : tf_r z) : (Int32.ofInt z).toInt = z := Int32.toInt_ofInt_of_le (by omega) (by omega)
theorem tf_tl {z : Int} (h : tf_rL z) : (Int64.ofInt z).toInt = z := Int64.toInt_ofInt_of_le (by omega) (by omega)
theorem tf_lt {a b : Int} (ha : tf_r a) (hb : tf_r b) : Int32.ofInt a < Int32.ofInt b ↔ a < b := by rw [Int32.lt_iff_toInt_lt, tf_ti ha, tf_ti hb]
theorem tf_le {a b : Int} (ha : tf_r a) (hb : tf_r b) : Int32.ofInt a ≤ Int32.ofInt b ↔ a ≤ b := by rw [Int32.le_iff_toInt_le, tf_ti ha, tf_ti hb]
theorem tf_eq {a b : Int} (ha : tf_r a) (hb : tf_r b) : Int32.ofInt a = Int32.ofInt b ↔ a = b := by rw [← Int32.toInt_inj, tf_ti ha, tf_ti hb]
theorem tf_0 : (0 : Int32) = Int32.ofInt 0 := by decide
theorem tf_any (x : Int32) : ∃ z : Int, x = Int32.ofInt z ∧ tf_r z := ⟨x.toInt, (Int32.ofInt_toInt x).symm, Int32.le_toInt x, by have := Int32.toInt_lt x; omega⟩
theorem tf_anyL (x : Int64) : ∃ z : Int, x = Int64.ofInt z ∧ tf_rL z := ⟨x.toInt, (Int64.ofInt_toInt x).symm, Int64.le_toInt x, by have := Int64.toInt_lt x; omega⟩
theorem tf_cl {z : Int} (h : tf_r z) (h0 : 0 ≤ z) : (Int32.ofInt z).toNatClampNeg = z.toNat := by
  rw [Int32.toNatClampNeg, tf_ti h]
theorem tf_in {z : Int} {n : Nat} (hn : n < 2147483648) (h0 : 0 ≤ z) (h1 : z < n) : ¬ (Int32.ofInt z < 0 ∨ n ≤ (Int32.ofInt z).toNatClampNeg) := by
  have hr : tf_r z := ⟨by omega, by omega⟩
  rw [tf_cl hr h0, tf_0, tf_lt hr ⟨by omega, by omega⟩]
  omega
theorem tf_tdiv {a b : Int} (h0 : 0 ≤ a) : a.tdiv b = a / b := Int.tdiv_eq_ediv_of_nonneg h0
theorem tf_tmod {a b : Int} (h0 : 0 ≤ a) : a.tmod b = a % b := Int.tmod_eq_emod_of_nonneg h0
theorem tf_rdiv {a b : Int} (ha : tf_r a) (h0 : 0 ≤ a) (h1 : 0 < b) : tf_r (a / b) := by
  have h2 := Int.ediv_nonneg h0 (Int.le_of_lt h1)
  have h3 := Int.ediv_le_self b h0
  exact ⟨by omega, by omega⟩
theorem tf_divE {a b : Int} (ha : tf_r a) (h0 : 0 ≤ a) (hb : tf_r b) (h1 : 0 < b) : Int32.ofInt a / Int32.ofInt b = Int32.ofInt (a / b) := by
  apply Int32.toInt_inj.mp
  rw [Int32.toInt_div_of_ne_right, tf_ti ha, tf_ti hb, tf_tdiv h0, tf_ti (tf_rdiv ha h0 h1)]
  intro h
  have h2 := congrArg Int32.toInt h
  rw [tf_ti hb] at h2
  have h3 : (-1 : Int32).toInt = -1 := by decide
  rw [h3] at h2
  omega
theorem tf_remE {a b : Int} (ha : tf_r a) (h0 : 0 ≤ a) (hb : tf_r b) (h1 : 0 < b) : Int32.ofInt a - Int32.ofInt a / Int32.ofInt b * Int32.ofInt b = Int32.ofInt (a % b) := by
  rw [tf_divE ha h0 hb h1, ← Int32.ofInt_mul, ← Int32.ofInt_sub]
  congr 1
  have h2 := Int.mul_ediv_add_emod a b
  rw [Int.mul_comm] at h2
  omega
theorem tf_i2lE {a : Int} (ha : tf_r a) : (Int32.ofInt a).toInt64 = Int64.ofInt a := by
  apply Int64.toInt_inj.mp
  rw [Int32.toInt_toInt64, tf_ti ha, tf_tl ⟨by omega, by omega⟩]
theorem tf_l2iE (a : Int) : (Int64.ofInt a).toInt32 = Int32.ofInt a := by
  first | exact Int64.toInt32_ofInt a | simp
section TFR
variable {p : Program} {l : Launch} {e : Env} {R : Room} {s : State} {m : MethodId} {args : Array Value} {below : List Frame} {meth : Method} {c : Code} {H : Heap} {locs : List Loc} {cells slots : Nat} {Q : State → Prop}
variable {cc : ByteArray} {pc : Nat} {ls : Array Slot} {rest : List Value}
theorem tf_iconst (hexec : p.tables.exec = Jvm.exec) (hb : c.code = cc) {n : Int} (hdg : decode cc pc = .ok (.iconst n, 1)) (k : W p l e R s m args below meth c H locs cells slots Q (F0 m (pc + 1) ls (.int (Int32.ofInt (n)) :: rest))) : W p l e R s m args below meth c H locs cells slots Q (F0 m pc ls (rest)) := lv_iconst hexec hb hdg rfl k
theorem tf_bipush (hexec : p.tables.exec = Jvm.exec) (hb : c.code = cc) {n : Int} (hdg : decode cc pc = .ok (.bipush n, 2)) (hn : (Int8.ofInt n).toInt32 = Int32.ofInt n) (k : W p l e R s m args below meth c H locs cells slots Q (F0 m (pc + 2) ls (.int (Int32.ofInt (n)) :: rest))) : W p l e R s m args below meth c H locs cells slots Q (F0 m pc ls (rest)) := lv_bipush hexec hb hdg hn k
theorem tf_sipush (hexec : p.tables.exec = Jvm.exec) (hb : c.code = cc) {n : Int} (hdg : decode cc pc = .ok (.sipush n, 3)) (hn : (Int16.ofInt n).toInt32 = Int32.ofInt n) (k : W p l e R s m args below meth c H locs cells slots Q (F0 m (pc + 3) ls (.int (Int32.ofInt (n)) :: rest))) : W p l e R s m args below meth c H locs cells slots Q (F0 m pc ls (rest)) := lv_sipush hexec hb hdg hn k
theorem tf_lconst (hexec : p.tables.exec = Jvm.exec) (hb : c.code = cc) {n : Fin 2} {z : Int} (hdg : decode cc pc = .ok (.lconst n, 1)) (hz : Int64.ofNat (n : Nat) = Int64.ofInt z) (k : W p l e R s m args below meth c H locs cells slots Q (F0 m (pc + 1) ls (.long (Int64.ofInt (z)) :: rest))) : W p l e R s m args below meth c H locs cells slots Q (F0 m pc ls (rest)) := lv_lconst hexec hb hdg hz k
theorem tf_ldc (hexec : p.tables.exec = Jvm.exec) (hb : c.code = cc) {own : String} {index : Nat} {v : Int32} {z : Int} (hown : s.vm.findClass own = some m.cls) (hconst : (Jvm.Cond.constant own index v).before args s = true) (hz : v = Int32.ofInt z) (hdg : decode cc pc = .ok (.ldc index, 2)) (k : W p l e R s m args below meth c H locs cells slots Q (F0 m (pc + 2) ls (.int (Int32.ofInt (z)) :: rest))) : W p l e R s m args below meth c H locs cells slots Q (F0 m pc ls (rest)) := lv_ldc hexec hb hown hconst hdg (by rw [hz]; exact k)
theorem tf_ldcw (hexec : p.tables.exec = Jvm.exec) (hb : c.code = cc) {own : String} {index : Nat} {v : Int32} {z : Int} (hown : s.vm.findClass own = some m.cls) (hconst : (Jvm.Cond.constant own index v).before args s = true) (hz : v = Int32.ofInt z) (hdg : decode cc pc = .ok (.ldc_w index, 3)) (k : W p l e R s m args below meth c H locs cells slots Q (F0 m (pc + 3) ls (.int (Int32.ofInt (z)) :: rest))) : W p l e R s m args below meth c H locs cells slots Q (F0 m pc ls (rest)) := lv_ldcw hexec hb hown hconst hdg (by rw [hz]; exact k)
theorem tf_ldc2 (hexec : p.tables.exec = Jvm.exec) (hb : c.code = cc) {own : String} {index : Nat} {v : Int64} {z : Int} (hown : s.vm.findClass own = some m.cls) (hconst : (Jvm.Cond.constantLong own index v).before args s = true) (hz : v = Int64.ofInt z) (hdg : decode cc pc = .ok (.ldc2_w index, 3)) (k : W p l e R s m args below meth c H locs cells slots Q (F0 m (pc + 3) ls (.long (Int64.ofInt (z)) :: rest))) : W p l e R s m args below meth c H locs cells slots Q (F0 m pc ls (rest)) := lv_ldc2 hexec hb hown hconst hdg (by rw [hz]; exact k)
theorem tf_iadd (hexec : p.tables.exec = Jvm.exec) (hb : c.code = cc) {a b : Int} (hdg : decode cc pc = .ok (.iadd, 1)) (k : W p l e R s m args below meth c H locs cells slots Q (F0 m (pc + 1) ls (.int (Int32.ofInt (a + b)) :: rest))) : W p l e R s m args below meth c H locs cells slots Q (F0 m pc ls (.int (Int32.ofInt (b)) :: .int (Int32.ofInt (a)) :: rest)) := lv_iadd hexec hb hdg (by rw [← Int32.ofInt_add]; exact k)
theorem tf_isub (hexec : p.tables.exec = Jvm.exec) (hb : c.code = cc) {a b : Int} (hdg : decode cc pc = .ok (.isub, 1)) (k : W p l e R s m args below meth c H locs cells slots Q (F0 m (pc + 1) ls (.int (Int32.ofInt (a - b)) :: rest))) : W p l e R s m args below meth c H locs cells slots Q (F0 m pc ls (.int (Int32.ofInt (b)) :: .int (Int32.ofInt (a)) :: rest)) := lv_isub hexec hb hdg (by rw [← Int32.ofInt_sub]; exact k)
theorem tf_imul (hexec : p.tables.exec = Jvm.exec) (hb : c.code = cc) {a b : Int} (hdg : decode cc pc = .ok (.imul, 1)) (k : W p l e R s m args below meth c H locs cells slots Q (F0 m (pc + 1) ls (.int (Int32.ofInt (a * b)) :: rest))) : W p l e R s m args below meth c H locs cells slots Q (F0 m pc ls (.int (Int32.ofInt (b)) :: .int (Int32.ofInt (a)) :: rest)) := lv_imul hexec hb hdg (by rw [← Int32.ofInt_mul]; exact k)
theorem tf_ineg (hexec : p.tables.exec = Jvm.exec) (hb : c.code = cc) {a : Int} (hdg : decode cc pc = .ok (.ineg, 1)) (k : W p l e R s m args below meth c H locs cells slots Q (F0 m (pc + 1) ls (.int (Int32.ofInt (-a)) :: rest))) : W p l e R s m args below meth c H locs cells slots Q (F0 m pc ls (.int (Int32.ofInt (a)) :: rest)) := lv_ineg hexec hb hdg (by rw [← Int32.ofInt_neg]; exact k)
theorem tf_ladd (hexec : p.tables.exec = Jvm.exec) (hb : c.code = cc) {a b : Int} (hdg : decode cc pc = .ok (.ladd, 1)) (k : W p l e R s m args below meth c H locs cells slots Q (F0 m (pc + 1) ls (.long (Int64.ofInt (a + b)) :: rest))) : W p l e R s m args below meth c H locs cells slots Q (F0 m pc ls (.long (Int64.ofInt (b)) :: .long (Int64.ofInt (a)) :: rest)) := lv_ladd hexec hb hdg (by rw [← Int64.ofInt_add]; exact k)
theorem tf_lsub (hexec : p.tables.exec = Jvm.exec) (hb : c.code = cc) {a b : Int} (hdg : decode cc pc = .ok (.lsub, 1)) (k : W p l e R s m args below meth c H locs cells slots Q (F0 m (pc + 1) ls (.long (Int64.ofInt (a - b)) :: rest))) : W p l e R s m args below meth c H locs cells slots Q (F0 m pc ls (.long (Int64.ofInt (b)) :: .long (Int64.ofInt (a)) :: rest)) := lv_lsub hexec hb hdg (by rw [← Int64.ofInt_sub]; exact k)
theorem tf_lmul (hexec : p.tables.exec = Jvm.exec) (hb : c.code = cc) {a b : Int} (hdg : decode cc pc = .ok (.lmul, 1)) (k : W p l e R s m args below meth c H locs cells slots Q (F0 m (pc + 1) ls (.long (Int64.ofInt (a * b)) :: rest))) : W p l e R s m args below meth c H locs cells slots Q (F0 m pc ls (.long (Int64.ofInt (b)) :: .long (Int64.ofInt (a)) :: rest)) := lv_lmul hexec hb hdg (by rw [← Int64.ofInt_mul]; exact k)
theorem tf_idiv (hexec : p.tables.exec = Jvm.exec) (hb : c.code = cc) {a b : Int} (ha : tf_r a) (h0 : 0 ≤ a) (hb2 : tf_r b) (h1 : 0 < b) (hdg : decode cc pc = .ok (.idiv, 1)) (k : W p l e R s m args below meth c H locs cells slots Q (F0 m (pc + 1) ls (.int (Int32.ofInt (a / b)) :: rest))) : W p l e R s m args below meth c H locs cells slots Q (F0 m pc ls (.int (Int32.ofInt (b)) :: .int (Int32.ofInt (a)) :: rest)) := lv_idiv hexec hb hdg (by rw [tf_0, tf_eq hb2 ⟨by omega, by omega⟩]; omega) (by rw [tf_divE ha h0 hb2 h1]; exact k)
theorem tf_irem (hexec : p.tables.exec = Jvm.exec) (hb : c.code = cc) {a b : Int} (ha : tf_r a) (h0 : 0 ≤ a) (hb2 : tf_r b) (h1 : 0 < b) (hdg : decode cc pc = .ok (.irem, 1)) (k : W p l e R s m args below meth c H locs cells slots Q (F0 m (pc + 1) ls (.int (Int32.ofInt (a % b)) :: rest))) : W p l e R s m args below meth c H locs cells slots Q (F0 m pc ls (.int (Int32.ofInt (b)) :: .int (Int32.ofInt (a)) :: rest)) := lv_irem hexec hb hdg (by rw [tf_0, tf_eq hb2 ⟨by omega, by omega⟩]; omega) (by rw [tf_remE ha h0 hb2 h1]; exact k)
theorem tf_idiv_any (hexec : p.tables.exec = Jvm.exec) (hb : c.code = cc) {a b : Int} (hne : b ≠ 0) (hb2 : tf_r b) (hdg : decode cc pc = .ok (.idiv, 1)) (k : ∀ z : Int, tf_r z → W p l e R s m args below meth c H locs cells slots Q (F0 m (pc + 1) ls (.int (Int32.ofInt (z)) :: rest))) : W p l e R s m args below meth c H locs cells slots Q (F0 m pc ls (.int (Int32.ofInt (b)) :: .int (Int32.ofInt (a)) :: rest)) := by
  refine lv_idiv hexec hb hdg (by rw [tf_0, tf_eq hb2 ⟨by omega, by omega⟩]; exact hne) ?_
  refine lv_topi (fun y _ => ?_)
  obtain ⟨z, rfl, hz⟩ := tf_any y
  exact k z hz
theorem tf_irem_any (hexec : p.tables.exec = Jvm.exec) (hb : c.code = cc) {a b : Int} (hne : b ≠ 0) (hb2 : tf_r b) (hdg : decode cc pc = .ok (.irem, 1)) (k : ∀ z : Int, tf_r z → W p l e R s m args below meth c H locs cells slots Q (F0 m (pc + 1) ls (.int (Int32.ofInt (z)) :: rest))) : W p l e R s m args below meth c H locs cells slots Q (F0 m pc ls (.int (Int32.ofInt (b)) :: .int (Int32.ofInt (a)) :: rest)) := by
  refine lv_irem hexec hb hdg (by rw [tf_0, tf_eq hb2 ⟨by omega, by omega⟩]; exact hne) ?_
  refine lv_topi (fun y _ => ?_)
  obtain ⟨z, rfl, hz⟩ := tf_any y
  exact k z hz
theorem tf_iadd_any (hexec : p.tables.exec = Jvm.exec) (hb : c.code = cc) {x y : Int32} (hdg : decode cc pc = .ok (.iadd, 1)) (k : ∀ z : Int, tf_r z → W p l e R s m args below meth c H locs cells slots Q (F0 m (pc + 1) ls (.int (Int32.ofInt (z)) :: rest))) : W p l e R s m args below meth c H locs cells slots Q (F0 m pc ls (.int y :: .int x :: rest)) := by
  refine lv_iadd hexec hb hdg ?_
  refine lv_topi (fun y _ => ?_)
  obtain ⟨z, rfl, hz⟩ := tf_any y
  exact k z hz
theorem tf_isub_any (hexec : p.tables.exec = Jvm.exec) (hb : c.code = cc) {x y : Int32} (hdg : decode cc pc = .ok (.isub, 1)) (k : ∀ z : Int, tf_r z → W p l e R s m args below meth c H locs cells slots Q (F0 m (pc + 1) ls (.int (Int32.ofInt (z)) :: rest))) : W p l e R s m args below meth c H locs cells slots Q (F0 m pc ls (.int y :: .int x :: rest)) := by
  refine lv_isub hexec hb hdg ?_
  refine lv_topi (fun y _ => ?_)
  obtain ⟨z, rfl, hz⟩ := tf_any y
  exact k z hz
theorem tf_imul_any (hexec : p.tables.exec = Jvm.exec) (hb : c.code = cc) {x y : Int32} (hdg : decode cc pc = .ok (.imul, 1)) (k : ∀ z : Int, tf_r z → W p l e R s m args below meth c H locs cells slots Q (F0 m (pc + 1) ls (.int (Int32.ofInt (z)) :: rest))) : W p l e R s m args below meth c H locs cells slots Q (F0 m pc ls (.int y :: .int x :: rest)) := by
  refine lv_imul hexec hb hdg ?_
  refine lv_topi (fun y _ => ?_)
  obtain ⟨z, rfl, hz⟩ := tf_any y
  exact k z hz
theorem tf_iand_any (hexec : p.tables.exec = Jvm.exec) (hb : c.code = cc) {x y : Int32} (hdg : decode cc pc = .ok (.iand, 1)) (k : ∀ z : Int, tf_r z → W p l e R s m args below meth c H locs cells slots Q (F0 m (pc + 1) ls (.int (Int32.ofInt (z)) :: rest))) : W p l e R s m args below meth c H locs cells slots Q (F0 m pc ls (.int y :: .int x :: rest)) := by
  refine lv_iand hexec hb hdg ?_
  refine lv_topi (fun y _ => ?_)
  obtain ⟨z, rfl, hz⟩ := tf_any y
  exact k z hz
theorem tf_ior_any (hexec : p.tables.exec = Jvm.exec) (hb : c.code = cc) {x y : Int32} (hdg : decode cc pc = .ok (.ior, 1)) (k : ∀ z : Int, tf_r z → W p l e R s m args below meth c H locs cells slots Q (F0 m (pc + 1) ls (.int (Int32.ofInt (z)) :: rest))) : W p l e R s m args below meth c H locs cells slots Q (F0 m pc ls (.int y :: .int x :: rest)) := by
  refine lv_ior hexec hb hdg ?_
  refine lv_topi (fun y _ => ?_)
  obtain ⟨z, rfl, hz⟩ := tf_any y
  exact k z hz
theorem tf_ixor_any (hexec : p.tables.exec = Jvm.exec) (hb : c.code = cc) {x y : Int32} (hdg : decode cc pc = .ok (.ixor, 1)) (k : ∀ z : Int, tf_r z → W p l e R s m args below meth c H locs cells slots Q (F0 m (pc + 1) ls (.int (Int32.ofInt (z)) :: rest))) : W p l e R s m args below meth c H locs cells slots Q (F0 m pc ls (.int y :: .int x :: rest)) := by
  refine lv_ixor hexec hb hdg ?_
  refine lv_topi (fun y _ => ?_)
  obtain ⟨z, rfl, hz⟩ := tf_any y
  exact k z hz
theorem tf_ishl_any (hexec : p.tables.exec = Jvm.exec) (hb : c.code = cc) {x y : Int32} (hdg : decode cc pc = .ok (.ishl, 1)) (k : ∀ z : Int, tf_r z → W p l e R s m args below meth c H locs cells slots Q (F0 m (pc + 1) ls (.int (Int32.ofInt (z)) :: rest))) : W p l e R s m args below meth c H locs cells slots Q (F0 m pc ls (.int y :: .int x :: rest)) := by
  refine lv_ishl hexec hb hdg ?_
  refine lv_topi (fun y _ => ?_)
  obtain ⟨z, rfl, hz⟩ := tf_any y
  exact k z hz
theorem tf_ishr_any (hexec : p.tables.exec = Jvm.exec) (hb : c.code = cc) {x y : Int32} (hdg : decode cc pc = .ok (.ishr, 1)) (k : ∀ z : Int, tf_r z → W p l e R s m args below meth c H locs cells slots Q (F0 m (pc + 1) ls (.int (Int32.ofInt (z)) :: rest))) : W p l e R s m args below meth c H locs cells slots Q (F0 m pc ls (.int y :: .int x :: rest)) := by
  refine lv_ishr hexec hb hdg ?_
  refine lv_topi (fun y _ => ?_)
  obtain ⟨z, rfl, hz⟩ := tf_any y
  exact k z hz
theorem tf_ineg_any (hexec : p.tables.exec = Jvm.exec) (hb : c.code = cc) {x : Int32} (hdg : decode cc pc = .ok (.ineg, 1)) (k : ∀ z : Int, tf_r z → W p l e R s m args below meth c H locs cells slots Q (F0 m (pc + 1) ls (.int (Int32.ofInt (z)) :: rest))) : W p l e R s m args below meth c H locs cells slots Q (F0 m pc ls (.int x :: rest)) := by
  refine lv_ineg hexec hb hdg ?_
  refine lv_topi (fun y _ => ?_)
  obtain ⟨z, rfl, hz⟩ := tf_any y
  exact k z hz
theorem tf_iushr_any (hexec : p.tables.exec = Jvm.exec) (hb : c.code = cc) {x y : Int32} (hdg : decode cc pc = .ok (.iushr, 1)) (k : ∀ z : Int, tf_r z → W p l e R s m args below meth c H locs cells slots Q (F0 m (pc + 1) ls (.int (Int32.ofInt (z)) :: rest))) : W p l e R s m args below meth c H locs cells slots Q (F0 m pc ls (.int y :: .int x :: rest)) := by
  refine lv_iushr hexec hb hdg rfl ?_
  refine lv_topi (fun y _ => ?_)
  obtain ⟨z, rfl, hz⟩ := tf_any y
  exact k z hz
theorem tf_ladd_any (hexec : p.tables.exec = Jvm.exec) (hb : c.code = cc) {x y : Int64} (hdg : decode cc pc = .ok (.ladd, 1)) (k : ∀ z : Int, tf_rL z → W p l e R s m args below meth c H locs cells slots Q (F0 m (pc + 1) ls (.long (Int64.ofInt (z)) :: rest))) : W p l e R s m args below meth c H locs cells slots Q (F0 m pc ls (.long y :: .long x :: rest)) := by
  refine lv_ladd hexec hb hdg ?_
  refine lv_topl (fun y _ => ?_)
  obtain ⟨z, rfl, hz⟩ := tf_anyL y
  exact k z hz
theorem tf_lsub_any (hexec : p.tables.exec = Jvm.exec) (hb : c.code = cc) {x y : Int64} (hdg : decode cc pc = .ok (.lsub, 1)) (k : ∀ z : Int, tf_rL z → W p l e R s m args below meth c H locs cells slots Q (F0 m (pc + 1) ls (.long (Int64.ofInt (z)) :: rest))) : W p l e R s m args below meth c H locs cells slots Q (F0 m pc ls (.long y :: .long x :: rest)) := by
  refine lv_lsub hexec hb hdg ?_
  refine lv_topl (fun y _ => ?_)
  obtain ⟨z, rfl, hz⟩ := tf_anyL y
  exact k z hz
theorem tf_lmul_any (hexec : p.tables.exec = Jvm.exec) (hb : c.code = cc) {x y : Int64} (hdg : decode cc pc = .ok (.lmul, 1)) (k : ∀ z : Int, tf_rL z → W p l e R s m args below meth c H locs cells slots Q (F0 m (pc + 1) ls (.long (Int64.ofInt (z)) :: rest))) : W p l e R s m args below meth c H locs cells slots Q (F0 m pc ls (.long y :: .long x :: rest)) := by
  refine lv_lmul hexec hb hdg ?_
  refine lv_topl (fun y _ => ?_)
  obtain ⟨z, rfl, hz⟩ := tf_anyL y
  exact k z hz
theorem tf_lor_any (hexec : p.tables.exec = Jvm.exec) (hb : c.code = cc) {x y : Int64} (hdg : decode cc pc = .ok (.lor, 1)) (k : ∀ z : Int, tf_rL z → W p l e R s m args below meth c H locs cells slots Q (F0 m (pc + 1) ls (.long (Int64.ofInt (z)) :: rest))) : W p l e R s m args below meth c H locs cells slots Q (F0 m pc ls (.long y :: .long x :: rest)) := by
  refine lv_lor hexec hb hdg ?_
  refine lv_topl (fun y _ => ?_)
  obtain ⟨z, rfl, hz⟩ := tf_anyL y
  exact k z hz
theorem tf_land_any (hexec : p.tables.exec = Jvm.exec) (hb : c.code = cc) {x y : Int64} (hdg : decode cc pc = .ok (.land, 1)) (k : ∀ z : Int, tf_rL z → W p l e R s m args below meth c H locs cells slots Q (F0 m (pc + 1) ls (.long (Int64.ofInt (z)) :: rest))) : W p l e R s m args below meth c H locs cells slots Q (F0 m pc ls (.long y :: .long x :: rest)) := by
  refine lv_land hexec hb hdg ?_
  refine lv_topl (fun y _ => ?_)
  obtain ⟨z, rfl, hz⟩ := tf_anyL y
  exact k z hz
theorem tf_lshl_any (hexec : p.tables.exec = Jvm.exec) (hb : c.code = cc) {x : Int64} {y : Int32} (hdg : decode cc pc = .ok (.lshl, 1)) (k : ∀ z : Int, tf_rL z → W p l e R s m args below meth c H locs cells slots Q (F0 m (pc + 1) ls (.long (Int64.ofInt (z)) :: rest))) : W p l e R s m args below meth c H locs cells slots Q (F0 m pc ls (.int y :: .long x :: rest)) := by
  refine lv_lshl hexec hb hdg rfl ?_
  refine lv_topl (fun y _ => ?_)
  obtain ⟨z, rfl, hz⟩ := tf_anyL y
  exact k z hz
theorem tf_iand_mask (hexec : p.tables.exec = Jvm.exec) (hb : c.code = cc) {x : Int32} {b : Int} (kk : Nat) (hk : kk ≤ 30) (hm : (Int32.ofInt b).toBitVec.toNat = 2 ^ kk - 1) (hdg : decode cc pc = .ok (.iand, 1)) (k : ∀ z : Int, 0 ≤ z → z < 2 ^ kk → W p l e R s m args below meth c H locs cells slots Q (F0 m (pc + 1) ls (.int (Int32.ofInt (z)) :: rest))) : W p l e R s m args below meth c H locs cells slots Q (F0 m pc ls (.int (Int32.ofInt (b)) :: .int x :: rest)) := by
  refine lv_iand hexec hb hdg ?_
  obtain ⟨j, hj, e1⟩ := pk_andE x kk hm
  rw [e1, show nI j = Int32.ofInt (j : Int) from (Int32.ofInt_eq_ofNat (n := j)).symm]
  exact k _ (by omega) (by exact_mod_cast hj)
theorem tf_i2l (hexec : p.tables.exec = Jvm.exec) (hb : c.code = cc) {a : Int} (ha : tf_r a) (hdg : decode cc pc = .ok (.i2l, 1)) (k : W p l e R s m args below meth c H locs cells slots Q (F0 m (pc + 1) ls (.long (Int64.ofInt (a)) :: rest))) : W p l e R s m args below meth c H locs cells slots Q (F0 m pc ls (.int (Int32.ofInt (a)) :: rest)) := lv_i2l hexec hb hdg (tf_i2lE ha) k
theorem tf_l2i (hexec : p.tables.exec = Jvm.exec) (hb : c.code = cc) {a : Int} (hdg : decode cc pc = .ok (.l2i, 1)) (k : W p l e R s m args below meth c H locs cells slots Q (F0 m (pc + 1) ls (.int (Int32.ofInt (a)) :: rest))) : W p l e R s m args below meth c H locs cells slots Q (F0 m pc ls (.long (Int64.ofInt (a)) :: rest)) := lv_l2i hexec hb hdg (tf_l2iE a) k
theorem tf_icmp_eq (hexec : p.tables.exec = Jvm.exec) (hb : c.code = cc) {a b : Int} {off : Int} {tgt : Nat} (ha : tf_r a) (hb2 : tf_r b) (hdg : decode cc pc = .ok (.if_icmp .eq off, 3)) (ht : (pc : Int) + off = (tgt : Int)) (k1 : a = b → W p l e R s m args below meth c H locs cells slots Q (F0 m tgt ls rest)) (k2 : a ≠ b → W p l e R s m args below meth c H locs cells slots Q (F0 m (pc + 3) ls rest)) : W p l e R s m args below meth c H locs cells slots Q (F0 m pc ls (.int (Int32.ofInt (b)) :: .int (Int32.ofInt (a)) :: rest)) := lv_icmp_eq hexec hb hdg ht (fun h => k1 (by rw [tf_eq ha hb2] at h; omega)) (fun h => k2 (by rw [tf_eq ha hb2] at h; omega))
theorem tf_if_eq (hexec : p.tables.exec = Jvm.exec) (hb : c.code = cc) {a : Int} {off : Int} {tgt : Nat} (ha : tf_r a) (hdg : decode cc pc = .ok (.ifCond .eq off, 3)) (ht : (pc : Int) + off = (tgt : Int)) (k1 : a = 0 → W p l e R s m args below meth c H locs cells slots Q (F0 m tgt ls rest)) (k2 : a ≠ 0 → W p l e R s m args below meth c H locs cells slots Q (F0 m (pc + 3) ls rest)) : W p l e R s m args below meth c H locs cells slots Q (F0 m pc ls (.int (Int32.ofInt (a)) :: rest)) := lv_if_eq hexec hb hdg ht (fun h => k1 (by rw [tf_0, tf_eq ha ⟨by omega, by omega⟩] at h; omega)) (fun h => k2 (by rw [tf_0, tf_eq ha ⟨by omega, by omega⟩] at h; omega))
theorem tf_icmp_ne (hexec : p.tables.exec = Jvm.exec) (hb : c.code = cc) {a b : Int} {off : Int} {tgt : Nat} (ha : tf_r a) (hb2 : tf_r b) (hdg : decode cc pc = .ok (.if_icmp .ne off, 3)) (ht : (pc : Int) + off = (tgt : Int)) (k1 : a ≠ b → W p l e R s m args below meth c H locs cells slots Q (F0 m tgt ls rest)) (k2 : a = b → W p l e R s m args below meth c H locs cells slots Q (F0 m (pc + 3) ls rest)) : W p l e R s m args below meth c H locs cells slots Q (F0 m pc ls (.int (Int32.ofInt (b)) :: .int (Int32.ofInt (a)) :: rest)) := lv_icmp_ne hexec hb hdg ht (fun h => k1 (by show ¬ _; rw [tf_eq ha hb2] at h; omega)) (fun h => k2 (by rw [tf_eq ha hb2] at h; omega))
theorem tf_if_ne (hexec : p.tables.exec = Jvm.exec) (hb : c.code = cc) {a : Int} {off : Int} {tgt : Nat} (ha : tf_r a) (hdg : decode cc pc = .ok (.ifCond .ne off, 3)) (ht : (pc : Int) + off = (tgt : Int)) (k1 : a ≠ 0 → W p l e R s m args below meth c H locs cells slots Q (F0 m tgt ls rest)) (k2 : a = 0 → W p l e R s m args below meth c H locs cells slots Q (F0 m (pc + 3) ls rest)) : W p l e R s m args below meth c H locs cells slots Q (F0 m pc ls (.int (Int32.ofInt (a)) :: rest)) := lv_if_ne hexec hb hdg ht (fun h => k1 (by show ¬ _; rw [tf_0, tf_eq ha ⟨by omega, by omega⟩] at h; omega)) (fun h => k2 (by rw [tf_0, tf_eq ha ⟨by omega, by omega⟩] at h; omega))
theorem tf_icmp_lt (hexec : p.tables.exec = Jvm.exec) (hb : c.code = cc) {a b : Int} {off : Int} {tgt : Nat} (ha : tf_r a) (hb2 : tf_r b) (hdg : decode cc pc = .ok (.if_icmp .lt off, 3)) (ht : (pc : Int) + off = (tgt : Int)) (k1 : a < b → W p l e R s m args below meth c H locs cells slots Q (F0 m tgt ls rest)) (k2 : b ≤ a → W p l e R s m args below meth c H locs cells slots Q (F0 m (pc + 3) ls rest)) : W p l e R s m args below meth c H locs cells slots Q (F0 m pc ls (.int (Int32.ofInt (b)) :: .int (Int32.ofInt (a)) :: rest)) := lv_icmp_lt hexec hb hdg ht (fun h => k1 (by rw [tf_lt ha hb2] at h; omega)) (fun h => k2 (by rw [tf_lt ha hb2] at h; omega))
theorem tf_if_lt (hexec : p.tables.exec = Jvm.exec) (hb : c.code = cc) {a : Int} {off : Int} {tgt : Nat} (ha : tf_r a) (hdg : decode cc pc = .ok (.ifCond .lt off, 3)) (ht : (pc : Int) + off = (tgt : Int)) (k1 : a < 0 → W p l e R s m args below meth c H locs cells slots Q (F0 m tgt ls rest)) (k2 : 0 ≤ a → W p l e R s m args below meth c H locs cells slots Q (F0 m (pc + 3) ls rest)) : W p l e R s m args below meth c H locs cells slots Q (F0 m pc ls (.int (Int32.ofInt (a)) :: rest)) := lv_if_lt hexec hb hdg ht (fun h => k1 (by rw [tf_0, tf_lt ha ⟨by omega, by omega⟩] at h; omega)) (fun h => k2 (by rw [tf_0, tf_lt ha ⟨by omega, by omega⟩] at h; omega))
theorem tf_icmp_ge (hexec : p.tables.exec = Jvm.exec) (hb : c.code = cc) {a b : Int} {off : Int} {tgt : Nat} (ha : tf_r a) (hb2 : tf_r b) (hdg : decode cc pc = .ok (.if_icmp .ge off, 3)) (ht : (pc : Int) + off = (tgt : Int)) (k1 : b ≤ a → W p l e R s m args below meth c H locs cells slots Q (F0 m tgt ls rest)) (k2 : a < b → W p l e R s m args below meth c H locs cells slots Q (F0 m (pc + 3) ls rest)) : W p l e R s m args below meth c H locs cells slots Q (F0 m pc ls (.int (Int32.ofInt (b)) :: .int (Int32.ofInt (a)) :: rest)) := lv_icmp_ge hexec hb hdg ht (fun h => k1 (by rw [tf_le hb2 ha] at h; omega)) (fun h => k2 (by rw [tf_le hb2 ha] at h; omega))
theorem tf_if_ge (hexec : p.tables.exec = Jvm.exec) (hb : c.code = cc) {a : Int} {off : Int} {tgt : Nat} (ha : tf_r a) (hdg : decode cc pc = .ok (.ifCond .ge off, 3)) (ht : (pc : Int) + off = (tgt : Int)) (k1 : 0 ≤ a → W p l e R s m args below meth c H locs cells slots Q (F0 m tgt ls rest)) (k2 : a < 0 → W p l e R s m args below meth c H locs cells slots Q (F0 m (pc + 3) ls rest)) : W p l e R s m args below meth c H locs cells slots Q (F0 m pc ls (.int (Int32.ofInt (a)) :: rest)) := lv_if_ge hexec hb hdg ht (fun h => k1 (by rw [tf_0, tf_le ⟨by omega, by omega⟩ ha] at h; omega)) (fun h => k2 (by rw [tf_0, tf_le ⟨by omega, by omega⟩ ha] at h; omega))
theorem tf_icmp_gt (hexec : p.tables.exec = Jvm.exec) (hb : c.code = cc) {a b : Int} {off : Int} {tgt : Nat} (ha : tf_r a) (hb2 : tf_r b) (hdg : decode cc pc = .ok (.if_icmp .gt off, 3)) (ht : (pc : Int) + off = (tgt : Int)) (k1 : b < a → W p l e R s m args below meth c H locs cells slots Q (F0 m tgt ls rest)) (k2 : a ≤ b → W p l e R s m args below meth c H locs cells slots Q (F0 m (pc + 3) ls rest)) : W p l e R s m args below meth c H locs cells slots Q (F0 m pc ls (.int (Int32.ofInt (b)) :: .int (Int32.ofInt (a)) :: rest)) := lv_icmp_gt hexec hb hdg ht (fun h => k1 (by rw [tf_lt hb2 ha] at h; omega)) (fun h => k2 (by rw [tf_lt hb2 ha] at h; omega))
theorem tf_if_gt (hexec : p.tables.exec = Jvm.exec) (hb : c.code = cc) {a : Int} {off : Int} {tgt : Nat} (ha : tf_r a) (hdg : decode cc pc = .ok (.ifCond .gt off, 3)) (ht : (pc : Int) + off = (tgt : Int)) (k1 : 0 < a → W p l e R s m args below meth c H locs cells slots Q (F0 m tgt ls rest)) (k2 : a ≤ 0 → W p l e R s m args below meth c H locs cells slots Q (F0 m (pc + 3) ls rest)) : W p l e R s m args below meth c H locs cells slots Q (F0 m pc ls (.int (Int32.ofInt (a)) :: rest)) := lv_if_gt hexec hb hdg ht (fun h => k1 (by rw [tf_0, tf_lt ⟨by omega, by omega⟩ ha] at h; omega)) (fun h => k2 (by rw [tf_0, tf_lt ⟨by omega, by omega⟩ ha] at h; omega))
theorem tf_icmp_le (hexec : p.tables.exec = Jvm.exec) (hb : c.code = cc) {a b : Int} {off : Int} {tgt : Nat} (ha : tf_r a) (hb2 : tf_r b) (hdg : decode cc pc = .ok (.if_icmp .le off, 3)) (ht : (pc : Int) + off = (tgt : Int)) (k1 : a ≤ b → W p l e R s m args below meth c H locs cells slots Q (F0 m tgt ls rest)) (k2 : b < a → W p l e R s m args below meth c H locs cells slots Q (F0 m (pc + 3) ls rest)) : W p l e R s m args below meth c H locs cells slots Q (F0 m pc ls (.int (Int32.ofInt (b)) :: .int (Int32.ofInt (a)) :: rest)) := lv_icmp_le hexec hb hdg ht (fun h => k1 (by rw [tf_le ha hb2] at h; omega)) (fun h => k2 (by rw [tf_le ha hb2] at h; omega))
theorem tf_if_le (hexec : p.tables.exec = Jvm.exec) (hb : c.code = cc) {a : Int} {off : Int} {tgt : Nat} (ha : tf_r a) (hdg : decode cc pc = .ok (.ifCond .le off, 3)) (ht : (pc : Int) + off = (tgt : Int)) (k1 : a ≤ 0 → W p l e R s m args below meth c H locs cells slots Q (F0 m tgt ls rest)) (k2 : 0 < a → W p l e R s m args below meth c H locs cells slots Q (F0 m (pc + 3) ls rest)) : W p l e R s m args below meth c H locs cells slots Q (F0 m pc ls (.int (Int32.ofInt (a)) :: rest)) := lv_if_le hexec hb hdg ht (fun h => k1 (by rw [tf_0, tf_le ha ⟨by omega, by omega⟩] at h; omega)) (fun h => k2 (by rw [tf_0, tf_le ha ⟨by omega, by omega⟩] at h; omega))
end TFR

section TFS
variable {p : Program} {l : Launch} {e : Env} {R : Room} {s : State} {m : MethodId} {args : Array Value} {below : List Frame} {meth : Method} {c : Code} {H : Heap} {locs : List Loc} {cells slots : Nat} {Q : State → Prop}
variable {cc : ByteArray} {pc : Nat} {ls : Array Slot} {rest : List Value} {g : tf_G} {M : List (Nat × Nat)} {T : tf_T}
theorem tf_slen {i w : Nat} (hexec : p.tables.exec = Jvm.exec) (hb : c.code = cc) (hk : tf_k g s) (hW : tf_n tf_kt g M T s.heap T H locs) (hi : i < 14) (hw : tf_sl.getD i 0 = w) (hdg : decode cc pc = .ok (.arraylength, 1))
    (kk : W p l e R s m args below meth c H locs cells slots Q (F0 m (pc + 1) ls (.int (Int32.ofInt (w : Int)) :: rest))) : W p l e R s m args below meth c H locs cells slots Q (F0 m pc ls (.ref (g.2.2.2 (40 + i)) :: rest)) :=
  va_tlen hexec hb (hk.2.2.2.2.2.1.1 i hi).2.2.2 (tf_S hW) (v := Int32.ofInt (w : Int)) (by rw [hw]; exact (Int32.ofInt_eq_ofNat (n := w)).symm) hdg kk
theorem tf_sbyt {i w : Nat} {z : Int} (hexec : p.tables.exec = Jvm.exec) (hb : c.code = cc) (hk : tf_k g s) (hW : tf_n tf_kt g M T s.heap T H locs) (hi : i < 14) (hw : tf_sl.getD i 0 = w) (hw6 : w ≤ 6) (h0 : 0 ≤ z) (h1 : z < w) (hdg : decode cc pc = .ok (.baload, 1))
    (kk : ∀ y : Int, tf_r y → W p l e R s m args below meth c H locs cells slots Q (F0 m (pc + 1) ls (.int (Int32.ofInt y) :: rest))) : W p l e R s m args below meth c H locs cells slots Q (F0 m pc ls (.int (Int32.ofInt z) :: .ref (g.2.2.2 (40 + i)) :: rest)) := by
  obtain ⟨y, e1, hy⟩ := tf_any ((tf_sb.getD i []).getD (Int32.ofInt z).toNatClampNeg 0)
  exact va_tb hexec hb (hk.2.2.2.2.2.1.1 i hi).2.2.2 (tf_S hW) (tf_in (by omega) h0 (by omega)) (v := .int (Int32.ofInt y)) (congrArg Value.int e1) hdg (kk y hy)
theorem tf_zl7 {i : Nat} (hi : i < 4) : tf_zl.getD i 0 ≤ 7 := (show ∀ j : Fin 4, tf_zl.getD j.val 0 ≤ 7 by decide) ⟨i, hi⟩
theorem tf_zld {i : Nat} {z : Int} (hexec : p.tables.exec = Jvm.exec) (hb : c.code = cc) (hk : tf_k g s) (hW : tf_n tf_kt g M T s.heap T H locs) (hi : i < 4) (h0 : 0 ≤ z) (h1 : z < ((tf_zl.getD i 0 : Nat) : Int)) (hdg : decode cc pc = .ok (.iaload, 1))
    (kk : ∀ y : Int, tf_r y → W p l e R s m args below meth c H locs cells slots Q (F0 m (pc + 1) ls (.int (Int32.ofInt y) :: rest))) : W p l e R s m args below meth c H locs cells slots Q (F0 m pc ls (.int (Int32.ofInt z) :: .ref (g.2.2.2 i) :: rest)) := by
  have h7 := tf_zl7 hi
  obtain ⟨y, e1, hy⟩ := tf_any ((tf_zb.getD i []).getD (Int32.ofInt z).toNatClampNeg 0)
  exact va_ti hexec hb (hk.2.2.2.2.2.2.2.2.2 i hi) (tf_S hW) (tf_in (by omega) h0 h1) (v := .int (Int32.ofInt y)) (congrArg Value.int e1) hdg (kk y hy)
theorem tf_zb16 : ∀ (i : Fin 2) (j : Fin 4), -16 ≤ ((tf_zb.getD i.val []).getD j.val 0).toInt ∧ ((tf_zb.getD i.val []).getD j.val 0).toInt ≤ 16 := by decide
theorem tf_zld16 {i : Nat} {z : Int} (hexec : p.tables.exec = Jvm.exec) (hb : c.code = cc) (hk : tf_k g s) (hW : tf_n tf_kt g M T s.heap T H locs) (hi : i < 2) (h0 : 0 ≤ z) (h1 : z < ((4 : Nat) : Int)) (hdg : decode cc pc = .ok (.iaload, 1))
    (kk : ∀ y : Int, -16 ≤ y ∧ y ≤ 16 → W p l e R s m args below meth c H locs cells slots Q (F0 m (pc + 1) ls (.int (Int32.ofInt y) :: rest))) : W p l e R s m args below meth c H locs cells slots Q (F0 m pc ls (.int (Int32.ofInt z) :: .ref (g.2.2.2 i) :: rest)) := by
  have h4 : tf_zl.getD i 0 = 4 := (show ∀ j : Fin 2, tf_zl.getD j.val 0 = 4 by decide) ⟨i, hi⟩
  obtain ⟨y, e1, hy⟩ := tf_any ((tf_zb.getD i []).getD (Int32.ofInt z).toNatClampNeg 0)
  have hcl : (Int32.ofInt z).toNatClampNeg = z.toNat := tf_cl ⟨by omega, by omega⟩ h0
  have h16 := tf_zb16 ⟨i, hi⟩ ⟨(Int32.ofInt z).toNatClampNeg, by rw [hcl]; omega⟩
  have e2 := congrArg Int32.toInt e1
  rw [tf_ti hy] at e2
  refine va_ti hexec hb (hk.2.2.2.2.2.2.2.2.2 i (by omega)) (tf_S hW) (tf_in (by omega) h0 (by rw [h4]; exact h1)) (v := .int (Int32.ofInt y)) (congrArg Value.int e1) hdg (kk y ?_)
  rw [← e2]
  exact h16
theorem tf_sval {i index : Nat} {own : String} (hexec : p.tables.exec = Jvm.exec) (hb : c.code = cc) (hk : tf_k g s) (hW : tf_n tf_kt g M T s.heap T H locs) (hi : i < 14) (hown : s.vm.findClass own = some m.cls) (hlink : (Cond.fieldLink own index "java/lang/String" "value" "[B").before args s = true) (hdg : decode cc pc = .ok (.getfield index, 3))
    (kk : W p l e R s m args below meth c H locs cells slots Q (F0 m (pc + 3) ls (.ref (g.2.2.2 (40 + i)) :: rest))) : W p l e R s m args below meth c H locs cells slots Q (F0 m pc ls (.ref (g.2.2.2 (10 + i)) :: rest)) :=
  vk_getf hexec hb (hk.2.2.2.2.2.1.1 i hi).2.2.1 (tf_S hW) hown hlink (fun _ h => h) hdg kk
theorem tf_scod {i index : Nat} {own : String} (hexec : p.tables.exec = Jvm.exec) (hb : c.code = cc) (hk : tf_k g s) (hW : tf_n tf_kt g M T s.heap T H locs) (hi : i < 14) (hown : s.vm.findClass own = some m.cls) (hlink : (Cond.fieldLink own index "java/lang/String" "coder" "B").before args s = true) (hdg : decode cc pc = .ok (.getfield index, 3))
    (kk : W p l e R s m args below meth c H locs cells slots Q (F0 m (pc + 3) ls (.int (Int32.ofInt 0) :: rest))) : W p l e R s m args below meth c H locs cells slots Q (F0 m pc ls (.ref (g.2.2.2 (10 + i)) :: rest)) :=
  vk_getf hexec hb (hk.2.2.2.2.2.1.1 i hi).2.1 (tf_S hW) hown hlink (fun _ h => h) hdg kk
theorem tf_gcs {index : Nat} {own : String} (hexec : p.tables.exec = Jvm.exec) (hb : c.code = cc) (hk : tf_k g s) (hW : tf_n tf_kt g M T s.heap T H locs) (hown : s.vm.findClass own = some m.cls) (hlink : (Cond.fieldLink own index "java/lang/String" "COMPACT_STRINGS" "Z").before args s = true) (hdg : decode cc pc = .ok (.getstatic index, 3))
    (kk : W p l e R s m args below meth c H locs cells slots Q (F0 m (pc + 3) ls (.int (Int32.ofInt 1) :: rest))) : W p l e R s m args below meth c H locs cells slots Q (F0 m pc ls rest) :=
  va_gets hexec hb hk.2.2.2.2.2.2.2.1 (tf_S hW) hown hlink (fun _ h => h) hdg kk
theorem tf_gsf {index : Nat} {own : String} (hexec : p.tables.exec = Jvm.exec) (hb : c.code = cc) (hk : tf_k g s) (hW : tf_n tf_kt g M T s.heap T H locs) (hown : s.vm.findClass own = some m.cls) (hlink : (Cond.fieldLink own index "jdk/internal/util/Preconditions" "SIOOBE_FORMATTER" "Ljava/util/function/BiFunction;").before args s = true) (hdg : decode cc pc = .ok (.getstatic index, 3))
    (k0 : W p l e R s m args below meth c H locs cells slots Q (F0 m (pc + 3) ls (.null :: rest))) (kk : ∀ a : Nat, W p l e R s m args below meth c H locs cells slots Q (F0 m (pc + 3) ls (.ref a :: rest))) : W p l e R s m args below meth c H locs cells slots Q (F0 m pc ls rest) := by
  rcases hk.2.2.2.2.2.2.2.2.1 with h | ⟨a, h⟩
  · exact va_gets hexec hb h (tf_S hW) hown hlink (fun _ h => h) hdg k0
  · exact va_gets hexec hb h (tf_S hW) hown hlink (fun _ h => h) hdg (kk a)
theorem tf_ldcS {i index : Nat} {tx : String} (hexec : p.tables.exec = Jvm.exec) (hb : c.code = cc) (hk : tf_k g s) (hown : s.vm.findClass RX4 = some m.cls) (hx : tf_sx[i]? = some (index, tx)) (hdg : decode cc pc = .ok (.ldc index, 2))
    (kk : W p l e R s m args below meth c H locs cells slots Q (F0 m (pc + 2) ls (.ref (g.2.2.2 (10 + i)) :: rest))) : W p l e R s m args below meth c H locs cells slots Q (F0 m pc ls rest) :=
  va_ldcS hexec hb hown (hk.2.2.2.2.2.2.1 i _ hx) hdg kk
theorem tf_i2c {x : Int32} (hexec : p.tables.exec = Jvm.exec) (hb : c.code = cc) (hdg : decode cc pc = .ok (.i2c, 1))
    (kk : ∀ z : Int, 0 ≤ z ∧ z ≤ 65535 → W p l e R s m args below meth c H locs cells slots Q (F0 m (pc + 1) ls (.int (Int32.ofInt z) :: rest))) : W p l e R s m args below meth c H locs cells slots Q (F0 m pc ls (.int x :: rest)) :=
  lv_i2c hexec hb hdg (v := Int32.ofInt ((x.toBitVec.toNat % 65536 : Nat) : Int)) ((pk_char x).trans (Int32.ofInt_eq_ofNat (n := x.toBitVec.toNat % 65536)).symm) (kk _ ⟨by omega, by omega⟩)
theorem tf_ishr_0 {a : Int} (hexec : p.tables.exec = Jvm.exec) (hb : c.code = cc) (ha : tf_r a) (hdg : decode cc pc = .ok (.ishr, 1))
    (kk : W p l e R s m args below meth c H locs cells slots Q (F0 m (pc + 1) ls (.int (Int32.ofInt a) :: rest))) : W p l e R s m args below meth c H locs cells slots Q (F0 m pc ls (.int (Int32.ofInt 0) :: .int (Int32.ofInt a) :: rest)) := by
  refine lv_ishr hexec hb hdg ?_
  refine lv_topi (fun y hy => ?_)
  obtain ⟨z, rfl, hz⟩ := tf_any y
  have h1 : (Int32.ofInt z).toInt = (Int32.ofInt a).toInt >>> 0 := by
    rw [hy]; exact pk_shr (Int32.ofInt a) _ 0 (by decide +kernel)
  rw [tf_ti hz, tf_ti ha, Int.shiftRight_eq_div_pow, Nat.pow_zero] at h1
  have h2 : z = a := by omega
  rw [h2]
  exact kk
theorem tf_retc {post : Int → Heap → Heap → Prop} {z : Int} (hexec : p.tables.exec = Jvm.exec) (hb : c.code = cc) (hr : meth.sig.returnType = some .char) (hlocks : meth.locks = false) (hQ : Q = MQ below (tf_Qi g M T post) args s 0 0 (fun q => tf_B g ≤ q)) (hW : tf_n tf_kt g M T s.heap T H locs) (hz : 0 ≤ z ∧ z ≤ 65535) (hp : post z s.heap H) (hdg : decode cc pc = .ok (.ireturn, 1)) : W p l e R s m args below meth c H locs 0 0 Q (F0 m pc ls [.int (Int32.ofInt z)]) := by
  rw [hQ]
  have e1 : Int32.ofInt z = nI z.toNat := by
    rw [show z = ((z.toNat : Nat) : Int) by omega]; exact Int32.ofInt_eq_ofNat
  exact W.zret hexec hb hr (by rw [e1]; exact (pk_charN (by omega)).1) (fun t ht _ => ⟨z, rfl, by rw [ht]; exact hW.1, by rw [ht]; exact hW.2.2.1, by rw [ht]; exact hp⟩) hW.2.2.2.1 hdg hlocks
theorem tf_retb {post : Int → Heap → Heap → Prop} {z : Int} (hexec : p.tables.exec = Jvm.exec) (hb : c.code = cc) (hr : meth.sig.returnType = some .byte) (hlocks : meth.locks = false) (hQ : Q = MQ below (tf_Qi g M T post) args s 0 0 (fun q => tf_B g ≤ q)) (hW : tf_n tf_kt g M T s.heap T H locs) (hz : z = 0) (hp : post z s.heap H) (hdg : decode cc pc = .ok (.ireturn, 1)) : W p l e R s m args below meth c H locs 0 0 Q (F0 m pc ls [.int (Int32.ofInt z)]) := by
  rw [hQ]
  exact W.zret hexec hb hr (by rw [hz]; decide) (fun t ht _ => ⟨z, rfl, by rw [ht]; exact hW.1, by rw [ht]; exact hW.2.2.1, by rw [ht]; exact hp⟩) hW.2.2.2.1 hdg hlocks
theorem tf_preR {As : List Value} {pre : Heap → Prop} {i : Nat} (hk : tf_k g s) (hW : tf_n tf_kt g M T s.heap T H locs) (hi : i < 14) (hp : pre H) : PreV s H "java/lang/String" (g.2.2.2 (10 + i)) (tf_P g T (.ref (g.2.2.2 (10 + i)) :: As) pre) As :=
  ⟨tf_P.blind, vk_recv (adK := fun i => g.2.2.2 (10 + i)) (i := i) hk.2.2.2.2.2.1 hi (tf_S hW), (tf_preS hk hW hp).2⟩
end TFS

theorem tf_rname {kt : List tf_Kd} {g : tf_G} {M : List (Nat × Nat)} {T0 T : tf_T} {H0 H : Heap} {locs : List Loc} (_ : tf_n kt g M T0 H0 T H locs) (a : Nat) : ∃ r, tf_rw H a = r := ⟨_, rfl⟩
theorem tf_rd0 {H : Heap} {a : Nat} {i z : Int} (hr : tf_RO (tf_rw H a)) (hs : tf_s H a i.toNat = some (.int (Int32.ofInt z))) (hz : tf_r z) (hi : i = 0) : 0 ≤ z ∧ z ≤ 6 := by
  subst hi
  have := hr.1
  rw [tf_rw_of (by omega) hs hz] at this
  exact this
theorem tf_rd1 {H : Heap} {a : Nat} {i z : Int} (hr : tf_RO (tf_rw H a)) (hs : tf_s H a i.toNat = some (.int (Int32.ofInt z))) (hz : tf_r z) (hi : i = 1) : 0 ≤ z ∧ z ≤ 6 := by
  subst hi
  have := hr.2.1
  rw [tf_rw_of (by omega) hs hz] at this
  exact this
theorem tf_rd2 {H : Heap} {a : Nat} {i z : Int} (hr : tf_RO (tf_rw H a)) (hs : tf_s H a i.toNat = some (.int (Int32.ofInt z))) (hz : tf_r z) (hi : i = 2) : -1 ≤ z ∧ z ≤ 5 := by
  subst hi
  have := hr.2.2.1
  rw [tf_rw_of (by omega) hs hz] at this
  exact this
theorem tf_rd3 {H : Heap} {a : Nat} {i z : Int} (hr : tf_RO (tf_rw H a)) (hs : tf_s H a i.toNat = some (.int (Int32.ofInt z))) (hz : tf_r z) (hi : i = 3) : 0 ≤ z ∧ z ≤ 8 := by
  subst hi
  have := hr.2.2.2.1
  rw [tf_rw_of (by omega) hs hz] at this
  exact this
theorem tf_rd4 {H : Heap} {a : Nat} {i z : Int} (hr : tf_RO (tf_rw H a)) (hs : tf_s H a i.toNat = some (.int (Int32.ofInt z))) (hz : tf_r z) (hi : i = 4) : 0 ≤ z ∧ z ≤ 12 := by
  subst hi
  have := hr.2.2.2.2.1
  rw [tf_rw_of (by omega) hs hz] at this
  exact this
theorem tf_rdL {H : Heap} {a : Nat} {i z : Int} (hr : tf_RO (tf_rw H a)) (hs : tf_s H a i.toNat = some (.int (Int32.ofInt z))) (hz : tf_r z) (hi : 5 ≤ i ∧ i ≤ 10) : 0 ≤ z ∧ z ≤ 9999 := by
  have := hr.2.2.2.2.2.1 i hi.1 hi.2
  rw [tf_rw_of (by omega) hs hz] at this
  exact this
theorem tf_rdM {H : Heap} {a : Nat} {i z : Int} (hr : tf_RO (tf_rw H a)) (hs : tf_s H a i.toNat = some (.int (Int32.ofInt z))) (hz : tf_r z) (hi : 4 ≤ i ∧ i ≤ 10) : 0 ≤ z ∧ z ≤ 9999 := by
  by_cases h : i = 4
  · have := tf_rd4 hr hs hz h
    omega
  · exact tf_rdL hr hs hz (by omega)
theorem tf_eqv {H : Heap} {a j : Nat} {x y : Int} (h : tf_s H a j = some (.int (Int32.ofInt x))) (e : x = y) : tf_s H a j = some (.int (Int32.ofInt y)) := e ▸ h
theorem tf_rdU {H : Heap} {a : Nat} {i z : Int} (hr : tf_RO (tf_rw H a)) (hs : tf_s H a i.toNat = some (.int (Int32.ofInt z))) (hz : tf_r z) (hi : 241 ≤ i ∧ i ≤ 340) : 0 ≤ z ∧ z ≤ 3 := by
  have := hr.2.2.2.2.2.2.1 i hi.1 hi.2
  rw [tf_rw_of (by omega) hs hz] at this
  exact this
theorem tf_rdH {H : Heap} {a : Nat} {i z : Int} (hr : tf_RO (tf_rw H a)) (hs : tf_s H a i.toNat = some (.int (Int32.ofInt z))) (hz : tf_r z) (hi : 341 ≤ i ∧ i ≤ 380) : 0 ≤ z ∧ z ≤ 999 := by
  have := hr.2.2.2.2.2.2.2.1 i hi.1 hi.2
  rw [tf_rw_of (by omega) hs hz] at this
  exact this
section TFW
variable {p : Program} {l : Launch} {e : Env} {R : Room} {s : State} {m : MethodId} {args : Array Value} {below : List Frame} {meth : Method} {c : Code} {H : Heap} {locs : List Loc} {cells slots : Nat} {Q : State → Prop}
variable {cc : ByteArray} {pc : Nat} {ls : Array Slot} {rest : List Value} {g : tf_G} {M : List (Nat × Nat)} {T0 T : tf_T} {H0 : Heap} {cl : List vw_C} {tys : List (ClassId × FieldType)}
theorem tf_ROof (hW : tf_n tf_kt g M T0 H0 T H locs) {a n : Nat} (ha : T a = some (28, n)) : tf_RO (tf_rw H a) := tf_okof (f := (0, 0, 1, -2147483648, 2147483647)) (k := 28) (ai := 0) (ro := false) hW ha rfl
theorem tf_IMof (hW : tf_n tf_kt g M T0 H0 T H locs) {a n : Nat} (ha : T a = some (29, n)) : tf_RO (tf_rw H a) ∧ tf_RO (fun j => tf_rw H a (5830 + j)) := tf_okof (f := (0, 0, 2, -2147483648, 2147483647)) (k := 29) (ai := 0) (ro := false) hW ha rfl
theorem tf_rowst (hexec : p.tables.exec = Jvm.exec) (hb : c.code = cc) (hK : va_K g.1 cl tys s) (hW : tf_n tf_kt g M T0 H0 T H locs) {a n : Nat} {i x : Int} (ha : T a = some (28, n)) (ht : tys[0]? = some (g.2.1 0, .int)) (h0 : 0 ≤ i) (h1 : i < n) (hM : (28, 0) ∈ M) (hx : tf_r x) (hok : tf_RO (tf_up (tf_rw H a) i x)) (hdg : decode cc pc = .ok (.iastore, 1))
    (kk : ∀ (H' : Heap) (locs' : List Loc), tf_n tf_kt g M T0 H0 T H' locs' → tf_rw H' a = tf_up (tf_rw H a) i x → (∀ q, q ≠ a → H'[q]? = H[q]?) → W p l e R s m args below meth c H' locs' cells slots Q (F0 m (pc + 1) ls rest)) : W p l e R s m args below meth c H locs cells slots Q (F0 m pc ls (.int (Int32.ofInt x) :: .int (Int32.ofInt i) :: .ref a :: rest)) :=
  tf_rwst (f := (0, 0, 1, -2147483648, 2147483647)) (k := 28) (t0 := 0) (ai := 0) hexec hb hK hW ha rfl ht h0 h1 hM (tf_u0 hx.1 hx.2) hx hok hdg kk
theorem tf_divL {a b : Int} (ha : tf_rL a) (h0 : 0 ≤ a) (hb : tf_rL b) (h1 : 0 < b) : Int64.ofInt a / Int64.ofInt b = Int64.ofInt (a / b) := by
  have h2 := Int.ediv_nonneg h0 (Int.le_of_lt h1)
  have h3 := Int.ediv_le_self b h0
  apply Int64.toInt_inj.mp
  rw [Int64.toInt_div_of_ne_right, tf_tl ha, tf_tl hb, tf_tdiv h0, tf_tl ⟨by omega, by omega⟩]
  intro h
  have h4 := congrArg Int64.toInt h
  rw [tf_tl hb] at h4
  have h5 : (-1 : Int64).toInt = -1 := by decide
  rw [h5] at h4
  omega
theorem tf_0L : (0 : Int64) = Int64.ofInt 0 := by decide
theorem tf_eqL {a b : Int} (ha : tf_rL a) (hb : tf_rL b) : Int64.ofInt a = Int64.ofInt b ↔ a = b := by rw [← Int64.toInt_inj, tf_tl ha, tf_tl hb]
theorem tf_lrem_pos (hexec : p.tables.exec = Jvm.exec) (hb : c.code = cc) {a b : Int} (ha : tf_rL a) (h0 : 0 ≤ a) (hb2 : tf_rL b) (h1 : 0 < b) (hdg : decode cc pc = .ok (.lrem, 1)) (k : ∀ z : Int, 0 ≤ z ∧ z < b → W p l e R s m args below meth c H locs cells slots Q (F0 m (pc + 1) ls (.long (Int64.ofInt z) :: rest))) : W p l e R s m args below meth c H locs cells slots Q (F0 m pc ls (.long (Int64.ofInt b) :: .long (Int64.ofInt a) :: rest)) := by
  refine lv_lrem hexec hb hdg (by rw [tf_0L, tf_eqL hb2 ⟨by omega, by omega⟩]; omega) ?_
  rw [tf_divL ha h0 hb2 h1, ← Int64.ofInt_mul, ← Int64.ofInt_sub]
  have h2 := Int.mul_ediv_add_emod a b
  rw [Int.mul_comm] at h2
  have e : a - a / b * b = a % b := by omega
  rw [e]
  exact k _ ⟨Int.emod_nonneg a (by omega), Int.emod_lt_of_pos a h1⟩
theorem tf_ldiv_any (hexec : p.tables.exec = Jvm.exec) (hb : c.code = cc) {a b : Int} (hne : b ≠ 0) (hb2 : tf_rL b) (hdg : decode cc pc = .ok (.ldiv, 1)) (k : ∀ z : Int, tf_rL z → W p l e R s m args below meth c H locs cells slots Q (F0 m (pc + 1) ls (.long (Int64.ofInt z) :: rest))) : W p l e R s m args below meth c H locs cells slots Q (F0 m pc ls (.long (Int64.ofInt b) :: .long (Int64.ofInt a) :: rest)) := by
  refine lv_ldiv hexec hb hdg (by rw [tf_0L, tf_eqL hb2 ⟨by omega, by omega⟩]; exact hne) ?_
  refine lv_topl (fun y _ => ?_)
  obtain ⟨z, rfl, hz⟩ := tf_anyL y
  exact k z hz
end TFW
def tf_ktw : List tf_Kd := (tf_kt.set 28 (true, 0, [(0, 0, 0, -2147483648, 2147483647)], false)).set 29 (true, 0, [(0, 0, 0, -2147483648, 2147483647)], false)
def tf_sim (q q' : tf_Kd) : Prop := q' = q ∨ ∃ pid : Nat, q = (true, 0, [(0, 0, pid, -2147483648, 2147483647)], false) ∧ q' = (true, 0, [(0, 0, 0, -2147483648, 2147483647)], false)
theorem tf_ktw_cases (k : Nat) : (k = 28 ∧ tf_kt[k]? = some (true, 0, [(0, 0, 1, -2147483648, 2147483647)], false) ∧ tf_ktw[k]? = some (true, 0, [(0, 0, 0, -2147483648, 2147483647)], false)) ∨ (k = 29 ∧ tf_kt[k]? = some (true, 0, [(0, 0, 2, -2147483648, 2147483647)], false) ∧ tf_ktw[k]? = some (true, 0, [(0, 0, 0, -2147483648, 2147483647)], false)) ∨ tf_ktw[k]? = tf_kt[k]? := by
  by_cases h1 : k = 28
  · subst h1; exact Or.inl ⟨rfl, rfl, rfl⟩
  · by_cases h2 : k = 29
    · subst h2; exact Or.inr (Or.inl ⟨rfl, rfl, rfl⟩)
    · refine Or.inr (Or.inr ?_)
      unfold tf_ktw
      rw [List.getElem?_set_ne (fun h => h2 h.symm), List.getElem?_set_ne (fun h => h1 h.symm)]
theorem tf_ktw_of {k : Nat} {q : tf_Kd} (h : tf_kt[k]? = some q) : ∃ q', tf_ktw[k]? = some q' ∧ tf_sim q q' := by
  rcases tf_ktw_cases k with ⟨-, h1, h2⟩ | ⟨-, h1, h2⟩ | h1
  · cases h.symm.trans h1; exact ⟨_, h2, Or.inr ⟨1, rfl, rfl⟩⟩
  · cases h.symm.trans h1; exact ⟨_, h2, Or.inr ⟨2, rfl, rfl⟩⟩
  · exact ⟨q, by rw [h1]; exact h, Or.inl rfl⟩
theorem tf_ktw_to {k : Nat} {q' : tf_Kd} (h : tf_ktw[k]? = some q') : ∃ q, tf_kt[k]? = some q ∧ tf_sim q q' := by
  rcases tf_ktw_cases k with ⟨-, h1, h2⟩ | ⟨-, h1, h2⟩ | h1
  · cases h.symm.trans h2; exact ⟨_, h1, Or.inr ⟨1, rfl, rfl⟩⟩
  · cases h.symm.trans h2; exact ⟨_, h1, Or.inr ⟨2, rfl, rfl⟩⟩
  · exact ⟨q', by rw [← h1]; exact h, Or.inl rfl⟩
theorem tf_f_weak {g : tf_G} {M : List (Nat × Nat)} {T0 : tf_T} {H0 H : Heap} (h : tf_f tf_kt g M T0 H0 H) : tf_f tf_ktw g M T0 H0 H := by
  refine ⟨h.1, h.2.1, fun a k n q' ha hq => ?_⟩
  obtain ⟨q, h1, h2⟩ := tf_ktw_to hq
  have h3 := h.2.2 a k n q ha h1
  rcases h2 with rfl | ⟨pid, rfl, rfl⟩
  · exact h3
  · exact ⟨fun x y => h3.1 rfl y, fun x => by cases x⟩
theorem tf_f_strong {g : tf_G} {M : List (Nat × Nat)} {T0 : tf_T} {H0 H : Heap} (h : tf_f tf_ktw g M T0 H0 H) : tf_f tf_kt g M T0 H0 H := by
  refine ⟨h.1, h.2.1, fun a k n q ha hq => ?_⟩
  obtain ⟨q', h1, h2⟩ := tf_ktw_of hq
  have h3 := h.2.2 a k n q' ha h1
  rcases h2 with rfl | ⟨pid, rfl, rfl⟩
  · exact h3
  · exact ⟨fun x y => h3.1 rfl y, fun x => by cases x⟩
theorem tf_c_weak {g : tf_G} {T : tf_T} {k n : Nat} {cell : Cell} (h : tf_c tf_kt g T k n cell) : tf_c tf_ktw g T k n cell := by
  obtain ⟨q, h1, h2, h3, h4⟩ := h
  obtain ⟨q', e1, e2⟩ := tf_ktw_of h1
  rcases e2 with rfl | ⟨pid, rfl, rfl⟩
  · exact ⟨_, e1, h2, h3, h4⟩
  · obtain ⟨a1, a2, a3, a4, a5⟩ := h3 rfl
    exact ⟨_, e1, h2, fun _ => ⟨a1, a2, a3, fun j f hj hf => by cases hf; obtain ⟨v, v1, v2⟩ := a4 j _ hj rfl; exact ⟨v, v1, v2⟩, fun f hf => by cases hf; trivial⟩, fun x => by cases x⟩
theorem tf_c_strong {g : tf_G} {T : tf_T} {k n : Nat} {cell : Cell} (h : tf_c tf_ktw g T k n cell) (hok : ∀ (q : tf_Kd) (f : tf_F), tf_kt[k]? = some q → q.1 = true → q.2.2.1[0]? = some f → tf_ok f.2.2.1 (tf_cw cell)) : tf_c tf_kt g T k n cell := by
  obtain ⟨q', h1, h2, h3, h4⟩ := h
  obtain ⟨q, e1, e2⟩ := tf_ktw_to h1
  rcases e2 with rfl | ⟨pid, rfl, rfl⟩
  · exact ⟨_, e1, h2, h3, h4⟩
  · obtain ⟨a1, a2, a3, a4, a5⟩ := h3 rfl
    exact ⟨_, e1, h2, fun _ => ⟨a1, a2, a3, fun j f hj hf => by cases hf; obtain ⟨v, v1, v2⟩ := a4 j _ hj rfl; exact ⟨v, v1, v2⟩, fun f hf => hok _ f e1 rfl hf⟩, fun x => by cases x⟩
def tf_zz (g : tf_G) (T : tf_T) (b : Nat) (H : Heap) : Prop := ∃ HZ, tf_w tf_kt g T HZ ∧ ∀ q, q ≠ b → H[q]? = HZ[q]?
theorem tf_zz_in {g : tf_G} {M : List (Nat × Nat)} {T0 T : tf_T} {H0 H : Heap} {locs : List Loc} (hW : tf_n tf_kt g M T0 H0 T H locs) (b : Nat) : tf_zz g T b H := ⟨H, hW.1, fun _ _ => rfl⟩
theorem tf_zz_st {g : tf_G} {T : tf_T} {b : Nat} {H H' : Heap} (h : tf_zz g T b H) (hq : ∀ q, q ≠ b → H'[q]? = H[q]?) : tf_zz g T b H' := by
  obtain ⟨HZ, h1, h2⟩ := h
  exact ⟨HZ, h1, fun q hne => (hq q hne).trans (h2 q hne)⟩
theorem tf_weak {g : tf_G} {M : List (Nat × Nat)} {T0 T : tf_T} {H0 H : Heap} {locs : List Loc} (hW : tf_n tf_kt g M T0 H0 T H locs) : tf_n tf_ktw g M T0 H0 T H locs := by
  obtain ⟨⟨h1, h2⟩, hE, hF, hL, hB⟩ := hW
  refine ⟨⟨fun a k n ha => ?_, fun a k n q' ha hq hr => ?_⟩, hE, tf_f_weak hF, hL, hB⟩
  · obtain ⟨cell, c1, c2⟩ := h1 a k n ha
    exact ⟨cell, c1, tf_c_weak c2⟩
  · obtain ⟨q, e1, e2⟩ := tf_ktw_to hq
    rcases e2 with rfl | ⟨pid, rfl, rfl⟩
    · exact h2 a k n _ ha e1 hr
    · exact h2 a k n _ ha e1 rfl
theorem tf_strong {g : tf_G} {M : List (Nat × Nat)} {T0 T : tf_T} {H0 H : Heap} {locs : List Loc} (hW : tf_n tf_ktw g M T0 H0 T H locs) {b k n : Nat} (hZ : tf_zz g T b H) (hb : T b = some (k, n)) (hok : ∀ (q : tf_Kd) (f : tf_F), tf_kt[k]? = some q → q.1 = true → q.2.2.1[0]? = some f → tf_ok f.2.2.1 (tf_rw H b)) : tf_n tf_kt g M T0 H0 T H locs := by
  obtain ⟨⟨h1, h2⟩, hE, hF, hL, hB⟩ := hW
  obtain ⟨HZ, z1, z2⟩ := hZ
  refine ⟨⟨fun a k2 n2 ha => ?_, fun a k n q ha hq hr => ?_⟩, hE, tf_f_strong hF, hL, hB⟩
  · by_cases e : a = b
    · subst e
      obtain ⟨cell, c1, c2⟩ := h1 a _ _ ha
      have hb2 : (k, n) = (_, _) := Option.some.inj (hb.symm.trans ha)
      cases hb2
      exact ⟨cell, c1, tf_c_strong c2 (by rw [← tf_rw_cell c1]; exact hok)⟩
    · obtain ⟨cell, c1, c2⟩ := z1.1 a k2 n2 ha
      exact ⟨cell, by rw [z2 a e]; exact c1, c2⟩
  · exact z1.2 a k n q ha hq hr
theorem tf_strongR {g : tf_G} {M : List (Nat × Nat)} {T0 T : tf_T} {H0 H : Heap} {locs : List Loc} (hW : tf_n tf_ktw g M T0 H0 T H locs) {b n : Nat} (hZ : tf_zz g T b H) (hb : T b = some (28, n)) (hok : tf_RO (tf_rw H b)) : tf_n tf_kt g M T0 H0 T H locs :=
  tf_strong hW hZ hb (fun q f hq _ hf => by
    have e1 : ((true, 0, [(0, 0, 1, -2147483648, 2147483647)], false) : tf_Kd) = q := Option.some.inj hq
    subst e1
    have e2 : ((0, 0, 1, -2147483648, 2147483647) : tf_F) = f := Option.some.inj hf
    subst e2
    exact hok)
theorem tf_strongI {g : tf_G} {M : List (Nat × Nat)} {T0 T : tf_T} {H0 H : Heap} {locs : List Loc} (hW : tf_n tf_ktw g M T0 H0 T H locs) {b n : Nat} (hZ : tf_zz g T b H) (hb : T b = some (29, n)) (hok : tf_RO (tf_rw H b) ∧ tf_RO (fun j => tf_rw H b (5830 + j))) : tf_n tf_kt g M T0 H0 T H locs :=
  tf_strong hW hZ hb (fun q f hq _ hf => by
    have e1 : ((true, 0, [(0, 0, 2, -2147483648, 2147483647)], false) : tf_Kd) = q := Option.some.inj hq
    subst e1
    have e2 : ((0, 0, 2, -2147483648, 2147483647) : tf_F) = f := Option.some.inj hf
    subst e2
    exact hok)
def tf_p2 (n : Int) : Int := ((2 ^ n.toNat : Nat) : Int)
theorem tf_p2_lt {a b x : Int} (h0 : 0 ≤ a) (h1 : tf_p2 a ≤ x) (h2 : x < tf_p2 b) : a < b := by
  have h3 : tf_p2 a < tf_p2 b := by omega
  unfold tf_p2 at h3
  have h4 : 2 ^ a.toNat < 2 ^ b.toNat := by exact_mod_cast h3
  have h5 := (Nat.pow_lt_pow_iff_right (by decide)).mp h4
  omega
theorem tf_bit_fin : ∀ (n : Fin 128) (t : Fin 8), n.val < 2 ^ t.val → ((nI n.val >>> (nI t.val &&& 31)) &&& 1) = 0 := by decide +kernel
theorem tf_bit {x k z1 z2 : Int} (e1 : Int32.ofInt z1 = Int32.ofInt x >>> (Int32.ofInt k &&& 31)) (e2 : Int32.ofInt z2 = Int32.ofInt z1 &&& Int32.ofInt 1) (hz : z2 = 1) (h0 : 0 ≤ k) (h7 : k ≤ 7) (hx : 0 ≤ x) : tf_p2 k ≤ x := by
  by_cases h : tf_p2 k ≤ x
  · exact h
  · exfalso
    have h2 : x < ((2 ^ k.toNat : Nat) : Int) := by unfold tf_p2 at h; omega
    have h3 : x.toNat < 2 ^ k.toNat := by omega
    have h4 : 2 ^ k.toNat ≤ 2 ^ 7 := Nat.pow_le_pow_right (by decide) (by omega)
    have h5 := tf_bit_fin ⟨x.toNat, by omega⟩ ⟨k.toNat, by omega⟩ h3
    rw [e1, tf_nI hx, tf_nI h0, show Int32.ofInt 1 = (1 : Int32) by decide, h5] at e2
    rw [hz] at e2
    exact absurd e2 (by decide)
theorem tf_sh8_fin : ∀ m : Fin 9, (1 : Int32) <<< (nI m.val &&& 31) = nI (2 ^ m.val) := by decide +kernel
theorem tf_sh8 {m z : Int} (h0 : 0 ≤ m) (h1 : m ≤ 8) (hz : tf_r z) (e : Int32.ofInt z = Int32.ofInt 1 <<< (Int32.ofInt m &&& 31)) : z = tf_p2 m ∧ 1 ≤ z ∧ z ≤ 256 := by
  have h2 := tf_sh8_fin ⟨m.toNat, by omega⟩
  rw [tf_nI h0, show Int32.ofInt 1 = (1 : Int32) by decide, h2] at e
  have h3 : 2 ^ m.toNat ≤ 256 := by
    have : m.toNat ≤ 8 := by omega
    calc 2 ^ m.toNat ≤ 2 ^ 8 := Nat.pow_le_pow_right (by decide) this
      _ = 256 := by decide
  have h4 : 1 ≤ 2 ^ m.toNat := Nat.one_le_two_pow
  have h5 : (Int32.ofInt z).toInt = z := tf_ti hz
  have h6 : Int32.ofInt ((2 ^ m.toNat : Nat) : Int) = nI (2 ^ m.toNat) := Int32.ofInt_eq_ofNat
  rw [e, ← h6, tf_ti ⟨by omega, by omega⟩] at h5
  unfold tf_p2
  omega
def tf_bw (x w n : Int) : Prop := ∀ v, 0 ≤ v → v ≤ w → tf_p2 v ≤ x → v < n
theorem tf_bw_out {x w n : Int} (h : tf_bw x w n) (h0 : 0 ≤ w) (hb : tf_p2 w ≤ x) : tf_bw x (w + (-1)) (n - 1) := fun v v0 v1 _ => by
  have := h w h0 (Int.le_refl _) hb
  omega
theorem tf_bw_no {x w n : Int} (h : tf_bw x w n) : tf_bw x (w + (-1)) n := fun v v0 v1 v2 => h v v0 (by omega) v2
theorem tf_bw_in {x n : Int} (w : Int) (h : x < tf_p2 n) : tf_bw x w n := fun v v0 _ v2 => tf_p2_lt v0 v2 h
def tf_sm (r : Int → Int) : Nat → Int
  | 0 => 0
  | n + 1 => r (341 + (39 - (n : Int))) + tf_sm r n
def tf_Su (r : Int → Int) (k : Int) : Int := tf_sm r (40 - k).toNat
theorem tf_Su_step (r : Int → Int) {k : Int} (h0 : 0 ≤ k) (h1 : k < 40) : tf_Su r k = r (341 + k) + tf_Su r (k + 1) := by
  unfold tf_Su
  have e : (40 - k).toNat = (40 - (k + 1)).toNat + 1 := by omega
  rw [e]
  show r (341 + (39 - (((40 - (k + 1)).toNat : Nat) : Int))) + _ = _
  have e2 : (341 + (39 - (((40 - (k + 1)).toNat : Nat) : Int))) = 341 + k := by omega
  rw [e2]
theorem tf_Su_end (r : Int → Int) {k : Int} (h : k = 40) : tf_Su r k = 0 := by subst h; rfl
theorem tf_Su_lt {r : Int → Int} {k x : Int} (h0 : 0 ≤ x) (h1 : x < tf_Su r k) (h2 : k ≤ 40) : k < 40 := by
  by_cases h : k = 40
  · rw [tf_Su_end r h] at h1; omega
  · omega
theorem tf_keepC {kt : List tf_Kd} {g : tf_G} {M : List (Nat × Nat)} {T : tf_T} {H H' : Heap} {a k n ci : Nat} {fts : List tf_F} {ro : Bool} {r : Int → Int} (hF : tf_f kt g M T H H') (ha : T a = some (k, n)) (hk : kt[k]? = some (true, ci, fts, ro)) (hM : (k, 0) ∉ M) (h : tf_rw H a = r) : tf_rw H' a = r :=
  (tf_rw_eq ((hF.2.2 a k n _ ha hk).1 rfl hM)).trans h
theorem tf_keepCQ {H H' : Heap} {a : Nat} {r : Int → Int} (h : tf_rw H a = r) (hq : H'[a]? = H[a]?) : tf_rw H' a = r := (tf_rw_eq hq).trans h
theorem tf_RO_out2 {r r' : Int → Int} {w x : Int} (hr : tf_RO r) (h0 : 0 ≤ w) (h1 : w < r 3) (e : ∀ j, r' j = if 381 + 4 * w ≤ j ∧ j < 409 then r (j + 4) else r j) (hx : x = r 3 - 1) : tf_RO (tf_up r' 3 x) := hx ▸ tf_RO_out hr h0 h1 e
theorem tf_ou_st {r R : Int → Int} {b i z : Int} (h : ∀ j, R j = if b ≤ j ∧ j < i then r (j + 4) else r j) (hz : R (i + 4) = z) (hb : b ≤ i) (j : Int) : tf_up R i z j = if b ≤ j ∧ j < i + 1 then r (j + 4) else r j := by
  have h4 := h (i + 4)
  rw [if_neg (by omega), hz] at h4
  by_cases e : j = i
  · subst e
    rw [tf_up_at, if_pos (by omega), h4]
  · rw [tf_up_ne e, h j]
    by_cases c : b ≤ j ∧ j < i
    · rw [if_pos c, if_pos (by omega)]
    · rw [if_neg c, if_neg (by omega)]
def tf_im (q r : Int → Int) (k i : Int) (R : Int → Int) : Prop := ∀ j, R j = if 5830 * k ≤ j ∧ j < 5830 * k + i then r (j - 5830 * k) else q j
theorem tf_im_st {q r R : Int → Int} {k i z : Int} (h : tf_im q r k i R) (hz : r i = z) (h0 : 0 ≤ i) : tf_im q r k (i + 1) (tf_up R (5830 * k + i) z) := by
  intro j
  by_cases e : j = 5830 * k + i
  · subst e
    rw [tf_up_at, if_pos (by omega), show 5830 * k + i - 5830 * k = i by omega, hz]
  · rw [tf_up_ne e, h j]
    by_cases c : 5830 * k ≤ j ∧ j < 5830 * k + i
    · rw [if_pos c, if_pos (by omega)]
    · rw [if_neg c, if_neg (by omega)]
theorem tf_im_end {q r R : Int → Int} {k i : Int} (h : tf_im q r k i R) (hq : tf_RO q ∧ tf_RO (fun j => q (5830 + j))) (hr : tf_RO r) (hk : k = 0 ∨ k = 1) (hi : i = 5830) : tf_RO R ∧ tf_RO (fun j => R (5830 + j)) := by
  subst hi
  rcases hk with rfl | rfl
  · refine ⟨tf_RO_congr hr (fun j h0 h1 => ?_), tf_RO_congr hq.2 (fun j h0 h1 => ?_)⟩
    · rw [h j, if_pos (by omega)]; congr 1; omega
    · show R (5830 + j) = q (5830 + j)
      rw [h, if_neg (by omega)]
  · refine ⟨tf_RO_congr hq.1 (fun j h0 h1 => ?_), tf_RO_congr hr (fun j h0 h1 => ?_)⟩
    · rw [h j, if_neg (by omega)]
    · show R (5830 + j) = r j
      rw [h, if_pos (by omega)]; congr 1; omega
def tf_bk (r q : Int → Int) (k i : Int) (R : Int → Int) : Prop := ∀ j, R j = if 0 ≤ j ∧ j < i then q (5830 * k + j) else r j
theorem tf_bk_st {q r R : Int → Int} {k i z : Int} (h : tf_bk r q k i R) (hz : q (5830 * k + i) = z) (h0 : 0 ≤ i) : tf_bk r q k (i + 1) (tf_up R i z) := by
  intro j
  by_cases e : j = i
  · subst e
    rw [tf_up_at, if_pos (by omega), hz]
  · rw [tf_up_ne e, h j]
    by_cases c : 0 ≤ j ∧ j < i
    · rw [if_pos c, if_pos (by omega)]
    · rw [if_neg c, if_neg (by omega)]
theorem tf_bk_end {q r R : Int → Int} {k i : Int} (h : tf_bk r q k i R) (hq : tf_RO q ∧ tf_RO (fun j => q (5830 + j))) (hk : k = 0 ∨ k = 1) (hi : i = 5830) : tf_RO R := by
  subst hi
  rcases hk with rfl | rfl
  · refine tf_RO_congr hq.1 (fun j h0 h1 => ?_)
    rw [h j, if_pos (by omega)]; congr 1; omega
  · refine tf_RO_congr hq.2 (fun j h0 h1 => ?_)
    rw [h j, if_pos (by omega)]; congr 1

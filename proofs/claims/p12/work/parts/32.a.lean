abbrev M_law : List (Nat × Nat) := [(0, 0), (1, 0), (2, 0), (3, 0), (4, 0), (5, 0), (6, 0), (7, 0), (8, 0), (9, 0), (10, 0), (11, 0), (12, 0), (13, 0), (14, 0), (19, 1), (19, 4), (19, 5), (19, 6), (19, 7), (20, 8), (20, 9), (20, 11), (21, 2), (21, 3), (21, 4), (22, 4), (23, 2), (23, 3), (23, 4), (23, 5), (23, 6), (23, 7), (23, 8), (23, 9), (23, 10), (24, 5), (25, 4), (26, 7), (26, 8), (26, 9), (26, 11), (26, 13), (27, 0), (28, 0), (29, 0), (30, 0), (31, 0), (32, 0), (33, 0), (34, 0), (35, 0), (36, 0), (37, 0), (38, 0), (39, 0), (40, 0), (41, 0), (42, 0), (43, 0), (44, 0), (45, 0), (46, 0), (47, 0), (48, 0), (49, 0), (50, 0), (50, 1), (50, 6), (50, 8), (50, 9), (50, 10), (50, 11), (50, 12), (50, 13), (50, 14), (50, 15), (50, 17), (50, 20), (50, 23), (50, 24), (50, 26), (50, 29), (50, 30), (50, 31), (50, 37), (50, 38), (50, 39), (50, 40), (50, 41), (50, 42), (50, 48), (50, 49), (51, 0), (51, 1), (51, 2), (51, 3), (52, 0), (52, 1), (53, 0), (53, 1), (53, 2), (53, 3), (53, 4), (53, 5), (53, 6), (53, 7), (54, 0), (54, 1), (54, 2), (54, 3), (54, 4), (54, 5), (54, 6), (54, 7), (54, 8), (54, 9), (54, 10), (54, 11), (55, 0), (55, 1), (55, 2), (55, 3), (55, 4), (56, 0), (56, 1), (56, 2), (56, 3), (56, 4), (57, 0), (57, 1), (57, 2), (57, 3), (57, 4), (57, 5), (57, 6), (57, 7), (57, 8), (57, 9), (57, 10), (58, 0), (58, 1), (58, 2), (58, 3), (58, 4), (58, 5), (59, 0), (59, 1), (59, 2), (59, 3), (59, 4), (60, 0), (60, 1), (60, 2), (60, 3), (60, 4), (60, 5), (60, 6), (60, 7), (60, 8), (60, 9), (60, 10), (60, 11), (60, 12), (60, 13), (61, 2), (61, 3), (61, 4), (61, 5), (61, 7), (61, 13), (61, 16), (61, 18), (61, 19), (61, 21), (61, 22), (61, 25), (61, 27), (61, 28), (61, 32), (61, 33), (61, 34), (61, 35), (61, 36), (61, 43), (61, 44), (61, 45), (61, 46), (61, 47)]
theorem lw_R1 : 2048 ≤ room_1.frames := by decide
theorem lw_R2 : 84000 ≤ room_1.locals := by decide
theorem lw_R3 : 600000 ≤ room_1.cells := by decide
theorem lw_R4 : 7302250 ≤ room_1.slots := by decide
def lw_E (p : Program) (s : State) (m : MethodId) (c : Code) (b L : Nat) (g : tf_G) (sx : Int → Int) : Prop := p.tables.exec = Jvm.exec ∧ c.code = code ∧ c.maxLocals = 4 ∧ s.vm.findClass RL = some m.cls ∧ (∀ w ∈ wsL_law, w.before #[Value.ref b] s = true) ∧ b < s.heap.size ∧ tf_k g s ∧ tf_B g = s.heap.size ∧ (∀ j : Int, tf_r (sx j)) ∧ va_X b L (fun j => Int32.ofInt (sx (j : Int))) s s.heap ∧ L ≤ 3072
section LWR
variable {p : Program} {l : Launch} {e : Env} {R : Room} {s : State} {m : MethodId} {args : Array Value} {below : List Frame} {meth : Method} {c : Code} {H : Heap} {locs : List Loc} {cells slots : Nat} {Q : State → Prop}
variable {cc : ByteArray} {pc : Nat} {ls : Array Slot} {rest : List Value} {g : tf_G} {M : List (Nat × Nat)} {T0 T : tf_T}
theorem lw_S (hW : tf_n tf_kt g M T0 s.heap T H locs) : va_S (fun q => tf_B g ≤ q) s.heap H locs := ⟨hW.2.2.1.1, fun q h1 h2 => hW.2.2.1.2.1 q h1 (Or.inl (Nat.not_le.mp h2)), hW.2.2.2.1⟩
theorem lw_sld (hexec : p.tables.exec = Jvm.exec) (hb : c.code = cc) {b L : Nat} {sx : Int → Int} (hX : va_X b L (fun j => Int32.ofInt (sx (j : Int))) s s.heap) (hbl : b < s.heap.size) (hB : tf_B g = s.heap.size) (hL : L ≤ 3072) (hW : tf_n tf_kt g M T0 s.heap T H locs) {i : Int} (h0 : 0 ≤ i) (h1 : i < L) (hdg : decode cc pc = .ok (.iaload, 1))
    (kk : W p l e R s m args below meth c H locs cells slots Q (F0 m (pc + 1) ls (.int (Int32.ofInt (sx i)) :: rest))) : W p l e R s m args below meth c H locs cells slots Q (F0 m pc ls (.int (Int32.ofInt i) :: .ref b :: rest)) := by
  have hcl : (Int32.ofInt i).toNatClampNeg = i.toNat := tf_cl ⟨by omega, by omega⟩ h0
  refine va_sld hexec hb hX hbl (A := fun q => tf_B g ≤ q) (by show ¬ tf_B g ≤ b; omega) (lw_S hW) (tf_in (by omega) h0 h1) hdg ?_
  rw [hcl, show ((i.toNat : Nat) : Int) = i by omega]
  exact kk
theorem lw_sln (hexec : p.tables.exec = Jvm.exec) (hb : c.code = cc) {b L : Nat} {xs : Nat → Int32} (hX : va_X b L xs s s.heap) (hbl : b < s.heap.size) (hB : tf_B g = s.heap.size) (hW : tf_n tf_kt g M T0 s.heap T H locs) (hdg : decode cc pc = .ok (.arraylength, 1))
    (kk : W p l e R s m args below meth c H locs cells slots Q (F0 m (pc + 1) ls (.int (Int32.ofInt (L : Int)) :: rest))) : W p l e R s m args below meth c H locs cells slots Q (F0 m pc ls (.ref b :: rest)) := by
  refine va_slen hexec hb hX hbl (A := fun q => tf_B g ≤ q) (by show ¬ tf_B g ≤ b; omega) (lw_S hW) hdg ?_
  rw [← Int32.ofInt_eq_ofNat]
  exact kk
theorem tf_newD (hexec : p.tables.exec = Jvm.exec) (hb : c.code = cc) {own C : String} {Tb : u_T} {N ci index : Nat} {Ts : List Cond} {H0 : Heap} {cl : List vw_C} {tys : List (ClassId × FieldType)} (hts : ∀ w ∈ Ts, w.before args s = true) (hin : ∀ w ∈ u_ws C Tb N, w ∈ Ts) (ty : Nat → FieldType) (hty : ∀ k, k < N → parseFieldDescriptor (Tb k).2.2.1 = some (ty k)) (hown : s.vm.findClass own = some m.cls) (hcl : (Cond.classLink own index C).before args s = true) (hinst : (Cond.instantiable C N).before args s = true) (hini : (Cond.initialized C).before args s = true)
    (hK : va_K g.1 cl tys s) (hc : cl[ci]? = some (C, Tb, N)) (hW : tf_n tf_kt g M T0 H0 T H locs) {kr : Nat} {fr : List tf_F} (hkr : tf_kt[kr]? = some (false, ci, fr, false)) (hfr : fr.length = N ∧ ∀ f ∈ fr, f.1 = 6) (hcells : cells + 1 ≤ R.cells) (hslots : slots + N ≤ R.slots) (hdg : decode cc pc = .ok (.new index, 3))
    (kk : ∀ (q : Nat) (H' : Heap) (T' : tf_T), H.size = q → T' = tf_set T q (kr, 0) → T' q = some (kr, 0) → (∀ b x, T b = some x → T' b = some x) → tf_n tf_kt g M T0 H0 T' H' locs → (∀ b x, T b = some x → H'[b]? = H[b]?) → (∀ j, j < N → tf_s H' q (g.1.2 ci j) = some (defaultValue (ty j))) → W p l e R s m args below meth c H' locs (cells + 1) (slots + N) Q (F0 m (pc + 3) ls (.ref q :: rest))) : W p l e R s m args below meth c H locs cells slots Q (F0 m pc ls rest) := by
  have hKn := hK.1 ci _ hc
  refine W.newcK hexec hb hown hcl hinst hini rfl hdg hcells hslots hKn.2.1 rfl fun H1 kC hkC e1 z1 o1 => ?_
  have hT := hW.1.none
  obtain ⟨cell, b1, b2, b3, b4⟩ := u_born ty hts hin hKn hkC e1 hty
  refine kk H.size H1 _ rfl rfl tf_set_at (fun b x h => by rw [tf_set_ne (by rintro rfl; rw [hT] at h; cases h)]; exact h) (hW.grow e1 z1 o1 ?_) (fun b x h => o1 b (hW.1.lt h)) (fun j hj => by unfold tf_s; rw [b1]; exact b4 j hj)
  cases e1.symm.trans b1
  refine ⟨_, hkr, b3, fun h => (by cases h), fun _ => ⟨b2, fun j f hj => ?_⟩⟩
  have hj2 : j < N := by rw [← hfr.1]; exact (List.getElem?_eq_some_iff.mp hj).1
  refine ⟨_, b4 j hj2, ?_⟩
  have h6 := hfr.2 f (List.mem_of_getElem? hj)
  obtain ⟨tag, k, mm, lo, hi⟩ := f
  dsimp only at h6
  subst h6
  exact trivial
end LWR
theorem lw_d0 : some (defaultValue .int) = some (Value.int (Int32.ofInt 0)) := by show some (Value.int 0) = _; rw [tf_0]
theorem lw_dz : some (defaultValue .boolean) = some (Value.int (Int32.ofInt 0)) := by show some (Value.int 0) = _; rw [tf_0]
theorem lw_dl : some (defaultValue .long) = some (Value.long (Int64.ofInt 0)) := by show some (Value.long 0) = _; rw [tf_0L]
def lw_nx (p : Program) (l : Launch) (e : Env) (s : State) (m : MethodId) (below : List Frame) (meth : Method) (c : Code) (b : Nat) (g : tf_G) (ax am im kp jj : Nat) (ii : Int) (Q : State → Prop) : Prop := ∀ (T : tf_T) (H : Heap) (locs : List Loc), tf_n tf_kt g M_law (fun _ => none) s.heap T H locs → T ax = some (26, 0) → T am = some (50, 0) → ∀ (tt uu : Int), (0 ≤ tt ∧ tt ≤ 400) → tf_r uu → tf_s H ax (g.1.2 9 7) = some (.int (Int32.ofInt tt)) → tf_s H ax (g.1.2 9 8) = some (.int (Int32.ofInt uu)) → tf_s H am (g.1.2 10 8) = some (.int (Int32.ofInt tt)) → tf_s H am (g.1.2 10 6) = some (.int (Int32.ofInt uu)) → T im = some (14, 2) → T kp = some (30, 2) → ∀ (rn rk : Int → Int), rn 0 = rk 0 → rn 1 = rk 1 → tf_s H ax (g.1.2 9 1) = some (.ref im) → tf_s H am (g.1.2 10 5) = some (.ref kp) → tf_nl H im = rn → tf_rw H kp = rk → ∀ ls, lv_has ls 4 [(3, .int (Int32.ofInt ii)), (2, .ref am), (1, .ref ax), (0, .ref b)] → W p l e room_1 s m #[Value.ref b] below meth c H locs (130 + 30 * jj) (31200 + 1200 * jj) Q (F0 m 1498 ls [])

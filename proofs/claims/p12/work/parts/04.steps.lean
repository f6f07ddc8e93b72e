section TFS
variable {p : Program} {l : Launch} {e : Env} {R : Room} {s : State} {m : MethodId} {args : Array Value} {below : List Frame} {meth : Method} {c : Code} {H : Heap} {locs : List Loc} {cells slots : Nat} {Q : State → Prop}
variable {cc : ByteArray} {pc : Nat} {ls : Array Slot} {rest : List Value} {kt : List tf_Kd} {g : tf_G} {M : List (Nat × Nat)} {T0 T : tf_T} {H0 : Heap} {cl : List vw_C} {tys : List (ClassId × FieldType)}
theorem tf_get (hexec : p.tables.exec = Jvm.exec) (hb : c.code = cc) {own C : String} {Tb : u_T} {N ci index : Nat} {Ts : List Cond} (hts : ∀ w ∈ Ts, w.before args s = true) (hin : ∀ w ∈ u_ws C Tb N, w ∈ Ts) (hown : s.vm.findClass own = some m.cls) (hK : va_K g.1 cl tys s) (hc : cl[ci]? = some (C, Tb, N)) (hW : tf_n kt g M T0 H0 T H locs) {a k n : Nat} (ha : T a = some (k, n)) {fts : List tf_F} {ro : Bool} (hk : kt[k]? = some (false, ci, fts, ro)) (j : Nat) {f : tf_F} (hj : fts[j]? = some f) (hjN : j < N)
    (hlink : (Cond.fieldLink own index (Tb j).1 (Tb j).2.1 (Tb j).2.2.1).before args s = true) (hdg : decode cc pc = .ok (.getfield index, 3))
    (kk : ∀ v, tf_v T n f v → tf_s H a (g.1.2 ci j) = some v → W p l e R s m args below meth c H locs cells slots Q (F0 m (pc + 3) ls (v :: rest))) : W p l e R s m args below meth c H locs cells slots Q (F0 m pc ls (.ref a :: rest)) := by
  obtain ⟨cell, q1, q, q2, q3, -, q5⟩ := hW.1.1 a k n ha
  cases hk.symm.trans q2
  obtain ⟨v, hv, hok⟩ := (q5 rfl).2 j f hj
  obtain ⟨hS, hfc, kC, hkC, hkind⟩ := hK.1 ci _ hc
  obtain ⟨cf, kf, fi, fd, hi, hsl⟩ := hS j hjN
  refine W.getf hexec hb hown hlink hi (u_facts hfc hkC (u_lays hts hin hjN) hi).1 q1 (by rw [q3]; exact fun h => by cases h) (v := v) (by rw [hsl]; exact hv) rfl rfl hdg (kk v hok ?_)
  unfold tf_s
  rw [q1]
  exact hv
theorem tf_put (hexec : p.tables.exec = Jvm.exec) (hb : c.code = cc) {own C : String} {Tb : u_T} {N ci index : Nat} {Ts : List Cond} (hts : ∀ w ∈ Ts, w.before args s = true) (hin : ∀ w ∈ u_ws C Tb N, w ∈ Ts) (ty0 : Nat → FieldType) (hty : ∀ k, k < N → parseFieldDescriptor (Tb k).2.2.1 = some (ty0 k)) (hnm : ∀ a, a < N → ∀ b, b < N → a ≠ b → (Tb a).2.1 ≠ (Tb b).2.1) (hown : s.vm.findClass own = some m.cls) (hK : va_K g.1 cl tys s) (hc : cl[ci]? = some (C, Tb, N)) (hW : tf_n kt g M T0 H0 T H locs) {a k n : Nat} (ha : T a = some (k, n)) {fts : List tf_F} (hk : kt[k]? = some (false, ci, fts, false)) (hlen : fts.length = N) (j : Nat) {f : tf_F} (hj : fts[j]? = some f) (hjN : j < N) (hM : (k, j) ∈ M)
    (hlink : (Cond.fieldLink own index (Tb j).1 (Tb j).2.1 (Tb j).2.2.1).before args s = true) (hfin : (Tb j).2.2.2 = false) {v : Value} (hv : tf_v T n f v) (hn : narrow (ty0 j) v = v) (hfit : fits (ty0 j) v = true) (hdg : decode cc pc = .ok (.putfield index, 3))
    (kk : ∀ (H' : Heap) (locs' : List Loc), tf_n kt g M T0 H0 T H' locs' → tf_s H' a (g.1.2 ci j) = some v → (∀ x, x < N → x ≠ j → tf_s H' a (g.1.2 ci x) = tf_s H a (g.1.2 ci x)) → (∀ q, q ≠ a → H'[q]? = H[q]?) → W p l e R s m args below meth c H' locs' cells slots Q (F0 m (pc + 3) ls rest)) : W p l e R s m args below meth c H locs cells slots Q (F0 m pc ls (v :: .ref a :: rest)) := by
  have hap := va_apart (D := g.1) (own := own) hts hin ty0 hty hnm hK hc
  obtain ⟨cell, q1, q, q2, q3, -, q5⟩ := hW.1.1 a k n ha
  cases hk.symm.trans q2
  obtain ⟨w, hw, -⟩ := (q5 rfl).2 j f hj
  obtain ⟨hS, hfc, kC, hkC, hkind⟩ := hK.1 ci _ hc
  obtain ⟨cf, kf, fi, fd, hi, hsl⟩ := hS j hjN
  have hlay := hts _ (hin _ (u_in_lay hjN))
  unfold u_lay at hlay
  rw [if_neg (by rw [hfin]; decide)] at hlay
  have hst := (u_facts hfc hkC (u_lays hts hin hjN) hi).1
  have h6 := u_store hfc hkC hkind hlay hi (hty j hjN) hn hfit
  refine W.putK hexec hb (f := fd) ⟨hown, hlink, ⟨_, _, _, hi⟩, hst⟩ (by rw [(q5 rfl).1]; exact h6) q1 q3 (by rw [hsl]; exact k2_hasslot hw) rfl rfl hdg fun H' e1 e2 e3 => ?_
  rw [hsl] at e1 ⊢
  refine kk H' _ (hW.obj ha hk hM (by rw [hlen]; exact hap) hj hv q1 e1 e2 e3) ?_ (fun x hx hne => ?_) e3
  · unfold tf_s
    rw [e1]
    exact Cell.slots_setSlot_self v (k2_hasslot hw)
  · unfold tf_s
    rw [e1, q1]
    exact slot_ne _ _ (hap j x hjN hx (fun z => hne z.symm))
theorem tf_cellA (hW : tf_n kt g M T0 H0 T H locs) {a k n ai : Nat} (ha : T a = some (k, n)) {fts : List tf_F} {ro : Bool} (hk : kt[k]? = some (true, ai, fts, ro)) {ty : FieldType} (hK : va_K g.1 cl tys s) {t0 : Nat} (ht : tys[t0]? = some (g.2.1 ai, ty)) :
    ∃ cell : Cell, H[a]? = some cell ∧ s.isArrayOf cell ty ∧ cell.vm = .none ∧ cell.slots.size = n ∧ n < 2147483648 ∧ ∀ (j : Nat) (f : tf_F), j < n → fts[0]? = some f → ∃ v, cell.slots[j]? = some v ∧ tf_v T n f v := by
  obtain ⟨cell, q1, q, q2, q3, q4, -⟩ := hW.1.1 a k n ha
  cases hk.symm.trans q2
  obtain ⟨e1, e2, e3, e4, -⟩ := q4 rfl
  refine ⟨cell, q1, ?_, q3, e2, e3, e4⟩
  obtain ⟨-, kA, h2, comp, h3⟩ := (hK.2 t0 _ ht).1 0 (fun _ => .null)
  exact ⟨fun k h => (by rw [q3] at h; cases h), kA, by rw [e1]; exact h2, comp, h3⟩
theorem tf_alen (hexec : p.tables.exec = Jvm.exec) (hb : c.code = cc) (hK : va_K g.1 cl tys s) (hW : tf_n kt g M T0 H0 T H locs) {a k n ai t0 : Nat} (ha : T a = some (k, n)) {fts : List tf_F} {ro : Bool} (hk : kt[k]? = some (true, ai, fts, ro)) {ty : FieldType} (ht : tys[t0]? = some (g.2.1 ai, ty)) (hdg : decode cc pc = .ok (.arraylength, 1))
    (kk : n < 2147483648 → W p l e R s m args below meth c H locs cells slots Q (F0 m (pc + 1) ls (.int (Int32.ofInt n) :: rest))) : W p l e R s m args below meth c H locs cells slots Q (F0 m pc ls (.ref a :: rest)) := by
  obtain ⟨cell, q1, q2, q3, q4, q5, -⟩ := tf_cellA hW ha hk hK ht
  exact W.alen (n := Int32.ofInt n) hexec hb q1 q2 (by rw [q4]; exact (Int32.ofInt_eq_ofNat (n := n)).symm) rfl rfl hdg (kk q5)
theorem tf_iald (hexec : p.tables.exec = Jvm.exec) (hb : c.code = cc) (hK : va_K g.1 cl tys s) (hW : tf_n kt g M T0 H0 T H locs) {a k n ai t0 : Nat} {i : Int} (ha : T a = some (k, n)) {f : tf_F} {ro : Bool} (hk : kt[k]? = some (true, ai, [f], ro)) (ht : tys[t0]? = some (g.2.1 ai, .int)) (h0 : 0 ≤ i) (h1 : i < n) (hdg : decode cc pc = .ok (.iaload, 1))
    (kk : ∀ v, tf_v T n f v → tf_s H a i.toNat = some v → W p l e R s m args below meth c H locs cells slots Q (F0 m (pc + 1) ls (v :: rest))) : W p l e R s m args below meth c H locs cells slots Q (F0 m pc ls (.int (Int32.ofInt i) :: .ref a :: rest)) := by
  obtain ⟨cell, q1, q2, q3, q4, q5, q6⟩ := tf_cellA hW ha hk hK ht
  obtain ⟨v, hv, hok⟩ := q6 i.toNat f (by omega) rfl
  have hcl : (Int32.ofInt i).toNatClampNeg = i.toNat := tf_cl ⟨by omega, by omega⟩ h0
  refine W.iald (v := v) hexec hb q1 q2 (by rw [q3]; exact fun h => by cases h) (by rw [q4]; exact tf_in q5 h0 h1) (by rw [hcl]; exact hv) rfl rfl hdg (kk v hok ?_)
  unfold tf_s
  rw [q1]
  exact hv
theorem tf_lald (hexec : p.tables.exec = Jvm.exec) (hb : c.code = cc) (hK : va_K g.1 cl tys s) (hW : tf_n kt g M T0 H0 T H locs) {a k n ai t0 : Nat} {i : Int} (ha : T a = some (k, n)) {f : tf_F} {ro : Bool} (hk : kt[k]? = some (true, ai, [f], ro)) (ht : tys[t0]? = some (g.2.1 ai, .long)) (h0 : 0 ≤ i) (h1 : i < n) (hdg : decode cc pc = .ok (.laload, 1))
    (kk : ∀ v, tf_v T n f v → tf_s H a i.toNat = some v → W p l e R s m args below meth c H locs cells slots Q (F0 m (pc + 1) ls (v :: rest))) : W p l e R s m args below meth c H locs cells slots Q (F0 m pc ls (.int (Int32.ofInt i) :: .ref a :: rest)) := by
  obtain ⟨cell, q1, q2, q3, q4, q5, q6⟩ := tf_cellA hW ha hk hK ht
  obtain ⟨v, hv, hok⟩ := q6 i.toNat f (by omega) rfl
  have hcl : (Int32.ofInt i).toNatClampNeg = i.toNat := tf_cl ⟨by omega, by omega⟩ h0
  refine W.lald (v := v) hexec hb q1 q2 (by rw [q3]; exact fun h => by cases h) (by rw [q4]; exact tf_in q5 h0 h1) (by rw [hcl]; exact hv) rfl rfl hdg (kk v hok ?_)
  unfold tf_s
  rw [q1]
  exact hv
theorem tf_zald (hexec : p.tables.exec = Jvm.exec) (hb : c.code = cc) (hK : va_K g.1 cl tys s) (hW : tf_n kt g M T0 H0 T H locs) {a k n ai t0 : Nat} {i : Int} (ha : T a = some (k, n)) {f : tf_F} {ro : Bool} (hk : kt[k]? = some (true, ai, [f], ro)) (ht : tys[t0]? = some (g.2.1 ai, .boolean)) (h0 : 0 ≤ i) (h1 : i < n) (hdg : decode cc pc = .ok (.baload, 1))
    (kk : ∀ v, tf_v T n f v → tf_s H a i.toNat = some v → W p l e R s m args below meth c H locs cells slots Q (F0 m (pc + 1) ls (v :: rest))) : W p l e R s m args below meth c H locs cells slots Q (F0 m pc ls (.int (Int32.ofInt i) :: .ref a :: rest)) := by
  obtain ⟨cell, q1, q2, q3, q4, q5, q6⟩ := tf_cellA hW ha hk hK ht
  obtain ⟨v, hv, hok⟩ := q6 i.toNat f (by omega) rfl
  have hcl : (Int32.ofInt i).toNatClampNeg = i.toNat := tf_cl ⟨by omega, by omega⟩ h0
  refine W.zald (v := v) hexec hb q1 q2 (by rw [q3]; exact fun h => by cases h) (by rw [q4]; exact tf_in q5 h0 h1) (by rw [hcl]; exact hv) rfl rfl hdg (kk v hok ?_)
  unfold tf_s
  rw [q1]
  exact hv
theorem tf_bald (hexec : p.tables.exec = Jvm.exec) (hb : c.code = cc) (hK : va_K g.1 cl tys s) (hW : tf_n kt g M T0 H0 T H locs) {a k n ai t0 : Nat} {i : Int} (ha : T a = some (k, n)) {f : tf_F} {ro : Bool} (hk : kt[k]? = some (true, ai, [f], ro)) (ht : tys[t0]? = some (g.2.1 ai, .byte)) (h0 : 0 ≤ i) (h1 : i < n) (hdg : decode cc pc = .ok (.baload, 1))
    (kk : ∀ v, tf_v T n f v → tf_s H a i.toNat = some v → W p l e R s m args below meth c H locs cells slots Q (F0 m (pc + 1) ls (v :: rest))) : W p l e R s m args below meth c H locs cells slots Q (F0 m pc ls (.int (Int32.ofInt i) :: .ref a :: rest)) := by
  obtain ⟨cell, q1, q2, q3, q4, q5, q6⟩ := tf_cellA hW ha hk hK ht
  obtain ⟨v, hv, hok⟩ := q6 i.toNat f (by omega) rfl
  have hcl : (Int32.ofInt i).toNatClampNeg = i.toNat := tf_cl ⟨by omega, by omega⟩ h0
  refine W.bald (v := v) hexec hb q1 q2 (by rw [q3]; exact fun h => by cases h) (by rw [q4]; exact tf_in q5 h0 h1) (by rw [hcl]; exact hv) rfl rfl hdg (kk v hok ?_)
  unfold tf_s
  rw [q1]
  exact hv
theorem tf_aald (hexec : p.tables.exec = Jvm.exec) (hb : c.code = cc) (hK : va_K g.1 cl tys s) (hW : tf_n kt g M T0 H0 T H locs) {a k n ai t0 : Nat} {i : Int} (ha : T a = some (k, n)) {f : tf_F} {ro : Bool} (hk : kt[k]? = some (true, ai, [f], ro)) {ty : FieldType} (ht : tys[t0]? = some (g.2.1 ai, ty)) (href : ty.isReference = true) (h0 : 0 ≤ i) (h1 : i < n) (hdg : decode cc pc = .ok (.aaload, 1))
    (kk : ∀ v, tf_v T n f v → tf_s H a i.toNat = some v → W p l e R s m args below meth c H locs cells slots Q (F0 m (pc + 1) ls (v :: rest))) : W p l e R s m args below meth c H locs cells slots Q (F0 m pc ls (.int (Int32.ofInt i) :: .ref a :: rest)) := by
  obtain ⟨cell, q1, q2, q3, q4, q5, q6⟩ := tf_cellA hW ha hk hK ht
  obtain ⟨v, hv, hok⟩ := q6 i.toNat f (by omega) rfl
  have hcl : (Int32.ofInt i).toNatClampNeg = i.toNat := tf_cl ⟨by omega, by omega⟩ h0
  refine W.aald (v := v) hexec hb q1 q2 href (by rw [q3]; exact fun h => by cases h) (by rw [q4]; exact tf_in q5 h0 h1) (by rw [hcl]; exact hv) rfl rfl hdg (kk v hok ?_)
  unfold tf_s
  rw [q1]
  exact hv
theorem tf_iast (hexec : p.tables.exec = Jvm.exec) (hb : c.code = cc) (hK : va_K g.1 cl tys s) (hW : tf_n kt g M T0 H0 T H locs) {a k n ai t0 : Nat} {i x : Int} (ha : T a = some (k, n)) {f : tf_F} (hk : kt[k]? = some (true, ai, [f], false)) (ht : tys[t0]? = some (g.2.1 ai, .int)) (h0 : 0 ≤ i) (h1 : i < n) (hM : (k, 0) ∈ M) (hv : tf_v T n f (.int (Int32.ofInt x))) (hdg : decode cc pc = .ok (.iastore, 1))
    (kk : ∀ (H' : Heap) (locs' : List Loc), tf_n kt g M T0 H0 T H' locs' → tf_s H' a i.toNat = some (.int (Int32.ofInt x)) → (∀ j, j ≠ i.toNat → tf_s H' a j = tf_s H a j) → (∀ q, q ≠ a → H'[q]? = H[q]?) → W p l e R s m args below meth c H' locs' cells slots Q (F0 m (pc + 1) ls rest)) (hp0 : f.2.2.1 = 0 := by rfl) : W p l e R s m args below meth c H locs cells slots Q (F0 m pc ls (.int (Int32.ofInt x) :: .int (Int32.ofInt i) :: .ref a :: rest)) := by
  obtain ⟨cell, q1, q2, q3, q4, q5, q6⟩ := tf_cellA hW ha hk hK ht
  have hcl : (Int32.ofInt i).toNatClampNeg = i.toNat := tf_cl ⟨by omega, by omega⟩ h0
  have hlt : i.toNat < cell.slots.size := by rw [q4]; omega
  refine W.iast hexec hb q1 q2 (by rw [q3]; exact fun h => by cases h) (by rw [q4]; exact tf_in q5 h0 h1) rfl rfl hdg fun H' e1 e2 e3 => ?_
  rw [hcl] at e1 ⊢
  refine kk H' _ (hW.arr (cell' := cell.setSlot i.toNat _) ha hk hM q1 q3 rfl (by simp [Cell.setSlot]) (fun j f2 hj hf => ?_) e1 e2 e3 (fun f2 hf => by cases hf; rw [hp0]; trivial)) ?_ (fun j hj => ?_) e3
  · by_cases e : j = i.toNat
    · subst e
      cases hf
      exact ⟨_, Cell.slots_setSlot_self _ hlt, hv⟩
    · rw [slot_ne _ _ (fun z => e z.symm)]
      exact q6 j f2 hj hf
  · unfold tf_s
    rw [e1]
    exact Cell.slots_setSlot_self _ hlt
  · unfold tf_s
    rw [e1, q1]
    exact slot_ne _ _ (fun z => hj z.symm)
theorem tf_last (hexec : p.tables.exec = Jvm.exec) (hb : c.code = cc) (hK : va_K g.1 cl tys s) (hW : tf_n kt g M T0 H0 T H locs) {a k n ai t0 : Nat} {i x : Int} (ha : T a = some (k, n)) {f : tf_F} (hk : kt[k]? = some (true, ai, [f], false)) (ht : tys[t0]? = some (g.2.1 ai, .long)) (h0 : 0 ≤ i) (h1 : i < n) (hM : (k, 0) ∈ M) (hv : tf_v T n f (.long (Int64.ofInt x))) (hdg : decode cc pc = .ok (.lastore, 1))
    (kk : ∀ (H' : Heap) (locs' : List Loc), tf_n kt g M T0 H0 T H' locs' → tf_s H' a i.toNat = some (.long (Int64.ofInt x)) → (∀ j, j ≠ i.toNat → tf_s H' a j = tf_s H a j) → (∀ q, q ≠ a → H'[q]? = H[q]?) → W p l e R s m args below meth c H' locs' cells slots Q (F0 m (pc + 1) ls rest)) (hp0 : f.2.2.1 = 0 := by rfl) : W p l e R s m args below meth c H locs cells slots Q (F0 m pc ls (.long (Int64.ofInt x) :: .int (Int32.ofInt i) :: .ref a :: rest)) := by
  obtain ⟨cell, q1, q2, q3, q4, q5, q6⟩ := tf_cellA hW ha hk hK ht
  have hcl : (Int32.ofInt i).toNatClampNeg = i.toNat := tf_cl ⟨by omega, by omega⟩ h0
  have hlt : i.toNat < cell.slots.size := by rw [q4]; omega
  refine W.last hexec hb q1 q2 (by rw [q3]; exact fun h => by cases h) (by rw [q4]; exact tf_in q5 h0 h1) rfl rfl hdg fun H' e1 e2 e3 => ?_
  rw [hcl] at e1 ⊢
  refine kk H' _ (hW.arr (cell' := cell.setSlot i.toNat _) ha hk hM q1 q3 rfl (by simp [Cell.setSlot]) (fun j f2 hj hf => ?_) e1 e2 e3 (fun f2 hf => by cases hf; rw [hp0]; trivial)) ?_ (fun j hj => ?_) e3
  · by_cases e : j = i.toNat
    · subst e
      cases hf
      exact ⟨_, Cell.slots_setSlot_self _ hlt, hv⟩
    · rw [slot_ne _ _ (fun z => e z.symm)]
      exact q6 j f2 hj hf
  · unfold tf_s
    rw [e1]
    exact Cell.slots_setSlot_self _ hlt
  · unfold tf_s
    rw [e1, q1]
    exact slot_ne _ _ (fun z => hj z.symm)
theorem tf_zast (hexec : p.tables.exec = Jvm.exec) (hb : c.code = cc) (hK : va_K g.1 cl tys s) (hW : tf_n kt g M T0 H0 T H locs) {a k n ai t0 : Nat} {i x : Int} (ha : T a = some (k, n)) {f : tf_F} (hk : kt[k]? = some (true, ai, [f], false)) (ht : tys[t0]? = some (g.2.1 ai, .boolean)) (h0 : 0 ≤ i) (h1 : i < n) (hM : (k, 0) ∈ M) (hv : tf_v T n f (.int (Int32.ofInt x))) (hx01 : x = 0 ∨ x = 1) (hdg : decode cc pc = .ok (.bastore, 1))
    (kk : ∀ (H' : Heap) (locs' : List Loc), tf_n kt g M T0 H0 T H' locs' → tf_s H' a i.toNat = some (.int (Int32.ofInt x)) → (∀ j, j ≠ i.toNat → tf_s H' a j = tf_s H a j) → (∀ q, q ≠ a → H'[q]? = H[q]?) → W p l e R s m args below meth c H' locs' cells slots Q (F0 m (pc + 1) ls rest)) (hp0 : f.2.2.1 = 0 := by rfl) : W p l e R s m args below meth c H locs cells slots Q (F0 m pc ls (.int (Int32.ofInt x) :: .int (Int32.ofInt i) :: .ref a :: rest)) := by
  obtain ⟨cell, q1, q2, q3, q4, q5, q6⟩ := tf_cellA hW ha hk hK ht
  have hcl : (Int32.ofInt i).toNatClampNeg = i.toNat := tf_cl ⟨by omega, by omega⟩ h0
  have hlt : i.toNat < cell.slots.size := by rw [q4]; omega
  refine W.zast hexec hb q1 q2 (by rw [q3]; exact fun h => by cases h) (by rw [q4]; exact tf_in q5 h0 h1) rfl rfl hdg fun H' e1 e2 e3 => ?_
  rw [hcl] at e1 ⊢
  have hnar : narrow .boolean (.int (Int32.ofInt x)) = .int (Int32.ofInt x) := by rcases hx01 with rfl | rfl <;> decide
  rw [hnar] at e1
  refine kk H' _ (hW.arr (cell' := cell.setSlot i.toNat _) ha hk hM q1 q3 rfl (by simp [Cell.setSlot]) (fun j f2 hj hf => ?_) e1 e2 e3 (fun f2 hf => by cases hf; rw [hp0]; trivial)) ?_ (fun j hj => ?_) e3
  · by_cases e : j = i.toNat
    · subst e
      cases hf
      exact ⟨_, Cell.slots_setSlot_self _ hlt, hv⟩
    · rw [slot_ne _ _ (fun z => e z.symm)]
      exact q6 j f2 hj hf
  · unfold tf_s
    rw [e1]
    exact Cell.slots_setSlot_self _ hlt
  · unfold tf_s
    rw [e1, q1]
    exact slot_ne _ _ (fun z => hj z.symm)
theorem tf_rwst (hexec : p.tables.exec = Jvm.exec) (hb : c.code = cc) (hK : va_K g.1 cl tys s) (hW : tf_n kt g M T0 H0 T H locs) {a k n ai t0 : Nat} {i x : Int} (ha : T a = some (k, n)) {f : tf_F} (hk : kt[k]? = some (true, ai, [f], false)) (ht : tys[t0]? = some (g.2.1 ai, .int)) (h0 : 0 ≤ i) (h1 : i < n) (hM : (k, 0) ∈ M) (hv : tf_v T n f (.int (Int32.ofInt x))) (hx : tf_r x) (hok : tf_ok f.2.2.1 (tf_up (tf_rw H a) i x)) (hdg : decode cc pc = .ok (.iastore, 1))
    (kk : ∀ (H' : Heap) (locs' : List Loc), tf_n kt g M T0 H0 T H' locs' → tf_rw H' a = tf_up (tf_rw H a) i x → (∀ q, q ≠ a → H'[q]? = H[q]?) → W p l e R s m args below meth c H' locs' cells slots Q (F0 m (pc + 1) ls rest)) : W p l e R s m args below meth c H locs cells slots Q (F0 m pc ls (.int (Int32.ofInt x) :: .int (Int32.ofInt i) :: .ref a :: rest)) := by
  obtain ⟨cell, q1, q2, q3, q4, q5, q6⟩ := tf_cellA hW ha hk hK ht
  have hcl : (Int32.ofInt i).toNatClampNeg = i.toNat := tf_cl ⟨by omega, by omega⟩ h0
  have hlt : i.toNat < cell.slots.size := by rw [q4]; omega
  refine W.iast hexec hb q1 q2 (by rw [q3]; exact fun h => by cases h) (by rw [q4]; exact tf_in q5 h0 h1) rfl rfl hdg fun H' e1 e2 e3 => ?_
  rw [hcl] at e1 ⊢
  have hup : tf_rw H' a = tf_up (tf_rw H a) i x := by
    refine tf_rw_up h0 ?_ hx (fun j hj => ?_)
    · unfold tf_s
      rw [e1]
      exact Cell.slots_setSlot_self _ hlt
    · unfold tf_s
      rw [e1, q1]
      exact slot_ne _ _ (fun z => hj z.symm)
  refine kk H' _ (hW.arr (cell' := cell.setSlot i.toNat _) ha hk hM q1 q3 rfl (by simp [Cell.setSlot]) (fun j f2 hj hf => ?_) e1 e2 e3 (fun f2 hf => by cases hf; rw [← tf_rw_cell e1, hup]; exact hok)) hup e3
  by_cases e : j = i.toNat
  · subst e
    cases hf
    exact ⟨_, Cell.slots_setSlot_self _ hlt, hv⟩
  · rw [slot_ne _ _ (fun z => e z.symm)]
    exact q6 j f2 hj hf
theorem tf_okof (hW : tf_n kt g M T0 H0 T H locs) {a k n ai : Nat} (ha : T a = some (k, n)) {f : tf_F} {ro : Bool} (hk : kt[k]? = some (true, ai, [f], ro)) : tf_ok f.2.2.1 (tf_rw H a) := by
  obtain ⟨cell, q1, q, q2, q3, q4, -⟩ := hW.1.1 a k n ha
  cases hk.symm.trans q2
  rw [tf_rw_cell q1]
  exact (q4 rfl).2.2.2.2 f rfl
end TFS

def tf_set (T : tf_T) (a : Nat) (x : Nat × Nat) : tf_T := fun b => if b = a then some x else T b
theorem tf_set_at {T : tf_T} {a : Nat} {x : Nat × Nat} : tf_set T a x a = some x := if_pos rfl
theorem tf_set_ne {T : tf_T} {a b : Nat} {x : Nat × Nat} (h : b ≠ a) : tf_set T a x b = T b := if_neg h
theorem tf_v.mono {T T' : tf_T} {n : Nat} {f : tf_F} {v : Value} (h : ∀ c j, T c = some (f.2.1, j) → T' c = some (f.2.1, j)) (hv : tf_v T n f v) : tf_v T' n f v := by
  obtain ⟨tag, k, m, lo, hi⟩ := f
  match tag, hv with
  | 0, hv => exact hv
  | 1, ⟨a, e1, e2⟩ => exact ⟨a, e1, h a _ e2⟩
  | 2, Or.inl e => exact Or.inl e
  | 2, Or.inr ⟨a, e1, e2⟩ => exact Or.inr ⟨a, e1, h a _ e2⟩
  | 3, ⟨a, i, e1, e2, e3⟩ => exact ⟨a, i, e1, h a _ e2, e3⟩
  | 4, ⟨a, e1, e2⟩ => exact ⟨a, e1, h a _ e2⟩
  | 5, hv => exact hv
  | 6, hv => exact hv
  | (n + 7), hv => exact hv
theorem tf_c.mono {kt : List tf_Kd} {g : tf_G} {T T' : tf_T} {k n : Nat} {cell : Cell} (h : ∀ q ∈ kt, ∀ f ∈ q.2.2.1, ∀ c j, T c = some (f.2.1, j) → T' c = some (f.2.1, j)) (hc : tf_c kt g T k n cell) : tf_c kt g T' k n cell := by
  obtain ⟨q, h1, h2, h3, h4⟩ := hc
  have hq : q ∈ kt := List.mem_of_getElem? h1
  refine ⟨q, h1, h2, fun e => ?_, fun e => ?_⟩
  · obtain ⟨a1, a2, a3, a4, a5⟩ := h3 e
    refine ⟨a1, a2, a3, fun j f hj hf => ?_, a5⟩
    obtain ⟨v, v1, v2⟩ := a4 j f hj hf
    exact ⟨v, v1, v2.mono (h q hq f (List.mem_of_getElem? hf))⟩
  · obtain ⟨a1, a2⟩ := h4 e
    refine ⟨a1, fun j f hf => ?_⟩
    obtain ⟨v, v1, v2⟩ := a2 j f hf
    exact ⟨v, v1, v2.mono (h q hq f (List.mem_of_getElem? hf))⟩
theorem tf_w.lt {kt : List tf_Kd} {g : tf_G} {T : tf_T} {H : Heap} (hW : tf_w kt g T H) {a : Nat} {x : Nat × Nat} (h : T a = some x) : a < H.size := by
  obtain ⟨k, n⟩ := x
  obtain ⟨c, h1, -⟩ := hW.1 a k n h
  exact (Array.getElem?_eq_some_iff.mp h1).1
theorem tf_w.none {kt : List tf_Kd} {g : tf_G} {T : tf_T} {H : Heap} (hW : tf_w kt g T H) : T H.size = none := by
  cases h : T H.size with
  | none => rfl
  | some x => exact absurd (hW.lt h) (Nat.lt_irrefl _)
theorem tf_n.grow {kt : List tf_Kd} {g : tf_G} {M : List (Nat × Nat)} {T0 : tf_T} {H0 : Heap} {T : tf_T} {H H' : Heap} {locs : List Loc} (hN : tf_n kt g M T0 H0 T H locs) {k n : Nat} {cell : Cell} (h1 : H'[H.size]? = some cell) (h2 : H'.size = H.size + 1) (h3 : ∀ q, q < H.size → H'[q]? = H[q]?) (hc : tf_c kt g (tf_set T H.size (k, n)) k n cell) : tf_n kt g M T0 H0 (tf_set T H.size (k, n)) H' locs := by
  obtain ⟨hW, hE, hF, hL, hB⟩ := hN
  have hT := hW.none
  have hmono : ∀ c x, T c = some x → tf_set T H.size (k, n) c = some x := fun c x h => by
    rw [tf_set_ne (by rintro rfl; rw [hT] at h; cases h)]; exact h
  refine ⟨⟨fun b k2 n2 hb => ?_, fun b k2 n2 q hb hq hr => ?_⟩, ⟨fun b x hb => hmono b x (hE.1 b x hb), fun b hb h => ?_⟩, ⟨by rw [h2]; exact Nat.le_succ_of_le hF.1, fun b hb h => ?_, fun b k2 n2 q hb hq => ?_⟩, hL, hB⟩
  · by_cases e : b = H.size
    · subst e
      rw [tf_set_at] at hb
      cases hb
      exact ⟨cell, h1, hc⟩
    · rw [tf_set_ne e] at hb
      obtain ⟨c0, c1, c2⟩ := hW.1 b k2 n2 hb
      exact ⟨c0, by rw [h3 b (hW.lt hb)]; exact c1, c2.mono (fun _ _ _ _ c j h => hmono c _ h)⟩
  · by_cases e : b = H.size
    · subst e
      exact Nat.le_trans hB hF.1
    · rw [tf_set_ne e] at hb
      exact hW.2 b k2 n2 q hb hq hr
  · have : b ≠ H.size := Nat.ne_of_lt (Nat.lt_of_lt_of_le hb hF.1)
    rw [tf_set_ne this]; exact hE.2 b hb h
  · rw [h3 b (Nat.lt_of_lt_of_le hb hF.1)]; exact hF.2.1 b hb h
  · have hb2 := hW.lt (hE.1 b _ hb)
    have h6 := hF.2.2 b k2 n2 q hb hq
    refine ⟨fun x y => by rw [h3 b hb2]; exact h6.1 x y, fun x j hj y => ?_⟩
    have h7 := h6.2 x j hj y
    unfold tf_s at h7 ⊢
    rw [h3 b hb2]; exact h7
def tf_noK (kt : List tf_Kd) (kr : Nat) : Bool := kt.all (fun q => q.2.2.1.all (fun f => !(f.2.1 == kr)))
theorem tf_w.retype {kt : List tf_Kd} {g : tf_G} {T : tf_T} {H : Heap} (hW : tf_w kt g T H) {a kr k ci : Nat} (ha : T a = some (kr, 0)) (hno : tf_noK kt kr = true) {fr fts : List tf_F} (hkr : kt[kr]? = some (false, ci, fr, false)) (hk : kt[k]? = some (false, ci, fts, false)) (hf : ∀ j f, fts[j]? = some f → ∃ v, tf_s H a (g.1.2 ci j) = some v ∧ tf_v T 0 f v) : tf_w kt g (tf_set T a (k, 0)) H := by
  have hm : ∀ q ∈ kt, ∀ f ∈ q.2.2.1, ∀ c j, T c = some (f.2.1, j) → tf_set T a (k, 0) c = some (f.2.1, j) := by
    intro q hq f hfm c j h
    have h1 := List.all_eq_true.mp (List.all_eq_true.mp hno q hq) f hfm
    have h2 : f.2.1 ≠ kr := by simpa using h1
    rw [tf_set_ne (by rintro rfl; rw [ha] at h; cases h; exact h2 rfl)]; exact h
  obtain ⟨cell, c1, q, c2, c3, -, c5⟩ := hW.1 a kr 0 ha
  cases hkr.symm.trans c2
  refine ⟨fun b k2 n2 hb => ?_, fun b k2 n2 q hb hq hr => ?_⟩
  · by_cases e : b = a
    · subst e
      rw [tf_set_at] at hb
      cases hb
      refine ⟨cell, c1, _, hk, c3, fun h => (by cases h), fun _ => ⟨(c5 rfl).1, fun j f hj => ?_⟩⟩
      obtain ⟨v, v1, v2⟩ := hf j f hj
      unfold tf_s at v1
      rw [c1] at v1
      exact ⟨v, v1, v2.mono (hm _ (List.mem_of_getElem? hk) f (List.mem_of_getElem? hj))⟩
    · rw [tf_set_ne e] at hb
      obtain ⟨c0, d1, d2⟩ := hW.1 b k2 n2 hb
      exact ⟨c0, d1, d2.mono hm⟩
  · by_cases e : b = a
    · subst e
      exact hW.2 b kr 0 _ ha hkr rfl
    · rw [tf_set_ne e] at hb
      exact hW.2 b k2 n2 q hb hq hr
def tf_x (T T' : tf_T) (a z : Nat) : Prop := (∀ b x, b ≠ a → T b = some x → T' b = some x) ∧ ∀ b, b < z → b ≠ a → T b = none → T' b = none
def tf_QC (g : tf_G) (M : List (Nat × Nat)) (T : tf_T) (a k : Nat) : Array Value → State → Outcome → State → Prop := fun _ st o t => o = .returned none ∧ ∃ T', tf_w tf_kt g T' t.heap ∧ T' a = some (k, 0) ∧ tf_x T T' a st.heap.size ∧ tf_f tf_kt g M T st.heap t.heap
def tf_QA (g : tf_G) (M : List (Nat × Nat)) (T : tf_T) (post : tf_T → Value → Heap → Heap → Prop) : Array Value → State → Outcome → State → Prop := fun _ st o t => ∃ (v : Value) (T' : tf_T), o = .returned (some v) ∧ tf_w tf_kt g T' t.heap ∧ tf_e T T' st.heap.size ∧ tf_f tf_kt g M T st.heap t.heap ∧ post T' v st.heap t.heap
def tf_QI (g : tf_G) (M : List (Nat × Nat)) (T : tf_T) (post : Int → Heap → Heap → Prop) : Array Value → State → Outcome → State → Prop := fun _ st o t => ∃ (z : Int) (T' : tf_T), o = .returned (some (.int (Int32.ofInt z))) ∧ tf_w tf_kt g T' t.heap ∧ tf_e T T' st.heap.size ∧ tf_f tf_kt g M T st.heap t.heap ∧ post z st.heap t.heap
theorem tf_ivd (ty : FieldType) : tf_iv (some (defaultValue ty)) = 0 := by cases ty <;> rfl
theorem tf_cwz {cA : ClassId} {N : Nat} {v : Value} (h : tf_iv (some v) = 0) (j : Int) : tf_cw (arrV cA N (fun _ => v)) j = 0 := by
  unfold tf_cw
  by_cases h1 : j < 0
  · rw [if_pos h1]
  · rw [if_neg h1]
    by_cases h2 : j.toNat < N
    · rw [arrV_read _ _ h2]; exact h
    · rw [Array.getElem?_eq_none (by rw [arrV_size]; omega)]; rfl
section TFN
variable {p : Program} {l : Launch} {e : Env} {R : Room} {s : State} {m : MethodId} {args : Array Value} {below : List Frame} {meth : Method} {c : Code} {H : Heap} {locs : List Loc} {cells slots : Nat} {Q : State → Prop}
variable {cc : ByteArray} {pc : Nat} {ls : Array Slot} {rest st0 : List Value} {g : tf_G} {M Mc : List (Nat × Nat)} {T0 T : tf_T} {H0 : Heap} {cl : List vw_C} {tys : List (ClassId × FieldType)} {a : Array Value}
theorem tf_new (hexec : p.tables.exec = Jvm.exec) (hb : c.code = cc) {own C : String} {Tb : u_T} {N ci index : Nat} {Ts : List Cond} (hts : ∀ w ∈ Ts, w.before args s = true) (hin : ∀ w ∈ u_ws C Tb N, w ∈ Ts) (ty : Nat → FieldType) (hty : ∀ k, k < N → parseFieldDescriptor (Tb k).2.2.1 = some (ty k)) (hown : s.vm.findClass own = some m.cls) (hcl : (Cond.classLink own index C).before args s = true) (hinst : (Cond.instantiable C N).before args s = true) (hini : (Cond.initialized C).before args s = true)
    (hK : va_K g.1 cl tys s) (hc : cl[ci]? = some (C, Tb, N)) (hW : tf_n tf_kt g M T0 H0 T H locs) {kr : Nat} {fr : List tf_F} (hkr : tf_kt[kr]? = some (false, ci, fr, false)) (hfr : fr.length = N ∧ ∀ f ∈ fr, f.1 = 6) (hcells : cells + 1 ≤ R.cells) (hslots : slots + N ≤ R.slots) (hdg : decode cc pc = .ok (.new index, 3))
    (kk : ∀ (q : Nat) (H' : Heap) (T' : tf_T), H.size = q → T' = tf_set T q (kr, 0) → T' q = some (kr, 0) → (∀ b x, T b = some x → T' b = some x) → tf_n tf_kt g M T0 H0 T' H' locs → (∀ b x, T b = some x → H'[b]? = H[b]?) → W p l e R s m args below meth c H' locs (cells + 1) (slots + N) Q (F0 m (pc + 3) ls (.ref q :: rest))) : W p l e R s m args below meth c H locs cells slots Q (F0 m pc ls rest) := by
  have hKn := hK.1 ci _ hc
  refine W.newcK hexec hb hown hcl hinst hini rfl hdg hcells hslots hKn.2.1 rfl fun H1 kC hkC e1 z1 o1 => ?_
  have hT := hW.1.none
  obtain ⟨cell, b1, b2, b3, b4⟩ := u_born ty hts hin hKn hkC e1 hty
  refine kk H.size H1 _ rfl rfl tf_set_at (fun b x h => by rw [tf_set_ne (by rintro rfl; rw [hT] at h; cases h)]; exact h) (hW.grow e1 z1 o1 ?_) (fun b x h => o1 b (hW.1.lt h))
  cases e1.symm.trans b1
  refine ⟨_, hkr, b3, fun h => (by cases h), fun _ => ⟨b2, fun j f hj => ?_⟩⟩
  have hj2 : j < N := by rw [← hfr.1]; exact (List.getElem?_eq_some_iff.mp hj).1
  refine ⟨_, b4 j hj2, ?_⟩
  have h6 := hfr.2 f (List.mem_of_getElem? hj)
  obtain ⟨tag, k, mm, lo, hi⟩ := f
  dsimp only at h6
  subst h6
  exact trivial
theorem tf_newarr (hexec : p.tables.exec = Jvm.exec) (hb : c.code = cc) {atype : ArrayType} (harr : (Cond.arrayClass (newarray.typeOf atype)).before args s = true) (hK : va_K g.1 cl tys s) {ai t0 k : Nat} {ty : FieldType} (hty : newarray.typeOf atype = ty) (ht : tys[t0]? = some (g.2.1 ai, ty)) {f : tf_F} (hk : tf_kt[k]? = some (true, ai, [f], false)) (hprim : va_RA s (g.2.1 ai) ty → s.vm.findClass ("[" ++ ty.toString) = some (g.2.1 ai)) (hd : ∀ (T : tf_T) (n : Nat), tf_v T n f (defaultValue ty)) (hW : tf_n tf_kt g M T0 H0 T H locs) {n : Int} {N : Nat} (hn0 : 0 ≤ n) (hN : n.toNat = N) (hN2 : N ≤ 60000000) (hbytes : N * componentBytes ty ≤ 536870912) (hcells : cells + 1 ≤ R.cells) (hslots : slots + N ≤ R.slots) (hdg : decode cc pc = .ok (.newarray atype, 2))
    (kk : ∀ (q : Nat) (H' : Heap) (T' : tf_T), H.size = q → T' = tf_set T q (k, N) → T' q = some (k, N) → (∀ b x, T b = some x → T' b = some x) → tf_n tf_kt g M T0 H0 T' H' locs → (∀ b x, T b = some x → H'[b]? = H[b]?) → W p l e R s m args below meth c H' locs (cells + 1) (slots + N) Q (F0 m (pc + 2) ls (.ref q :: rest))) : W p l e R s m args below meth c H locs cells slots Q (F0 m pc ls (.int (Int32.ofInt n) :: rest)) := by
  subst hty
  have hr : tf_r n := ⟨by omega, by omega⟩
  refine va_newaK hexec hb harr rfl hdg rfl (by rw [tf_0, tf_lt hr ⟨by omega, by omega⟩]; omega) (by rw [tf_cl hr hn0]; exact hN) hbytes hcells hslots rfl fun H1 cA e1 z1 o1 hAr hNm => ?_
  have hcA : cA = g.2.1 ai := Option.some.inj (hNm.symm.trans (hprim (hK.2 t0 _ ht).2))
  have hT := hW.1.none
  refine kk H.size H1 _ rfl rfl tf_set_at (fun b x h => by rw [tf_set_ne (by rintro rfl; rw [hT] at h; cases h)]; exact h) (hW.grow e1 z1 o1 ?_) (fun b x h => o1 b (hW.1.lt h))
  refine ⟨_, hk, rfl, fun _ => ⟨hcA, arrV_size _ _ _, by omega, fun j f2 hj hf => ?_, fun f2 _ => tf_okz (tf_cwz (tf_ivd _))⟩, fun h => (by cases h)⟩
  cases hf
  exact ⟨_, arrV_read _ _ hj, hd _ _⟩
end TFN
theorem tf_E.mono {g : tf_G} {T T' : tf_T} (h : tf_E g T) (hm : ∀ b x, T b = some x → T' b = some x) : tf_E g T' := trivial
section TFO
variable {p : Program} {l : Launch} {e : Env} {R : Room} {s : State} {m : MethodId} {args : Array Value} {below : List Frame} {meth : Method} {c : Code} {H : Heap} {locs : List Loc} {cells slots mc ms : Nat} {Q : State → Prop}
variable {cc : ByteArray} {pc : Nat} {ls : Array Slot} {rest st0 : List Value} {g : tf_G} {M Mc : List (Nat × Nat)} {T0 T : tf_T} {H0 : Heap} {cl : List vw_C} {tys : List (ClassId × FieldType)} {a : Array Value}
theorem tf_putF (hexec : p.tables.exec = Jvm.exec) (hb : c.code = cc) {own C : String} {Tb : u_T} {N ci index : Nat} {Ts : List Cond} (hts : ∀ w ∈ Ts, w.before args s = true) (hin : ∀ w ∈ u_ws C Tb N, w ∈ Ts) (ty0 : Nat → FieldType) (hty : ∀ k, k < N → parseFieldDescriptor (Tb k).2.2.1 = some (ty0 k)) (hnm : ∀ a, a < N → ∀ b, b < N → a ≠ b → (Tb a).2.1 ≠ (Tb b).2.1) (hown : s.vm.findClass own = some m.cls) (hK : va_K g.1 cl tys s) (hc : cl[ci]? = some (C, Tb, N)) (hW : tf_n tf_kt g M T0 H0 T H locs) {a k n : Nat} (ha : T a = some (k, n)) {fts : List tf_F} (hk : tf_kt[k]? = some (false, ci, fts, false)) (hlen : fts.length = N) (j : Nat) {f : tf_F} (hj : fts[j]? = some f) (hjN : j < N) (hM : (k, j) ∈ M)
    (hlink : (Cond.fieldLink own index (Tb j).1 (Tb j).2.1 (Tb j).2.2.1).before args s = true) (hfin : (Tb j).2.2.2 = true) (hin2 : meth.name = "<init>") (hdecl : (Tb j).1 = own) {v : Value} (hv : tf_v T n f v) (hn : narrow (ty0 j) v = v) (hfit : fits (ty0 j) v = true) (hdg : decode cc pc = .ok (.putfield index, 3))
    (kk : ∀ (H' : Heap) (locs' : List Loc), tf_n tf_kt g M T0 H0 T H' locs' → tf_s H' a (g.1.2 ci j) = some v → (∀ x, x < N → x ≠ j → tf_s H' a (g.1.2 ci x) = tf_s H a (g.1.2 ci x)) → (∀ q, q ≠ a → H'[q]? = H[q]?) → W p l e R s m args below meth c H' locs' cells slots Q (F0 m (pc + 3) ls rest)) : W p l e R s m args below meth c H locs cells slots Q (F0 m pc ls (v :: .ref a :: rest)) := by
  have hap := va_apart (D := g.1) (own := own) hts hin ty0 hty hnm hK hc
  obtain ⟨cell, q1, q, q2, q3, -, q5⟩ := hW.1.1 a k n ha
  cases hk.symm.trans q2
  obtain ⟨w, hw, -⟩ := (q5 rfl).2 j f hj
  obtain ⟨hS, hfc, kC, hkC, hkind⟩ := hK.1 ci _ hc
  obtain ⟨cf, kf, fi, fd, hi, hsl⟩ := hS j hjN
  have hlay := hts _ (hin _ (u_in_lay hjN))
  unfold u_lay at hlay
  rw [if_pos hfin] at hlay
  have hst := (u_facts hfc hkC (u_lays hts hin hjN) hi).1
  have hcf : m.cls = cf := by
    obtain ⟨_, _, c', _, _, _, -, -, hf', -, -, -, hown2, -⟩ := Cond.laysFinal_spec hlay
    have e1 : c' = cf := by have := hi.symm.trans hf'; simp at this; exact this.1.symm
    rw [hdecl] at hown2
    rw [← e1]; exact Option.some.inj (hown.symm.trans hown2)
  have h6 := u_fits hfc hkC hkind (Or.inr hlay) hi (hty j hjN) hn hfit
  refine W.putFinK hexec hb hown hlink hi hst hcf hin2 (by rw [(q5 rfl).1]; exact h6) q1 q3 (by rw [hsl]; exact k2_hasslot hw) rfl rfl hdg fun H' e1 e2 e3 => ?_
  rw [hsl] at e1 ⊢
  refine kk H' _ (hW.obj ha hk hM (by rw [hlen]; exact hap) hj hv q1 e1 e2 e3) ?_ (fun x hx hne => ?_) e3
  · unfold tf_s
    rw [e1]
    exact Cell.slots_setSlot_self v (k2_hasslot hw)
  · unfold tf_s
    rw [e1, q1]
    exact slot_ne _ _ (hap j x hjN hx (fun z => hne z.symm))
theorem tf_retC (hexec : p.tables.exec = Jvm.exec) (hb : c.code = cc) (hr : meth.sig.returnType = none) (hlocks : meth.locks = false) {aa kr k ci : Nat} (hQ : Q = MQ below (tf_QC g M T0 aa k) args s mc ms (fun q => tf_B g ≤ q)) (hW : tf_n tf_kt g M T0 s.heap T H locs) (ha : T aa = some (kr, 0)) {fr fts : List tf_F} (hkr : tf_kt[kr]? = some (false, ci, fr, false)) (hno : tf_noK tf_kt kr = true) (hk : tf_kt[k]? = some (false, ci, fts, false)) (hf : ∀ j f, fts[j]? = some f → ∃ v, tf_s H aa (g.1.2 ci j) = some v ∧ tf_v T 0 f v) (hdg : decode cc pc = .ok (.return_, 1)) : W p l e R s m args below meth c H locs mc ms Q (F0 m pc ls []) := by
  rw [hQ]
  refine W.vret hexec hb hr (fun t ht _ => ⟨rfl, tf_set T aa (k, 0), ?_, tf_set_at, ⟨fun b x hne h => ?_, fun b hlt hne h => ?_⟩, ?_⟩) hW.2.2.2.1 hdg hlocks
  · rw [ht]; exact hW.1.retype ha hno hkr hk hf
  · rw [tf_set_ne hne]; exact hW.2.1.1 b x h
  · rw [tf_set_ne hne]; exact hW.2.1.2 b hlt h
  · rw [ht]; exact hW.2.2.1
theorem tf_retI {post : Int → Heap → Heap → Prop} {z : Int} (hexec : p.tables.exec = Jvm.exec) (hb : c.code = cc) (hr : meth.sig.returnType = some .int) (hlocks : meth.locks = false) (hQ : Q = MQ below (tf_QI g M T0 post) args s mc ms (fun q => tf_B g ≤ q)) (hW : tf_n tf_kt g M T0 s.heap T H locs) (hp : post z s.heap H) (hdg : decode cc pc = .ok (.ireturn, 1)) : W p l e R s m args below meth c H locs mc ms Q (F0 m pc ls [.int (Int32.ofInt z)]) := by
  rw [hQ]
  exact W.iret hexec hb hr (fun t ht _ => ⟨z, T, rfl, by rw [ht]; exact hW.1, hW.2.1, by rw [ht]; exact hW.2.2.1, by rw [ht]; exact hp⟩) hW.2.2.2.1 hdg hlocks
theorem tf_retA {post : tf_T → Value → Heap → Heap → Prop} {v : Value} {rt : FieldType} (hexec : p.tables.exec = Jvm.exec) (hb : c.code = cc) (hr : meth.sig.returnType = some rt) (hrt : (∃ n, rt = .object n) ∨ ∃ t, rt = .array t) (hv : v = .null ∨ ∃ a, v = .ref a) (hlocks : meth.locks = false) (hQ : Q = MQ below (tf_QA g M T0 post) args s mc ms (fun q => tf_B g ≤ q)) (hW : tf_n tf_kt g M T0 s.heap T H locs) (hp : post T v s.heap H) (hdg : decode cc pc = .ok (.areturn, 1)) : W p l e R s m args below meth c H locs mc ms Q (F0 m pc ls [v]) := by
  rw [hQ]
  exact W.aret hexec hb hr hrt hv (fun t ht _ => ⟨v, T, rfl, by rw [ht]; exact hW.1, hW.2.1, by rw [ht]; exact hW.2.2.1, by rw [ht]; exact hp⟩) hW.2.2.2.1 hdg hlocks
theorem tf_callC {aa k kr : Nat} (hr : va_Run p l e R s m args below meth c H locs cells slots mc ms (F0 m pc ls st0) rest (tf_QC g Mc T aa k a) (fun q => tf_B g ≤ q)) (hW : tf_n tf_kt g M T0 H0 T H locs) (hM : ∀ x ∈ Mc, x ∈ M) (hT0 : T0 aa = none) (haH : H0.size ≤ aa) (ha : T aa = some (kr, 0))
    (kk : ∀ (H' : Heap) (locs' : List Loc) (T' : tf_T), tf_n tf_kt g M T0 H0 T' H' locs' → T' aa = some (k, 0) → (∀ b x, b ≠ aa → T b = some x → T' b = some x) → tf_f tf_kt g Mc T H H' → W p l e R s m args below meth c H' locs' (cells + mc) (slots + ms) Q (F0 m (pc + 3) ls rest)) : W p l e R s m args below meth c H locs cells slots Q (F0 m pc ls st0) := by
  intro X hX St
  obtain ⟨v, st₀, t, X', L, h0, St', hL, e1, e2, ⟨hv, T', hw, hTa, hx, hf⟩, st⟩ := hr X hX St
  cases hv
  rw [h0] at hf hx
  rw [← e1] at hw hf
  obtain ⟨hWw, hE, hF, hLl, hB⟩ := hW
  have hne : ∀ b y, T0 b = some y → b ≠ aa := fun b y hb => by rintro rfl; rw [hT0] at hb; cases hb
  have hN : tf_n tf_kt g M T0 H0 T' X'.heap (locs ++ L) := by
    refine ⟨hw, ⟨fun b x hb => hx.1 b x (hne b x hb) (hE.1 b x hb), fun b hb h => hx.2 b (Nat.lt_of_lt_of_le hb hF.1) (Nat.ne_of_lt (Nat.lt_of_lt_of_le hb haH)) (hE.2 b hb h)⟩, ⟨Nat.le_trans hF.1 hf.1, fun b hb h => ?_, fun b k2 n2 q hb hq => ?_⟩, fun q hq => ?_, hB⟩
    · rw [hf.2.1 b (Nat.lt_of_lt_of_le hb hF.1) (h.imp id (fun z => hE.2 b hb z)), hF.2.1 b hb h]
    · have h5 := hF.2.2 b k2 n2 q hb hq
      have h6 := hf.2.2 b k2 n2 q (hE.1 b _ hb) hq
      exact ⟨fun x y => (h6.1 x (fun z => y (hM _ z))).trans (h5.1 x y), fun x j hj y => (h6.2 x j hj (fun z => y (hM _ z))).trans (h5.2 x j hj y)⟩
    · rcases List.mem_append.mp hq with h | h
      · exact hLl q h
      · exact hL q h
  obtain ⟨t2, a1, b1⟩ := kk X'.heap (locs ++ L) T' hN hTa hx.1 hf X' rfl St'
  exact ⟨t2, st t2 a1, b1⟩
theorem tf_callI {post : Int → Heap → Heap → Prop} (hr : va_Run p l e R s m args below meth c H locs cells slots mc ms (F0 m pc ls st0) rest (tf_QI g Mc T post a) (fun q => tf_B g ≤ q)) (hW : tf_n tf_kt g M T0 H0 T H locs) (hM : ∀ x ∈ Mc, x ∈ M)
    (kk : ∀ (z : Int) (H' : Heap) (locs' : List Loc) (T' : tf_T), tf_n tf_kt g M T0 H0 T' H' locs' → (∀ b x, T b = some x → T' b = some x) → tf_f tf_kt g Mc T H H' → post z H H' → W p l e R s m args below meth c H' locs' (cells + mc) (slots + ms) Q (F0 m (pc + 3) ls (.int (Int32.ofInt z) :: rest))) : W p l e R s m args below meth c H locs cells slots Q (F0 m pc ls st0) := by
  intro X hX St
  obtain ⟨v, st₀, t, X', L, h0, St', hL, e1, e2, ⟨z, T', hv, hw, hx, hf, hp⟩, st⟩ := hr X hX St
  cases hv
  rw [h0] at hf hx hp
  rw [← e1] at hw hf hp
  obtain ⟨t2, a1, b1⟩ := kk z X'.heap (locs ++ L) T' (hW.call hw hx hf hM hL) hx.1 hf hp X' rfl St'
  exact ⟨t2, st t2 a1, b1⟩
theorem tf_callA {post : tf_T → Value → Heap → Heap → Prop} (hr : va_Run p l e R s m args below meth c H locs cells slots mc ms (F0 m pc ls st0) rest (tf_QA g Mc T post a) (fun q => tf_B g ≤ q)) (hW : tf_n tf_kt g M T0 H0 T H locs) (hM : ∀ x ∈ Mc, x ∈ M)
    (kk : ∀ (v : Value) (H' : Heap) (locs' : List Loc) (T' : tf_T), tf_n tf_kt g M T0 H0 T' H' locs' → (∀ b x, T b = some x → T' b = some x) → tf_f tf_kt g Mc T H H' → post T' v H H' → W p l e R s m args below meth c H' locs' (cells + mc) (slots + ms) Q (F0 m (pc + 3) ls (v :: rest))) : W p l e R s m args below meth c H locs cells slots Q (F0 m pc ls st0) := by
  intro X hX St
  obtain ⟨v, st₀, t, X', L, h0, St', hL, e1, e2, ⟨z, T', hv, hw, hx, hf, hp⟩, st⟩ := hr X hX St
  cases hv
  rw [h0] at hf hx hp
  rw [← e1] at hw hf hp
  obtain ⟨t2, a1, b1⟩ := kk z X'.heap (locs ++ L) T' (hW.call hw hx hf hM hL) hx.1 hf hp X' rfl St'
  exact ⟨t2, st t2 a1, b1⟩
end TFO

theorem tf_fresh {kt : List tf_Kd} {g : tf_G} {T : tf_T} {H : Heap} {a : Nat} (hW : tf_w kt g T H) (h : H.size ≤ a) : T a = none := by
  cases e : T a with
  | none => rfl
  | some x => exact absurd (hW.lt e) (Nat.not_lt.mpr h)
section TFQ
variable {p : Program} {l : Launch} {e : Env} {R : Room} {s : State} {m : MethodId} {args : Array Value} {below : List Frame} {meth : Method} {c : Code} {H : Heap} {locs : List Loc} {cells slots : Nat} {Q : State → Prop}
variable {cc : ByteArray} {pc : Nat} {ls : Array Slot} {rest : List Value} {g : tf_G} {M : List (Nat × Nat)} {T0 T : tf_T} {H0 : Heap} {cl : List vw_C} {tys : List (ClassId × FieldType)}
theorem tf_anewarr (hexec : p.tables.exec = Jvm.exec) (hb : c.code = cc) {own C : String} {index : Nat} (hown : s.vm.findClass own = some m.cls) (hclink : (Cond.classLink own index C).before args s = true) (hover : va_AO C s) (hK : va_K g.1 cl tys s) {ai t0 k kb : Nat} (ht : tys[t0]? = some (g.2.1 ai, .object C)) (hk : tf_kt[k]? = some (true, ai, [(2, kb, 0, 0, 0)], false)) (hW : tf_n tf_kt g M T0 H0 T H locs) {n : Int} {N : Nat} (hn0 : 0 ≤ n) (hN : n.toNat = N) (hN2 : N ≤ 1000000) (hcells : cells + 1 ≤ R.cells) (hslots : slots + N ≤ R.slots) (hdg : decode cc pc = .ok (.anewarray index, 3))
    (kk : ∀ (q : Nat) (H' : Heap) (T' : tf_T), H.size = q → T' = tf_set T q (k, N) → T' q = some (k, N) → (∀ b x, T b = some x → T' b = some x) → tf_n tf_kt g M T0 H0 T' H' locs → (∀ b x, T b = some x → H'[b]? = H[b]?) → W p l e R s m args below meth c H' locs (cells + 1) (slots + N) Q (F0 m (pc + 3) ls (.ref q :: rest))) : W p l e R s m args below meth c H locs cells slots Q (F0 m pc ls (.int (Int32.ofInt n) :: rest)) := by
  have hr : tf_r n := ⟨by omega, by omega⟩
  have hcl : (Int32.ofInt n).toNatClampNeg = N := by rw [tf_cl hr hn0]; exact hN
  refine W.anew hexec hb hown hclink (va_AO.use hover) rfl hdg rfl (by rw [tf_0, tf_lt hr ⟨by omega, by omega⟩]; omega) (by rw [hcl]; omega) hcells (by rw [hcl]; exact hslots) fun cA kA comp h1 h2 h3 h4 => ?_
  obtain ⟨kA2, comp2, k1, k2, k3, k4⟩ := (hK.2 t0 _ ht).2
  have hcA : cA = g.2.1 ai := Option.some.inj (h1.symm.trans k4)
  have hT := hW.1.none
  have e1 : (H.push { cls := cA, slots := Array.replicate (Int32.ofInt n).toNatClampNeg .null, vm := .none })[H.size]? = some (arrV cA N (fun _ => .null)) := by
    rw [hcl, ← arrV_new]; simp
  have z1 : (H.push { cls := cA, slots := Array.replicate (Int32.ofInt n).toNatClampNeg .null, vm := .none }).size = H.size + 1 := by simp
  have o1 : ∀ q, q < H.size → (H.push { cls := cA, slots := Array.replicate (Int32.ofInt n).toNatClampNeg .null, vm := .none })[q]? = H[q]? := fun q hq => by rw [Array.getElem?_push, if_neg (Nat.ne_of_lt hq)]
  have kk' := kk H.size _ _ rfl rfl tf_set_at (fun b x h => by rw [tf_set_ne (by rintro rfl; rw [hT] at h; cases h)]; exact h) (hW.grow (k := k) (n := N) e1 z1 o1 ⟨_, hk, rfl, fun _ => ⟨hcA, arrV_size _ _ _, by omega, fun j f2 hj hf => by cases hf; exact ⟨_, arrV_read _ _ hj, tf_u2n⟩, fun f2 _ => tf_okz (tf_cwz rfl)⟩, fun h => (by cases h)⟩) (fun b x h => o1 b (hW.1.lt h))
  rw [hcl] at kk' ⊢
  exact kk'
end TFQ
theorem tf_d0 {k j : Nat} {lo hi : Int} (h1 : lo ≤ 0) (h2 : 0 ≤ hi) (T : tf_T) (n : Nat) : tf_v T n (0, k, j, lo, hi) (defaultValue .int) := ⟨0, by show Value.int 0 = Value.int (Int32.ofInt 0); rw [← tf_0], h1, h2⟩
theorem tf_dz {k j : Nat} {lo hi : Int} (h1 : lo ≤ 0) (h2 : 0 ≤ hi) (T : tf_T) (n : Nat) : tf_v T n (0, k, j, lo, hi) (defaultValue .boolean) := ⟨0, by show Value.int 0 = Value.int (Int32.ofInt 0); rw [← tf_0], h1, h2⟩
theorem tf_d5 {k j : Nat} {lo hi : Int} (h1 : lo ≤ 0) (h2 : 0 ≤ hi) (T : tf_T) (n : Nat) : tf_v T n (5, k, j, lo, hi) (defaultValue .long) := ⟨0, by show Value.long 0 = Value.long (Int64.ofInt 0); rw [show Int64.ofInt 0 = (0 : Int64) by decide], h1, h2⟩
section TFK
variable {p : Program} {l : Launch} {e : Env} {R : Room} {s : State} {m : MethodId} {args : Array Value} {below : List Frame} {meth : Method} {c : Code} {H : Heap} {locs : List Loc} {cells slots : Nat} {Q : State → Prop}
variable {cc : ByteArray} {pc : Nat} {ls : Array Slot} {rest : List Value} {g : tf_G} {M : List (Nat × Nat)} {T0 T : tf_T} {H0 : Heap} {cl : List vw_C} {tys : List (ClassId × FieldType)}
theorem tf_cloneI {nL : Nat} {lv : List (Nat × Value)} (hexec : p.tables.exec = Jvm.exec) (hb : c.code = cc) (hml : c.maxLocals = nL) (hl : lv_has ls nL lv) {own : String} {index : Nat} (hown : s.vm.findClass own = some m.cls)
    (hlink : (Cond.methodLink own index ⟨"[I", "clone", "()Ljava/lang/Object;"⟩).before args s = true) (hsame : (Cond.sameMethod "[I" "java/lang/Object" "clone" "()Ljava/lang/Object;").before args s = true)
    (hnat : (Cond.native ⟨"java/lang/Object", "clone", "()Ljava/lang/Object;"⟩).before args s = true) (hinst : (Cond.instanceMethod ⟨"java/lang/Object", "clone", "()Ljava/lang/Object;"⟩).before args s = true)
    (hsel : (Cond.selects "[I" ⟨"[I", "clone", "()Ljava/lang/Object;"⟩ ⟨"java/lang/Object", "clone", "()Ljava/lang/Object;"⟩).before args s = true) (hcl : va_Nw (.castable "[I" "java/lang/Cloneable") s)
    (hK : va_K g.1 cl tys s) {t0 : Nat} (ht : tys[t0]? = some (g.2.1 0, .int)) (hW : tf_n tf_kt g M T0 H0 T H locs) {a k0 n k : Nat} (ha : T a = some (k0, n)) {lo hi : Int} {ro : Bool} (hk0 : tf_kt[k0]? = some (true, 0, [(0, 0, 0, lo, hi)], ro)) (hk : tf_kt[k]? = some (true, 0, [(0, 0, 0, lo, hi)], false))
    (hrest : (rest.map fun v => v.category).sum ≤ 8) (hR1 : 1 ≤ R.frames) (hR2 : 22 ≤ R.locals) (hcells : cells + 1 ≤ R.cells) (hslots : slots + n ≤ R.slots) (hdg : decode cc pc = .ok (.invokevirtual index, 3))
    (kk : ∀ (q : Nat) (H' : Heap) (T' : tf_T), H.size = q → T' = tf_set T q (k, n) → T' q = some (k, n) → (∀ b x, T b = some x → T' b = some x) → tf_n tf_kt g M T0 H0 T' H' locs → (∀ b x, T b = some x → H'[b]? = H[b]?) → W p l e R s m args below meth c H' locs (cells + 1) (slots + n) Q (F0 m (pc + 3) ls (.ref q :: rest))) : W p l e R s m args below meth c H locs cells slots Q (F0 m pc ls (.ref a :: rest)) := by
  obtain ⟨cell, q1, q2, q3, q4, q5, q6⟩ := tf_cellA hW ha hk0 hK ht
  obtain ⟨cell2, p1, pq, p2, -, p4, -⟩ := hW.1.1 a k0 n ha
  cases q1.symm.trans p1
  cases hk0.symm.trans p2
  have hcls : cell.cls = g.2.1 0 := (p4 rfl).1
  have hnm : s.vm.findClass "[I" = some (g.2.1 0) := (hK.2 t0 _ ht).2
  obtain ⟨c0, t0', f1, f2, f3⟩ := Cond.castable_spec (va_Nw.use (A := args) rfl hcl)
  cases hnm.symm.trans f1
  intro X hX St
  have hcellT : X.heap[a]? = some cell := by rw [hX]; exact q1
  obtain ⟨-, kA, hkA, comp, hkind⟩ := State.isArrayOf_alike St.warmed.alike ((hK.2 t0 _ ht).1 0 (fun _ => .null))
  obtain ⟨-, kS, hkS, compS, hkindS⟩ := (hK.2 t0 _ ht).1 0 (fun _ => .null)
  obtain ⟨vm', X', st⟩ := St.cloneArray hexec hown hlink hsame hnat hinst hsel (a := a) (cell := cell) hcellT (fun k h => by rw [q3] at h; cases h) (by rw [q3]; exact fun h => by cases h) (by rw [hcls]; exact hnm) f2 (by rw [hcls]; exact f3)
    (fun i v hv => by
      rw [hcls]
      have hk' : X.vm.classes[g.2.1 0]? = some kA := hkA
      have hi : i < n := by rw [← q4]; exact (Array.getElem?_eq_some_iff.mp hv).1
      obtain ⟨w, hw, hok⟩ := q6 i _ hi rfl
      rw [hv] at hw
      cases hw
      obtain ⟨z, rfl, -⟩ := tf_v0 hok
      simp [State.fitsSlot, State.slotType?, hk', hkind, fits])
    (g := F0 m pc ls (.ref a :: rest)) rfl (by rw [hml]; exact hl.1) rfl (by rw [hb]; exact hdg) hR1 (by show 2 * 0 + _ + 14 ≤ _; omega) hcells (by rw [q4]; exact hslots) (hloader := by rw [hcls]; exact Vm.clonesLoader_of_array hkS hkindS)
  rw [q4] at X'
  have hT := hW.1.none
  have e1 : (H.push ({ cls := cell.cls, slots := cell.slots } : Cell))[H.size]? = some ({ cls := cell.cls, slots := cell.slots } : Cell) := by simp
  have z1 : (H.push ({ cls := cell.cls, slots := cell.slots } : Cell)).size = H.size + 1 := by simp
  have o1 : ∀ q, q < H.size → (H.push ({ cls := cell.cls, slots := cell.slots } : Cell))[q]? = H[q]? := fun q hq => by rw [Array.getElem?_push, if_neg (Nat.ne_of_lt hq)]
  obtain ⟨t, b1, b2⟩ := kk H.size _ _ rfl rfl tf_set_at (fun b x h => by rw [tf_set_ne (by rintro rfl; rw [hT] at h; cases h)]; exact h) (hW.grow (k := k) (n := n) e1 z1 o1 ⟨_, hk, rfl, fun _ => ⟨hcls, q4, q5, fun j f hj hf => by
      cases hf
      obtain ⟨v, v1, v2⟩ := q6 j _ hj rfl
      obtain ⟨z, rfl, h1, h2⟩ := tf_v0 v2
      exact ⟨_, v1, tf_u0 h1 h2⟩, fun f2 hf => by cases hf; trivial⟩, fun h => (by cases h)⟩) (fun b x h => o1 b (hW.1.lt h)) _ (by rw [← hX]; rfl) X'
  refine ⟨t, st t ?_, b2⟩
  rw [hX]; exact b1
theorem tf_castI (hexec : p.tables.exec = Jvm.exec) (hb : c.code = cc) {own : String} {index : Nat} (hown : s.vm.findClass own = some m.cls) (hlink : (Cond.classLink own index "[I").before args s = true) (hK : va_K g.1 cl tys s) {t0 : Nat} (ht : tys[t0]? = some (g.2.1 0, .int)) (hW : tf_n tf_kt g M T0 H0 T H locs) {a k n : Nat} (ha : T a = some (k, n)) {fts : List tf_F} {ro : Bool} (hk : tf_kt[k]? = some (true, 0, fts, ro)) (hdg : decode cc pc = .ok (.checkcast index, 3))
    (kk : W p l e R s m args below meth c H locs cells slots Q (F0 m (pc + 3) ls (.ref a :: rest))) : W p l e R s m args below meth c H locs cells slots Q (F0 m pc ls (.ref a :: rest)) := by
  obtain ⟨cell, p1, pq, p2, p3, p4, -⟩ := hW.1.1 a k n ha
  cases hk.symm.trans p2
  have hnm : s.vm.findClass "[I" = some (g.2.1 0) := (hK.2 t0 _ ht).2
  intro X hX St
  obtain ⟨vm', X', st⟩ := St.checkcastYes hexec hown hlink (by rw [hX]; exact p1) (by rw [p3]; rfl) hnm (by rw [(p4 rfl).1]; exact va_asg _ _) (g := F0 m pc ls (.ref a :: rest)) rfl rfl (by rw [hb]; exact hdg)
  obtain ⟨t, a1, b1⟩ := kk (X.setVm vm') hX X'
  exact ⟨t, st t a1, b1⟩
end TFK
theorem tf_peek {kt : List tf_Kd} {g : tf_G} {M : List (Nat × Nat)} {T0 T : tf_T} {H0 H : Heap} {locs : List Loc} {a k n ci : Nat} {fts : List tf_F} {ro : Bool} (hW : tf_n kt g M T0 H0 T H locs) (ha : T a = some (k, n)) (hk : kt[k]? = some (false, ci, fts, ro)) (j : Nat) {f : tf_F} (hj : fts[j]? = some f) : ∃ v, tf_s H a (g.1.2 ci j) = some v ∧ tf_v T n f v := by
  obtain ⟨cell, q1, q, q2, q3, -, q5⟩ := hW.1.1 a k n ha
  cases hk.symm.trans q2
  obtain ⟨v, hv, hok⟩ := (q5 rfl).2 j f hj
  refine ⟨v, ?_, hok⟩
  unfold tf_s
  rw [q1]
  exact hv

def tf_QCp (g : tf_G) (M : List (Nat × Nat)) (T : tf_T) (a k : Nat) (post : Heap → Prop) : Array Value → State → Outcome → State → Prop := fun v st o t => tf_QC g M T a k v st o t ∧ post t.heap
section TFG
variable {p : Program} {l : Launch} {e : Env} {R : Room} {s : State} {m : MethodId} {args : Array Value} {below : List Frame} {meth : Method} {c : Code} {H : Heap} {locs : List Loc} {cells slots mc ms : Nat} {Q : State → Prop}
variable {cc : ByteArray} {pc : Nat} {ls : Array Slot} {rest st0 : List Value} {g : tf_G} {M Mc : List (Nat × Nat)} {T0 T : tf_T} {H0 : Heap} {a : Array Value} {post : Heap → Prop}
theorem tf_retCp (hexec : p.tables.exec = Jvm.exec) (hb : c.code = cc) (hr : meth.sig.returnType = none) (hlocks : meth.locks = false) {aa kr k ci : Nat} (hQ : Q = MQ below (tf_QCp g M T0 aa k post) args s mc ms (fun q => tf_B g ≤ q)) (hW : tf_n tf_kt g M T0 s.heap T H locs) (ha : T aa = some (kr, 0)) {fr fts : List tf_F} (hkr : tf_kt[kr]? = some (false, ci, fr, false)) (hno : tf_noK tf_kt kr = true) (hk : tf_kt[k]? = some (false, ci, fts, false)) (hf : ∀ j f, fts[j]? = some f → ∃ v, tf_s H aa (g.1.2 ci j) = some v ∧ tf_v T 0 f v) (hp : post H) (hdg : decode cc pc = .ok (.return_, 1)) : W p l e R s m args below meth c H locs mc ms Q (F0 m pc ls []) := by
  rw [hQ]
  refine W.vret hexec hb hr (fun t ht _ => ⟨⟨rfl, tf_set T aa (k, 0), ?_, tf_set_at, ⟨fun b x hne h => ?_, fun b hlt hne h => ?_⟩, ?_⟩, ?_⟩) hW.2.2.2.1 hdg hlocks
  · rw [ht]; exact hW.1.retype ha hno hkr hk hf
  · rw [tf_set_ne hne]; exact hW.2.1.1 b x h
  · rw [tf_set_ne hne]; exact hW.2.1.2 b hlt h
  · rw [ht]; exact hW.2.2.1
  · rw [ht]; exact hp
theorem tf_callCp {aa k kr : Nat} (hr : va_Run p l e R s m args below meth c H locs cells slots mc ms (F0 m pc ls st0) rest (tf_QCp g Mc T aa k post a) (fun q => tf_B g ≤ q)) (hW : tf_n tf_kt g M T0 H0 T H locs) (hM : ∀ x ∈ Mc, x ∈ M) (hT0 : T0 aa = none) (haH : H0.size ≤ aa) (ha : T aa = some (kr, 0))
    (kk : ∀ (H' : Heap) (locs' : List Loc) (T' : tf_T), tf_n tf_kt g M T0 H0 T' H' locs' → T' aa = some (k, 0) → (∀ b x, b ≠ aa → T b = some x → T' b = some x) → tf_f tf_kt g Mc T H H' → post H' → W p l e R s m args below meth c H' locs' (cells + mc) (slots + ms) Q (F0 m (pc + 3) ls rest)) : W p l e R s m args below meth c H locs cells slots Q (F0 m pc ls st0) := by
  intro X hX St
  obtain ⟨v, st₀, t, X', L, h0, St', hL, e1, e2, ⟨⟨hv, T', hw, hTa, hx, hf⟩, hpo⟩, st⟩ := hr X hX St
  cases hv
  rw [h0] at hf hx
  rw [← e1] at hw hf hpo
  obtain ⟨hWw, hE, hF, hLl, hB⟩ := hW
  have hne : ∀ b y, T0 b = some y → b ≠ aa := fun b y hb => by rintro rfl; rw [hT0] at hb; cases hb
  have hN : tf_n tf_kt g M T0 H0 T' X'.heap (locs ++ L) := by
    refine ⟨hw, ⟨fun b x hb => hx.1 b x (hne b x hb) (hE.1 b x hb), fun b hb h => hx.2 b (Nat.lt_of_lt_of_le hb hF.1) (Nat.ne_of_lt (Nat.lt_of_lt_of_le hb haH)) (hE.2 b hb h)⟩, ⟨Nat.le_trans hF.1 hf.1, fun b hb h => ?_, fun b k2 n2 q hb hq => ?_⟩, fun q hq => ?_, hB⟩
    · rw [hf.2.1 b (Nat.lt_of_lt_of_le hb hF.1) (h.imp id (fun z => hE.2 b hb z)), hF.2.1 b hb h]
    · have h5 := hF.2.2 b k2 n2 q hb hq
      have h6 := hf.2.2 b k2 n2 q (hE.1 b _ hb) hq
      exact ⟨fun x y => (h6.1 x (fun z => y (hM _ z))).trans (h5.1 x y), fun x j hj y => (h6.2 x j hj (fun z => y (hM _ z))).trans (h5.2 x j hj y)⟩
    · rcases List.mem_append.mp hq with h | h
      · exact hLl q h
      · exact hL q h
  obtain ⟨t2, a1, b1⟩ := kk X'.heap (locs ++ L) T' hN hTa hx.1 hf hpo X' rfl St'
  exact ⟨t2, st t2 a1, b1⟩
end TFG
def tf_nv : Option Value → Int
  | some (.ref _) => 1
  | _ => 0
def tf_nl (H : Heap) (a : Nat) : Int → Int := fun j => if j < 0 then 0 else tf_nv (tf_s H a j.toNat)
theorem tf_nl_eq {H H' : Heap} {a : Nat} (h : H'[a]? = H[a]?) : tf_nl H' a = tf_nl H a := by
  funext j
  unfold tf_nl tf_s
  rw [h]
theorem tf_keepNQ {H H' : Heap} {a : Nat} {r : Int → Int} (h : tf_nl H a = r) (hq : H'[a]? = H[a]?) : tf_nl H' a = r := (tf_nl_eq hq).trans h
theorem tf_keepN {kt : List tf_Kd} {g : tf_G} {M : List (Nat × Nat)} {T : tf_T} {H H' : Heap} {a k n ci : Nat} {fts : List tf_F} {ro : Bool} {r : Int → Int} (hF : tf_f kt g M T H H') (ha : T a = some (k, n)) (hk : kt[k]? = some (true, ci, fts, ro)) (hM : (k, 0) ∉ M) (h : tf_nl H a = r) : tf_nl H' a = r :=
  (tf_nl_eq ((hF.2.2 a k n _ ha hk).1 rfl hM)).trans h
theorem tf_nname {kt : List tf_Kd} {g : tf_G} {M : List (Nat × Nat)} {T0 T : tf_T} {H0 H : Heap} {locs : List Loc} (_ : tf_n kt g M T0 H0 T H locs) (a : Nat) : ∃ r, tf_nl H a = r := ⟨_, rfl⟩
theorem tf_nl_of0 {H : Heap} {a : Nat} {i : Int} (h0 : 0 ≤ i) (hs : tf_s H a i.toNat = some .null) : tf_nl H a i = 0 := by
  unfold tf_nl
  rw [if_neg (by omega), hs]; rfl
theorem tf_nl_of1 {H : Heap} {a b : Nat} {i : Int} (h0 : 0 ≤ i) (hs : tf_s H a i.toNat = some (.ref b)) : tf_nl H a i = 1 := by
  unfold tf_nl
  rw [if_neg (by omega), hs]; rfl
theorem tf_nl_up1 {H H' : Heap} {a b : Nat} {i : Int} (h0 : 0 ≤ i) (hs : tf_s H' a i.toNat = some (.ref b)) (ht : ∀ j, j ≠ i.toNat → tf_s H' a j = tf_s H a j) : tf_nl H' a = tf_up (tf_nl H a) i 1 := by
  funext j
  by_cases h : j = i
  · subst h
    rw [tf_up_at]; exact tf_nl_of1 h0 hs
  · rw [tf_up_ne h]
    unfold tf_nl
    by_cases h2 : j < 0
    · rw [if_pos h2, if_pos h2]
    · rw [if_neg h2, if_neg h2, ht _ (by omega)]
theorem tf_ia {r : Int → Int} {x z : Int} (hz : z = 0) (h : 0 ≤ x ∧ x ≤ 1) : (x = 0 → z = 0 ∧ tf_up r x 1 0 = 1 ∧ tf_up r x 1 1 = r 1) ∧ (x = 1 → z = 0 ∧ tf_up r x 1 1 = 1 ∧ tf_up r x 1 0 = r 0) ∧ ((x < 0 ∨ 1 < x) → z = -1 ∧ tf_up r x 1 0 = r 0 ∧ tf_up r x 1 1 = r 1) := by
  refine ⟨fun e => ?_, fun e => ?_, fun e => by omega⟩
  · subst e; exact ⟨hz, tf_up_at, tf_up_ne (by omega)⟩
  · subst e; exact ⟨hz, tf_up_at, tf_up_ne (by omega)⟩
theorem tf_ib {r : Int → Int} {x z : Int} (hr : r x = 1) (hz : z = 0) (h : 0 ≤ x ∧ x ≤ 1) : (x = 0 → z = 0 ∧ r 0 = 1 ∧ r 1 = r 1) ∧ (x = 1 → z = 0 ∧ r 1 = 1 ∧ r 0 = r 0) ∧ ((x < 0 ∨ 1 < x) → z = -1 ∧ r 0 = r 0 ∧ r 1 = r 1) := by
  refine ⟨fun e => ?_, fun e => ?_, fun e => by omega⟩
  · subst e; exact ⟨hz, hr, rfl⟩
  · subst e; exact ⟨hz, hr, rfl⟩
theorem tf_nl_new {H : Heap} {a N : Nat} {cA : ClassId} (h : H[a]? = some (arrV cA N (fun _ => .null))) : tf_nl H a = (fun _ => 0) := by
  funext j
  unfold tf_nl tf_s
  rw [h]
  by_cases h1 : j < 0
  · rw [if_pos h1]
  · rw [if_neg h1]
    show tf_nv ((arrV cA N (fun _ => Value.null)).slots[j.toNat]?) = 0
    by_cases h2 : j.toNat < N
    · rw [arrV_read _ _ h2]; rfl
    · rw [Array.getElem?_eq_none (by rw [arrV_size]; omega)]; rfl
theorem tf_imz {H : Heap} {a j ad : Nat} (hs : tf_s H a j = some (.ref ad)) (hc : tf_nl H ad = fun _ => 0) : ∀ im : Nat, tf_s H a j = some (.ref im) → tf_nl H im 0 = 0 ∧ tf_nl H im 1 = 0 := fun im h => by
  have e : ad = im := Value.ref.inj (Option.some.inj (hs.symm.trans h))
  rw [← e, hc]
  exact ⟨rfl, rfl⟩
theorem tf_kpz {H : Heap} {a j ad : Nat} (hs : tf_s H a j = some (.ref ad)) (hc : tf_rw H ad = fun _ => 0) : ∀ kp : Nat, tf_s H a j = some (.ref kp) → tf_rw H kp 0 = 0 ∧ tf_rw H kp 1 = 0 := fun im h => by
  have e : ad = im := Value.ref.inj (Option.some.inj (hs.symm.trans h))
  rw [← e, hc]
  exact ⟨rfl, rfl⟩
section TFV
variable {p : Program} {l : Launch} {e : Env} {R : Room} {s : State} {m : MethodId} {args : Array Value} {below : List Frame} {meth : Method} {c : Code} {H : Heap} {locs : List Loc} {cells slots : Nat} {Q : State → Prop}
variable {cc : ByteArray} {pc : Nat} {ls : Array Slot} {rest st0 : List Value} {g : tf_G} {M Mc : List (Nat × Nat)} {T0 T : tf_T} {H0 : Heap} {cl : List vw_C} {tys : List (ClassId × FieldType)} {a : Array Value}
theorem tf_newarrN (hexec : p.tables.exec = Jvm.exec) (hb : c.code = cc) {atype : ArrayType} (harr : (Cond.arrayClass (newarray.typeOf atype)).before args s = true) (hK : va_K g.1 cl tys s) {ai t0 k : Nat} {ty : FieldType} (hty : newarray.typeOf atype = ty) (ht : tys[t0]? = some (g.2.1 ai, ty)) {f : tf_F} (hk : tf_kt[k]? = some (true, ai, [f], false)) (hprim : va_RA s (g.2.1 ai) ty → s.vm.findClass ("[" ++ ty.toString) = some (g.2.1 ai)) (hd : ∀ (T : tf_T) (n : Nat), tf_v T n f (defaultValue ty)) (hW : tf_n tf_kt g M T0 H0 T H locs) {n : Int} {N : Nat} (hn0 : 0 ≤ n) (hN : n.toNat = N) (hN2 : N ≤ 60000000) (hbytes : N * componentBytes ty ≤ 536870912) (hcells : cells + 1 ≤ R.cells) (hslots : slots + N ≤ R.slots) (hdg : decode cc pc = .ok (.newarray atype, 2))
    (kk : ∀ (q : Nat) (H' : Heap) (T' : tf_T), H.size = q → T' = tf_set T q (k, N) → T' q = some (k, N) → (∀ b x, T b = some x → T' b = some x) → tf_n tf_kt g M T0 H0 T' H' locs → (∀ b x, T b = some x → H'[b]? = H[b]?) → tf_rw H' q = (fun _ => 0) → W p l e R s m args below meth c H' locs (cells + 1) (slots + N) Q (F0 m (pc + 2) ls (.ref q :: rest))) : W p l e R s m args below meth c H locs cells slots Q (F0 m pc ls (.int (Int32.ofInt n) :: rest)) := by
  subst hty
  have hr : tf_r n := ⟨by omega, by omega⟩
  refine va_newaK hexec hb harr rfl hdg rfl (by rw [tf_0, tf_lt hr ⟨by omega, by omega⟩]; omega) (by rw [tf_cl hr hn0]; exact hN) hbytes hcells hslots rfl fun H1 cA e1 z1 o1 hAr hNm => ?_
  have hcA : cA = g.2.1 ai := Option.some.inj (hNm.symm.trans (hprim (hK.2 t0 _ ht).2))
  have hT := hW.1.none
  refine kk H.size H1 _ rfl rfl tf_set_at (fun b x h => by rw [tf_set_ne (by rintro rfl; rw [hT] at h; cases h)]; exact h) (hW.grow e1 z1 o1 ?_) (fun b x h => o1 b (hW.1.lt h)) (by rw [tf_rw_cell e1]; funext j; exact tf_cwz (tf_ivd _) j)
  refine ⟨_, hk, rfl, fun _ => ⟨hcA, arrV_size _ _ _, by omega, fun j f2 hj hf => ?_, fun f2 _ => tf_okz (tf_cwz (tf_ivd _))⟩, fun h => (by cases h)⟩
  cases hf
  exact ⟨_, arrV_read _ _ hj, hd _ _⟩
theorem tf_anewarrN (hexec : p.tables.exec = Jvm.exec) (hb : c.code = cc) {own C : String} {index : Nat} (hown : s.vm.findClass own = some m.cls) (hclink : (Cond.classLink own index C).before args s = true) (hover : va_AO C s) (hK : va_K g.1 cl tys s) {ai t0 k kb : Nat} (ht : tys[t0]? = some (g.2.1 ai, .object C)) (hk : tf_kt[k]? = some (true, ai, [(2, kb, 0, 0, 0)], false)) (hW : tf_n tf_kt g M T0 H0 T H locs) {n : Int} {N : Nat} (hn0 : 0 ≤ n) (hN : n.toNat = N) (hN2 : N ≤ 1000000) (hcells : cells + 1 ≤ R.cells) (hslots : slots + N ≤ R.slots) (hdg : decode cc pc = .ok (.anewarray index, 3))
    (kk : ∀ (q : Nat) (H' : Heap) (T' : tf_T), H.size = q → T' = tf_set T q (k, N) → T' q = some (k, N) → (∀ b x, T b = some x → T' b = some x) → tf_n tf_kt g M T0 H0 T' H' locs → (∀ b x, T b = some x → H'[b]? = H[b]?) → tf_nl H' q = (fun _ => 0) → W p l e R s m args below meth c H' locs (cells + 1) (slots + N) Q (F0 m (pc + 3) ls (.ref q :: rest))) : W p l e R s m args below meth c H locs cells slots Q (F0 m pc ls (.int (Int32.ofInt n) :: rest)) := by
  have hr : tf_r n := ⟨by omega, by omega⟩
  have hcl : (Int32.ofInt n).toNatClampNeg = N := by rw [tf_cl hr hn0]; exact hN
  refine W.anew hexec hb hown hclink (va_AO.use hover) rfl hdg rfl (by rw [tf_0, tf_lt hr ⟨by omega, by omega⟩]; omega) (by rw [hcl]; omega) hcells (by rw [hcl]; exact hslots) fun cA kA comp h1 h2 h3 h4 => ?_
  obtain ⟨kA2, comp2, k1, k2, k3, k4⟩ := (hK.2 t0 _ ht).2
  have hcA : cA = g.2.1 ai := Option.some.inj (h1.symm.trans k4)
  have hT := hW.1.none
  have e1 : (H.push { cls := cA, slots := Array.replicate (Int32.ofInt n).toNatClampNeg .null, vm := .none })[H.size]? = some (arrV cA N (fun _ => .null)) := by
    rw [hcl, ← arrV_new]; simp
  have z1 : (H.push { cls := cA, slots := Array.replicate (Int32.ofInt n).toNatClampNeg .null, vm := .none }).size = H.size + 1 := by simp
  have o1 : ∀ q, q < H.size → (H.push { cls := cA, slots := Array.replicate (Int32.ofInt n).toNatClampNeg .null, vm := .none })[q]? = H[q]? := fun q hq => by rw [Array.getElem?_push, if_neg (Nat.ne_of_lt hq)]
  have kk' := kk H.size _ _ rfl rfl tf_set_at (fun b x h => by rw [tf_set_ne (by rintro rfl; rw [hT] at h; cases h)]; exact h) (hW.grow (k := k) (n := N) e1 z1 o1 ⟨_, hk, rfl, fun _ => ⟨hcA, arrV_size _ _ _, by omega, fun j f2 hj hf => by cases hf; exact ⟨_, arrV_read _ _ hj, tf_u2n⟩, fun f2 _ => tf_okz (tf_cwz rfl)⟩, fun h => (by cases h)⟩) (fun b x h => o1 b (hW.1.lt h)) (tf_nl_new e1)
  rw [hcl] at kk' ⊢
  exact kk'
end TFV

section TFC
def tf_tyl : List FieldType := [.int, .long, .boolean, .byte, .object "TowerFoot$Law", .object "TowerFoot$Square"]
abbrev tf_tys (g : tf_G) : List (ClassId × FieldType) := [(g.2.1 0, .int), (g.2.1 1, .long), (g.2.1 2, .boolean), (g.2.1 3, .byte), (g.2.1 4, .object "TowerFoot$Law"), (g.2.1 5, .object "TowerFoot$Square")]
def tf_sx : List (Nat × String) := [(61, "quick"), (67, "if"), (69, "or"), (71, "and"), (73, "not"), (75, "kind"), (77, "rise"), (79, "high"), (81, "trees"), (83, "screen"), (85, "off"), (87, "x"), (89, "y"), (91, "way")]
def tf_sl : List Nat := [5, 2, 2, 3, 3, 4, 4, 4, 5, 6, 3, 1, 1, 3]
def tf_sb : List (List Int32) := [[113, 117, 105, 99, 107], [105, 102], [111, 114], [97, 110, 100], [110, 111, 116], [107, 105, 110, 100], [114, 105, 115, 101], [104, 105, 103, 104], [116, 114, 101, 101, 115], [115, 99, 114, 101, 101, 110], [111, 102, 102], [120], [121], [119, 97, 121]]
def tf_zl : List Nat := [4, 4, 7, 7]
def tf_zb : List (List Int32) := [[-16, 1, 16, -1], [1, 16, 1, 16], [1, 1, 2, 6, 24, 120, 720], [720, 720, 360, 120, 30, 6, 1]]
def tf_str (g : tf_G) (U : State) : Prop := vk_S 14 tf_sl tf_sb (fun i => g.2.2.2 (10 + i)) (fun i => g.2.2.2 (40 + i)) (fun q => tf_B g ≤ q) U U.heap ∧ (∀ (i : Nat) (x : Nat × String), tf_sx[i]? = some x → vk_R RX4 x.1 x.2 (g.2.2.2 (10 + i)) U) ∧ va_Z "java/lang/String" "COMPACT_STRINGS" "Z" (.int 1) (fun q => tf_B g ≤ q) U U.heap ∧ va_Zq "jdk/internal/util/Preconditions" "SIOOBE_FORMATTER" "Ljava/util/function/BiFunction;" (fun q => tf_B g ≤ q) U U.heap ∧ ∀ i : Nat, i < 4 → va_T .int (g.2.2.2 i) (tf_zl.getD i 0) (fun j => .int ((tf_zb.getD i []).getD j 0)) (fun q => tf_B g ≤ q) U U.heap
def tf_k (g : tf_G) (U : State) : Prop := va_K g.1 vwCl (tf_tys g) U ∧ (∀ w ∈ tf_nw, va_Nw w U) ∧ (∀ z ∈ tf_zs, va_Z z.1 z.2.1 z.2.2.1 (.ref (g.2.2.2 z.2.2.2)) (fun q => tf_B g ≤ q) U U.heap) ∧ va_AO "TowerFoot$Law" U ∧ va_AO "TowerFoot$Square" U ∧ tf_str g U
def tf_isN (w : Cond) : Bool := match w with
  | .methodLinkNest _ _ _ _ => true
  | .fieldLinkNest _ _ _ _ _ _ => true
  | .castable _ _ => true
  | _ => false
theorem tf_nw_ok : ∀ w ∈ tf_nw, tf_isN w = true := by decide +kernel
theorem tf_nwW {w : Cond} (h : tf_isN w = true) {s U : State} (hW : s.WarmedH U.vm) (hN : va_Nw w s) : va_Nw w U := by
  cases w <;> first | exact va_Nw.warmM hW hN | exact va_Nw.warmF hW hN | exact va_Nw.warmC hW hN | cases h
theorem tf_nwS {w : Cond} (h : tf_isN w = true) {u U : State} (hv : u.vm = U.vm) (hN : va_Nw w u) : va_Nw w U := by
  cases w <;> first | exact va_Nw.same rfl hv hN | cases h
theorem tf_k.warm {g : tf_G} {s U : State} (h : tf_k g s) (hW : s.WarmedH U.vm) (hH : ∀ a, a < s.heap.size → a < tf_B g → U.heap[a]? = s.heap[a]?) : tf_k g U := by
  have hq : ∀ a : Nat, a < s.heap.size → ¬ tf_B g ≤ a → U.heap[a]? = s.heap[a]? := fun a h1 h2 => hH a h1 (Nat.not_le.mp h2)
  obtain ⟨h1, h2, h3, h4, h5, h6, h7, h8, h9, h10⟩ := h
  exact ⟨va_K.moved hW.alike h1, fun w hw => tf_nwW (tf_nw_ok w hw) hW (h2 w hw), fun z hz => ((h3 z hz).moved hW.alike).kept hq, h4.moved hW.alike, h5.moved hW.alike, (h6.moved hW.alike).kept hq, fun i x hx => (h7 i x hx).warm hW, (h8.moved hW.alike).kept hq, (h9.moved hW.alike).kept hq, fun i hi => ((h10 i hi).moved hW.alike).kept hq⟩
theorem tf_k.same {g : tf_G} {u U : State} (h : tf_k g u) (hv : u.vm = U.vm) (hH : U.heap = u.heap) : tf_k g U := by
  have ha : u.vm.Alike U.vm := by rw [hv]; exact Vm.Alike.refl _
  obtain ⟨h1, h2, h3, h4, h5, h6, h7, h8, h9, h10⟩ := h
  exact ⟨va_K.moved ha h1, fun w hw => tf_nwS (tf_nw_ok w hw) hv (h2 w hw), fun z hz => by rw [hH]; exact (h3 z hz).moved ha, h4.moved ha, h5.moved ha, by rw [hH]; exact h6.moved ha, fun i x hx => (h7 i x hx).same hv.symm, by rw [hH]; exact h8.moved ha, by rw [hH]; exact h9.moved ha, fun i hi => by rw [hH]; exact (h10 i hi).moved ha⟩
def tf_P (g : tf_G) (T : tf_T) (As : List Value) (pre : Heap → Prop) : Array Value → State → Prop := fun v U => v = As.toArray ∧ tf_k g U ∧ tf_w tf_kt g T U.heap ∧ tf_B g ≤ U.heap.size ∧ pre U.heap
def tf_Qi (g : tf_G) (M : List (Nat × Nat)) (T : tf_T) (post : Int → Heap → Heap → Prop) : Array Value → State → Outcome → State → Prop := fun _ st o t => ∃ z : Int, o = .returned (some (.int (Int32.ofInt z))) ∧ tf_w tf_kt g T t.heap ∧ tf_f tf_kt g M T st.heap t.heap ∧ post z st.heap t.heap
def tf_Ql (g : tf_G) (M : List (Nat × Nat)) (T : tf_T) (post : Int → Heap → Heap → Prop) : Array Value → State → Outcome → State → Prop := fun _ st o t => ∃ z : Int, o = .returned (some (.long (Int64.ofInt z))) ∧ tf_w tf_kt g T t.heap ∧ tf_f tf_kt g M T st.heap t.heap ∧ post z st.heap t.heap
def tf_Qv (g : tf_G) (M : List (Nat × Nat)) (T : tf_T) (post : Heap → Heap → Prop) : Array Value → State → Outcome → State → Prop := fun _ st o t => o = .returned none ∧ tf_w tf_kt g T t.heap ∧ tf_f tf_kt g M T st.heap t.heap ∧ post st.heap t.heap
def tf_Qa (g : tf_G) (M : List (Nat × Nat)) (T : tf_T) (post : Value → Heap → Heap → Prop) : Array Value → State → Outcome → State → Prop := fun _ st o t => ∃ v : Value, o = .returned (some v) ∧ tf_w tf_kt g T t.heap ∧ tf_f tf_kt g M T st.heap t.heap ∧ post v st.heap t.heap
theorem tf_P.blind {g : tf_G} {T : tf_T} {As : List Value} {pre : Heap → Prop} : FrameBlind (tf_P g T As pre) := fun a U f mk h => ⟨h.1, h.2.1.same rfl rfl, h.2.2⟩
variable {p : Program} {l : Launch} {e : Env} {R : Room} {s : State} {m : MethodId} {args : Array Value} {below : List Frame} {meth : Method} {c : Code} {H : Heap} {locs : List Loc} {cells slots : Nat} {Q : State → Prop}
variable {cc : ByteArray} {pc : Nat} {ls : Array Slot} {rest st0 : List Value} {g : tf_G} {M Mc : List (Nat × Nat)} {T0 T : tf_T} {H0 : Heap} {a : Array Value}
theorem tf_preS {As : List Value} {pre : Heap → Prop} (hk : tf_k g s) (hW : tf_n tf_kt g M T0 s.heap T H locs) (hp : pre H) : PreS s H (tf_P g T As pre) As :=
  ⟨tf_P.blind, fun U hU hWm => ⟨rfl, hk.warm hWm (fun q h1 h2 => by rw [hU]; exact hW.2.2.1.2.1 q h1 (Or.inl h2)), by rw [hU]; exact hW.1, by rw [hU]; exact Nat.le_trans hW.2.2.2.2 hW.2.2.1.1, by rw [hU]; exact hp⟩⟩
theorem tf_preV {As : List Value} {pre : Heap → Prop} {b k n ci : Nat} {fts : List tf_F} {ro : Bool} {C : String} {Tb : u_T} {N : Nat} (hk : tf_k g s) (hW : tf_n tf_kt g M T0 s.heap T H locs) (hb : T b = some (k, n)) (hkt : tf_kt[k]? = some (false, ci, fts, ro)) (hc : vwCl[ci]? = some (C, Tb, N)) (hp : pre H) : PreV s H C b (tf_P g T (.ref b :: As) pre) As := by
  refine ⟨tf_P.blind, ?_, (tf_preS hk hW hp).2⟩
  obtain ⟨cell, q1, q, q2, q3, -, q5⟩ := hW.1.1 b k n hb
  cases hkt.symm.trans q2
  exact ⟨cell, q1, by rw [q3]; rfl, by rw [(q5 rfl).1]; exact (hk.1.1 ci _ hc).2.1⟩
theorem tf_calli {post : Int → Heap → Heap → Prop} (hr : va_Run p l e R s m args below meth c H locs cells slots 0 0 (F0 m pc ls st0) rest (tf_Qi g Mc T post a) (fun q => tf_B g ≤ q)) (hW : tf_n tf_kt g M T0 H0 T H locs) (hM : ∀ x ∈ Mc, x ∈ M)
    (kk : ∀ (z : Int) (H' : Heap) (locs' : List Loc), tf_n tf_kt g M T0 H0 T H' locs' → tf_f tf_kt g Mc T H H' → post z H H' → W p l e R s m args below meth c H' locs' cells slots Q (F0 m (pc + 3) ls (.int (Int32.ofInt z) :: rest))) : W p l e R s m args below meth c H locs cells slots Q (F0 m pc ls st0) := by
  intro X hX St
  obtain ⟨v, st₀, t, T', L, h0, X', hL, e1, e2, ⟨z, hv, hw, hf, hp⟩, st⟩ := hr X hX St
  cases hv
  rw [h0] at hf hp
  rw [← e1] at hw hf hp
  obtain ⟨t2, a1, b1⟩ := kk z T'.heap (locs ++ L) (hW.call hw tf_e.rf hf hM hL) hf hp T' rfl X'
  exact ⟨t2, st t2 a1, b1⟩
theorem tf_calll {post : Int → Heap → Heap → Prop} (hr : va_Run p l e R s m args below meth c H locs cells slots 0 0 (F0 m pc ls st0) rest (tf_Ql g Mc T post a) (fun q => tf_B g ≤ q)) (hW : tf_n tf_kt g M T0 H0 T H locs) (hM : ∀ x ∈ Mc, x ∈ M)
    (kk : ∀ (z : Int) (H' : Heap) (locs' : List Loc), tf_n tf_kt g M T0 H0 T H' locs' → tf_f tf_kt g Mc T H H' → post z H H' → W p l e R s m args below meth c H' locs' cells slots Q (F0 m (pc + 3) ls (.long (Int64.ofInt z) :: rest))) : W p l e R s m args below meth c H locs cells slots Q (F0 m pc ls st0) := by
  intro X hX St
  obtain ⟨v, st₀, t, T', L, h0, X', hL, e1, e2, ⟨z, hv, hw, hf, hp⟩, st⟩ := hr X hX St
  cases hv
  rw [h0] at hf hp
  rw [← e1] at hw hf hp
  obtain ⟨t2, a1, b1⟩ := kk z T'.heap (locs ++ L) (hW.call hw tf_e.rf hf hM hL) hf hp T' rfl X'
  exact ⟨t2, st t2 a1, b1⟩
theorem tf_callv {post : Heap → Heap → Prop} (hr : va_Run p l e R s m args below meth c H locs cells slots 0 0 (F0 m pc ls st0) rest (tf_Qv g Mc T post a) (fun q => tf_B g ≤ q)) (hW : tf_n tf_kt g M T0 H0 T H locs) (hM : ∀ x ∈ Mc, x ∈ M)
    (kk : ∀ (H' : Heap) (locs' : List Loc), tf_n tf_kt g M T0 H0 T H' locs' → tf_f tf_kt g Mc T H H' → post H H' → W p l e R s m args below meth c H' locs' cells slots Q (F0 m (pc + 3) ls rest)) : W p l e R s m args below meth c H locs cells slots Q (F0 m pc ls st0) := by
  intro X hX St
  obtain ⟨v, st₀, t, T', L, h0, X', hL, e1, e2, ⟨hv, hw, hf, hp⟩, st⟩ := hr X hX St
  cases hv
  rw [h0] at hf hp
  rw [← e1] at hw hf hp
  obtain ⟨t2, a1, b1⟩ := kk T'.heap (locs ++ L) (hW.call hw tf_e.rf hf hM hL) hf hp T' rfl X'
  exact ⟨t2, st t2 a1, b1⟩
theorem tf_calla {post : Value → Heap → Heap → Prop} (hr : va_Run p l e R s m args below meth c H locs cells slots 0 0 (F0 m pc ls st0) rest (tf_Qa g Mc T post a) (fun q => tf_B g ≤ q)) (hW : tf_n tf_kt g M T0 H0 T H locs) (hM : ∀ x ∈ Mc, x ∈ M)
    (kk : ∀ (v : Value) (H' : Heap) (locs' : List Loc), tf_n tf_kt g M T0 H0 T H' locs' → tf_f tf_kt g Mc T H H' → post v H H' → W p l e R s m args below meth c H' locs' cells slots Q (F0 m (pc + 3) ls (v :: rest))) : W p l e R s m args below meth c H locs cells slots Q (F0 m pc ls st0) := by
  intro X hX St
  obtain ⟨v, st₀, t, T', L, h0, X', hL, e1, e2, ⟨w, hv, hw, hf, hp⟩, st⟩ := hr X hX St
  cases hv
  rw [h0] at hf hp
  rw [← e1] at hw hf hp
  obtain ⟨t2, a1, b1⟩ := kk w T'.heap (locs ++ L) (hW.call hw tf_e.rf hf hM hL) hf hp T' rfl X'
  exact ⟨t2, st t2 a1, b1⟩
theorem tf_enter {As : List Value} {n : Nat} (h : args = As.toArray) (hn : (lg_sl As).length ≤ n) (kk : ∀ ls, lv_has ls n (lv_args 0 As) → W p l e R s m args below meth c H locs cells slots Q (F0 m 0 ls [])) : W p l e R s m args below meth c H locs cells slots Q (entryFrame m args n) := by
  have e : entryFrame m args n = F0 m 0 ((lg_sl As ++ List.replicate (n - (lg_sl As).length) Slot.unset).toArray) [] := by
    rw [h, lg_entry_eq]
  rw [e]
  exact kk _ (lv_entry As hn)
theorem tf_reti {post : Int → Heap → Heap → Prop} {z : Int} (hexec : p.tables.exec = Jvm.exec) (hb : c.code = cc) (hr : meth.sig.returnType = some .int) (hlocks : meth.locks = false) (hQ : Q = MQ below (tf_Qi g M T post) args s 0 0 (fun q => tf_B g ≤ q)) (hW : tf_n tf_kt g M T s.heap T H locs) (hp : post z s.heap H) (hdg : decode cc pc = .ok (.ireturn, 1)) : W p l e R s m args below meth c H locs 0 0 Q (F0 m pc ls [.int (Int32.ofInt z)]) := by
  rw [hQ]
  exact W.iret hexec hb hr (fun t ht _ => ⟨z, rfl, by rw [ht]; exact hW.1, by rw [ht]; exact hW.2.2.1, by rw [ht]; exact hp⟩) hW.2.2.2.1 hdg hlocks
theorem tf_retz {post : Int → Heap → Heap → Prop} {z : Int} (hexec : p.tables.exec = Jvm.exec) (hb : c.code = cc) (hr : meth.sig.returnType = some .boolean) (hlocks : meth.locks = false) (hQ : Q = MQ below (tf_Qi g M T post) args s 0 0 (fun q => tf_B g ≤ q)) (hW : tf_n tf_kt g M T s.heap T H locs) (h01 : z = 0 ∨ z = 1) (hp : post z s.heap H) (hdg : decode cc pc = .ok (.ireturn, 1)) : W p l e R s m args below meth c H locs 0 0 Q (F0 m pc ls [.int (Int32.ofInt z)]) := by
  rw [hQ]
  exact W.zret hexec hb hr (by rcases h01 with rfl | rfl <;> decide) (fun t ht _ => ⟨z, rfl, by rw [ht]; exact hW.1, by rw [ht]; exact hW.2.2.1, by rw [ht]; exact hp⟩) hW.2.2.2.1 hdg hlocks
theorem tf_retl {post : Int → Heap → Heap → Prop} {z : Int} (hexec : p.tables.exec = Jvm.exec) (hb : c.code = cc) (hr : meth.sig.returnType = some .long) (hlocks : meth.locks = false) (hQ : Q = MQ below (tf_Ql g M T post) args s 0 0 (fun q => tf_B g ≤ q)) (hW : tf_n tf_kt g M T s.heap T H locs) (hp : post z s.heap H) (hdg : decode cc pc = .ok (.lreturn, 1)) : W p l e R s m args below meth c H locs 0 0 Q (F0 m pc ls [.long (Int64.ofInt z)]) := by
  rw [hQ]
  exact W.lret hexec hb hr (fun t ht _ => ⟨z, rfl, by rw [ht]; exact hW.1, by rw [ht]; exact hW.2.2.1, by rw [ht]; exact hp⟩) hW.2.2.2.1 hdg hlocks
theorem tf_retv {post : Heap → Heap → Prop} (hexec : p.tables.exec = Jvm.exec) (hb : c.code = cc) (hr : meth.sig.returnType = none) (hlocks : meth.locks = false) (hQ : Q = MQ below (tf_Qv g M T post) args s 0 0 (fun q => tf_B g ≤ q)) (hW : tf_n tf_kt g M T s.heap T H locs) (hp : post s.heap H) (hdg : decode cc pc = .ok (.return_, 1)) : W p l e R s m args below meth c H locs 0 0 Q (F0 m pc ls []) := by
  rw [hQ]
  exact W.vret hexec hb hr (fun t ht _ => ⟨rfl, by rw [ht]; exact hW.1, by rw [ht]; exact hW.2.2.1, by rw [ht]; exact hp⟩) hW.2.2.2.1 hdg hlocks
theorem tf_reta {post : Value → Heap → Heap → Prop} {v : Value} {rt : FieldType} (hexec : p.tables.exec = Jvm.exec) (hb : c.code = cc) (hr : meth.sig.returnType = some rt) (hrt : (∃ n, rt = .object n) ∨ ∃ t, rt = .array t) (hv : v = .null ∨ ∃ a, v = .ref a) (hlocks : meth.locks = false) (hQ : Q = MQ below (tf_Qa g M T post) args s 0 0 (fun q => tf_B g ≤ q)) (hW : tf_n tf_kt g M T s.heap T H locs) (hp : post v s.heap H) (hdg : decode cc pc = .ok (.areturn, 1)) : W p l e R s m args below meth c H locs 0 0 Q (F0 m pc ls [v]) := by
  rw [hQ]
  exact W.aret hexec hb hr hrt hv (fun t ht _ => ⟨v, rfl, by rw [ht]; exact hW.1, by rw [ht]; exact hW.2.2.1, by rw [ht]; exact hp⟩) hW.2.2.2.1 hdg hlocks
end TFC

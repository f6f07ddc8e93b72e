
abbrev tf_T : Type := Nat → Option (Nat × Nat)
abbrev tf_F : Type := Nat × Nat × Nat × Int × Int
abbrev tf_Kd : Type := Bool × Nat × List tf_F × Bool

abbrev tf_G : Type := va_G × (Nat → ClassId) × Nat × (Nat → Nat)
abbrev tf_B (g : tf_G) : Nat := g.2.2.1
def tf_v (T : tf_T) (n : Nat) (f : tf_F) (v : Value) : Prop := match f.1 with
  | 0 => ∃ z : Int, v = .int (Int32.ofInt z) ∧ f.2.2.2.1 ≤ z ∧ z ≤ f.2.2.2.2
  | 1 => ∃ a : Nat, v = .ref a ∧ T a = some (f.2.1, f.2.2.1)
  | 2 => v = .null ∨ ∃ a : Nat, v = .ref a ∧ T a = some (f.2.1, f.2.2.1)
  | 3 => ∃ a k : Nat, v = .ref a ∧ T a = some (f.2.1, k) ∧ k ≤ f.2.2.1
  | 4 => ∃ a : Nat, v = .ref a ∧ T a = some (f.2.1, n)
  | 6 => True
  | _ => ∃ z : Int, v = .long (Int64.ofInt z) ∧ f.2.2.2.1 ≤ z ∧ z ≤ f.2.2.2.2
theorem tf_v0 {T : tf_T} {n k j : Nat} {lo hi : Int} {v : Value} (h : tf_v T n (0, k, j, lo, hi) v) : ∃ z : Int, v = .int (Int32.ofInt z) ∧ lo ≤ z ∧ z ≤ hi := h
theorem tf_v1 {T : tf_T} {n k j : Nat} {lo hi : Int} {v : Value} (h : tf_v T n (1, k, j, lo, hi) v) : ∃ a : Nat, v = .ref a ∧ T a = some (k, j) := h
theorem tf_v2 {T : tf_T} {n k j : Nat} {lo hi : Int} {v : Value} (h : tf_v T n (2, k, j, lo, hi) v) : v = .null ∨ ∃ a : Nat, v = .ref a ∧ T a = some (k, j) := h
theorem tf_v3 {T : tf_T} {n k j : Nat} {lo hi : Int} {v : Value} (h : tf_v T n (3, k, j, lo, hi) v) : ∃ a i : Nat, v = .ref a ∧ T a = some (k, i) ∧ i ≤ j := h
theorem tf_v4 {T : tf_T} {n k j : Nat} {lo hi : Int} {v : Value} (h : tf_v T n (4, k, j, lo, hi) v) : ∃ a : Nat, v = .ref a ∧ T a = some (k, n) := h
theorem tf_v5 {T : tf_T} {n k j : Nat} {lo hi : Int} {v : Value} (h : tf_v T n (5, k, j, lo, hi) v) : ∃ z : Int, v = .long (Int64.ofInt z) ∧ lo ≤ z ∧ z ≤ hi := h
theorem tf_u0 {T : tf_T} {n k j : Nat} {lo hi z : Int} (h1 : lo ≤ z) (h2 : z ≤ hi) : tf_v T n (0, k, j, lo, hi) (.int (Int32.ofInt z)) := ⟨z, rfl, h1, h2⟩
theorem tf_u1 {T : tf_T} {n k j a : Nat} {lo hi : Int} (h : T a = some (k, j)) : tf_v T n (1, k, j, lo, hi) (.ref a) := ⟨a, rfl, h⟩
theorem tf_u2 {T : tf_T} {n k j a : Nat} {lo hi : Int} (h : T a = some (k, j)) : tf_v T n (2, k, j, lo, hi) (.ref a) := Or.inr ⟨a, rfl, h⟩
theorem tf_u2n {T : tf_T} {n k j : Nat} {lo hi : Int} : tf_v T n (2, k, j, lo, hi) .null := Or.inl rfl
theorem tf_u3 {T : tf_T} {n k j a i : Nat} {lo hi : Int} (h : T a = some (k, i)) (hi2 : i ≤ j) : tf_v T n (3, k, j, lo, hi) (.ref a) := ⟨a, i, rfl, h, hi2⟩
theorem tf_u5 {T : tf_T} {n k j : Nat} {lo hi z : Int} (h1 : lo ≤ z) (h2 : z ≤ hi) : tf_v T n (5, k, j, lo, hi) (.long (Int64.ofInt z)) := ⟨z, rfl, h1, h2⟩
def tf_c (kt : List tf_Kd) (g : tf_G) (T : tf_T) (k n : Nat) (cell : Cell) : Prop :=
  ∃ q : tf_Kd, kt[k]? = some q ∧ cell.vm = .none ∧
    (q.1 = true → cell.cls = g.2.1 q.2.1 ∧ cell.slots.size = n ∧ n < 2147483648 ∧ (∀ (j : Nat) (f : tf_F), j < n → q.2.2.1[0]? = some f → ∃ v, cell.slots[j]? = some v ∧ tf_v T n f v) ∧ ∀ f : tf_F, q.2.2.1[0]? = some f → tf_ok f.2.2.1 (tf_cw cell)) ∧
    (q.1 = false → cell.cls = g.1.1 q.2.1 ∧ ∀ (j : Nat) (f : tf_F), q.2.2.1[j]? = some f → ∃ v, cell.slots[g.1.2 q.2.1 j]? = some v ∧ tf_v T n f v)
def tf_w (kt : List tf_Kd) (g : tf_G) (T : tf_T) (H : Heap) : Prop :=
  (∀ a k n, T a = some (k, n) → ∃ cell, H[a]? = some cell ∧ tf_c kt g T k n cell) ∧ ∀ a k n (q : tf_Kd), T a = some (k, n) → kt[k]? = some q → q.2.2.2 = false → tf_B g ≤ a
def tf_s (H : Heap) (a j : Nat) : Option Value := (H[a]?).bind (fun c => c.slots[j]?)
def tf_rw (H : Heap) (a : Nat) : Int → Int := fun j => if j < 0 then 0 else tf_iv (tf_s H a j.toNat)
theorem tf_rw_cell {H : Heap} {a : Nat} {c : Cell} (h : H[a]? = some c) : tf_rw H a = tf_cw c := by
  funext j
  unfold tf_rw tf_cw tf_s
  rw [h]; rfl
theorem tf_rw_of {H : Heap} {a : Nat} {i z : Int} (h0 : 0 ≤ i) (hs : tf_s H a i.toNat = some (.int (Int32.ofInt z))) (hz : tf_r z) : tf_rw H a i = z := by
  unfold tf_rw
  rw [if_neg (by omega), hs]
  exact tf_ti hz
theorem tf_rw_up {H H' : Heap} {a : Nat} {i z : Int} (h0 : 0 ≤ i) (hs : tf_s H' a i.toNat = some (.int (Int32.ofInt z))) (hz : tf_r z) (ht : ∀ j, j ≠ i.toNat → tf_s H' a j = tf_s H a j) : tf_rw H' a = tf_up (tf_rw H a) i z := by
  funext j
  by_cases h : j = i
  · subst h
    rw [tf_up_at]; exact tf_rw_of h0 hs hz
  · rw [tf_up_ne h]
    unfold tf_rw
    by_cases h2 : j < 0
    · rw [if_pos h2, if_pos h2]
    · rw [if_neg h2, if_neg h2, ht _ (by omega)]
theorem tf_rw_eq {H H' : Heap} {a : Nat} (h : H'[a]? = H[a]?) : tf_rw H' a = tf_rw H a := by
  funext j
  unfold tf_rw tf_s
  rw [h]

def tf_f (kt : List tf_Kd) (g : tf_G) (M : List (Nat × Nat)) (T0 : tf_T) (H0 H : Heap) : Prop :=
  H0.size ≤ H.size ∧ (∀ a, a < H0.size → a < tf_B g ∨ T0 a = none → H[a]? = H0[a]?) ∧
  ∀ a k n (q : tf_Kd), T0 a = some (k, n) → kt[k]? = some q → (q.1 = true → (k, 0) ∉ M → H[a]? = H0[a]?) ∧ (q.1 = false → ∀ j, j < q.2.2.1.length → (k, j) ∉ M → tf_s H a (g.1.2 q.2.1 j) = tf_s H0 a (g.1.2 q.2.1 j))
def tf_e (T0 T : tf_T) (z : Nat) : Prop := (∀ a x, T0 a = some x → T a = some x) ∧ ∀ a, a < z → T0 a = none → T a = none
def tf_n (kt : List tf_Kd) (g : tf_G) (M : List (Nat × Nat)) (T0 : tf_T) (H0 : Heap) (T : tf_T) (H : Heap) (locs : List Loc) : Prop :=
  tf_w kt g T H ∧ tf_e T0 T H0.size ∧ tf_f kt g M T0 H0 H ∧ (∀ q ∈ locs, tf_B g ≤ q.base) ∧ tf_B g ≤ H0.size
theorem tf_f.rf {kt : List tf_Kd} {g : tf_G} {M : List (Nat × Nat)} {T0 : tf_T} {H : Heap} : tf_f kt g M T0 H H := ⟨Nat.le_refl _, fun _ _ _ => rfl, fun _ _ _ _ _ _ => ⟨fun _ _ => rfl, fun _ _ _ _ => rfl⟩⟩
theorem tf_e.rf {T : tf_T} {z : Nat} : tf_e T T z := ⟨fun _ _ h => h, fun _ _ h => h⟩
theorem tf_n.start {kt : List tf_Kd} {g : tf_G} {M : List (Nat × Nat)} {T : tf_T} {H : Heap} (h : tf_w kt g T H) (hB : tf_B g ≤ H.size) : tf_n kt g M T H T H [] := ⟨h, tf_e.rf, tf_f.rf, fun _ h => (by cases h), hB⟩
theorem tf_w.set {kt : List tf_Kd} {g : tf_G} {T : tf_T} {H H' : Heap} (hW : tf_w kt g T H) {a k n : Nat} (ha : T a = some (k, n)) {cell' : Cell} (hc : tf_c kt g T k n cell') (h1 : H'[a]? = some cell') (h2 : ∀ q, q ≠ a → H'[q]? = H[q]?) : tf_w kt g T H' := by
  refine ⟨fun b k2 n2 hb => ?_, hW.2⟩
  by_cases e : b = a
  · subst e
    rw [ha] at hb
    cases hb
    exact ⟨cell', h1, hc⟩
  · obtain ⟨c0, h3, h4⟩ := hW.1 b k2 n2 hb
    exact ⟨c0, by rw [h2 b e]; exact h3, h4⟩
theorem tf_old {T0 T : tf_T} {z a k n : Nat} (hE : tf_e T0 T z) (ha : T a = some (k, n)) (hz : a < z) : T0 a = some (k, n) := by
  cases h : T0 a with
  | none => rw [hE.2 a hz h] at ha; cases ha
  | some x => rw [hE.1 a x h] at ha; exact ha

theorem tf_n.arr {kt : List tf_Kd} {g : tf_G} {M : List (Nat × Nat)} {T0 : tf_T} {H0 : Heap} {T : tf_T} {H H' : Heap} {locs : List Loc} (hN : tf_n kt g M T0 H0 T H locs) {a k n : Nat} (ha : T a = some (k, n)) {ci : Nat} {fts : List tf_F} (hk : kt[k]? = some (true, ci, fts, false)) (hM : (k, 0) ∈ M)
    {cell cell' : Cell} (hc : H[a]? = some cell) (h0 : cell'.vm = .none) (h3 : cell'.cls = cell.cls) (h4 : cell'.slots.size = cell.slots.size) (h5 : ∀ (j : Nat) (f : tf_F), j < n → fts[0]? = some f → ∃ v, cell'.slots[j]? = some v ∧ tf_v T n f v)
    (h1 : H'[a]? = some cell') (hz : H'.size = H.size) (h2 : ∀ q, q ≠ a → H'[q]? = H[q]?) (h6 : ∀ f : tf_F, fts[0]? = some f → tf_ok f.2.2.1 (tf_cw cell')) {i : Nat} : tf_n kt g M T0 H0 T H' (locs ++ [⟨a, i⟩]) := by
  obtain ⟨hW, hE, hF, hL, hB⟩ := hN
  have hBa : tf_B g ≤ a := hW.2 a k n _ ha hk rfl
  obtain ⟨c2, e1, q, e2, e3, e4, e5⟩ := hW.1 a k n ha
  cases hc.symm.trans e1
  cases hk.symm.trans e2
  refine ⟨hW.set ha ⟨_, hk, h0, fun _ => ⟨by rw [h3]; exact (e4 rfl).1, by rw [h4]; exact (e4 rfl).2.1, (e4 rfl).2.2.1, h5, h6⟩, fun h => by cases h⟩ h1 h2, hE, ⟨by rw [hz]; exact hF.1, fun b hb h => ?_, fun b k2 n2 q hb hq => ?_⟩, fun q hq => ?_, hB⟩
  · have hne : b ≠ a := by
      rintro rfl
      rcases h with h | h
      · omega
      · rw [hE.2 b hb h] at ha; cases ha
    rw [h2 b hne]; exact hF.2.1 b hb h
  · by_cases e : b = a
    · subst e
      have := hE.1 b _ hb
      rw [ha] at this
      cases this
      cases hk.symm.trans hq
      exact ⟨fun _ hm => absurd hM hm, fun h => by cases h⟩
    · have h6 := hF.2.2 b k2 n2 q hb hq
      refine ⟨fun x y => by rw [h2 b e]; exact h6.1 x y, fun x j hj y => ?_⟩
      have h7 := h6.2 x j hj y
      unfold tf_s at h7 ⊢
      rw [h2 b e]; exact h7
  · rcases List.mem_append.mp hq with h | h
    · exact hL q h
    · rw [List.mem_singleton.mp h]; exact hBa

theorem tf_n.obj {kt : List tf_Kd} {g : tf_G} {M : List (Nat × Nat)} {T0 : tf_T} {H0 : Heap} {T : tf_T} {H H' : Heap} {locs : List Loc} (hN : tf_n kt g M T0 H0 T H locs) {a k n : Nat} (ha : T a = some (k, n)) {ci : Nat} {fts : List tf_F} (hk : kt[k]? = some (false, ci, fts, false)) {j0 : Nat} (hM : (k, j0) ∈ M)
    (hap : ∀ x y, x < fts.length → y < fts.length → x ≠ y → g.1.2 ci x ≠ g.1.2 ci y) {f0 : tf_F} (hf0 : fts[j0]? = some f0) {v0 : Value} (hv0 : tf_v T n f0 v0)
    {cell : Cell} (hc : H[a]? = some cell) (h1 : H'[a]? = some (cell.setSlot (g.1.2 ci j0) v0)) (hz : H'.size = H.size) (h2 : ∀ q, q ≠ a → H'[q]? = H[q]?) {i : Nat} : tf_n kt g M T0 H0 T H' (locs ++ [⟨a, i⟩]) := by
  obtain ⟨hW, hE, hF, hL, hB⟩ := hN
  have hBa : tf_B g ≤ a := hW.2 a k n _ ha hk rfl
  obtain ⟨c2, e1, q, e2, e3, e4, e5⟩ := hW.1 a k n ha
  cases hc.symm.trans e1
  cases hk.symm.trans e2
  have hj0 : j0 < fts.length := (List.getElem?_eq_some_iff.mp hf0).1
  obtain ⟨w0, hw0, -⟩ := (e5 rfl).2 j0 f0 hf0
  refine ⟨hW.set (cell' := cell.setSlot (g.1.2 ci j0) v0) ha ⟨_, hk, e3, fun h => (by cases h), fun _ => ⟨(e5 rfl).1, fun j f hj => ?_⟩⟩ h1 h2, hE, ⟨by rw [hz]; exact hF.1, fun b hb h => ?_, fun b k2 n2 q hb hq => ?_⟩, fun q hq => ?_, hB⟩
  · by_cases e : j = j0
    · subst e
      rw [hf0] at hj
      cases hj
      exact ⟨v0, Cell.slots_setSlot_self v0 (k2_hasslot hw0), hv0⟩
    · obtain ⟨v, h6, h7⟩ := (e5 rfl).2 j f hj
      exact ⟨v, by rw [slot_ne _ _ (hap j0 j hj0 (List.getElem?_eq_some_iff.mp hj).1 (fun q => e q.symm))]; exact h6, h7⟩
  · have hne : b ≠ a := by
      rintro rfl
      rcases h with h | h
      · omega
      · rw [hE.2 b hb h] at ha; cases ha
    rw [h2 b hne]; exact hF.2.1 b hb h
  · by_cases e : b = a
    · subst e
      have := hE.1 b _ hb
      rw [ha] at this
      cases this
      cases hk.symm.trans hq
      refine ⟨fun h => (by cases h), fun _ j hj hm => ?_⟩
      have hne : j0 ≠ j := by rintro rfl; exact hm hM
      have h7 := (hF.2.2 b k n _ hb hq).2 rfl j hj hm
      rw [← h7]
      unfold tf_s
      rw [h1, hc]
      exact slot_ne _ _ (hap j0 j hj0 hj hne)
    · have h6 := hF.2.2 b k2 n2 q hb hq
      refine ⟨fun x y => by rw [h2 b e]; exact h6.1 x y, fun x j hj y => ?_⟩
      have h7 := h6.2 x j hj y
      unfold tf_s at h7 ⊢
      rw [h2 b e]; exact h7
  · rcases List.mem_append.mp hq with h | h
    · exact hL q h
    · rw [List.mem_singleton.mp h]; exact hBa

theorem tf_n.call {kt : List tf_Kd} {g : tf_G} {M Mc : List (Nat × Nat)} {T0 : tf_T} {H0 : Heap} {T T' : tf_T} {H H' : Heap} {locs L : List Loc} (hN : tf_n kt g M T0 H0 T H locs) (hW' : tf_w kt g T' H') (hE' : tf_e T T' H.size) (hF' : tf_f kt g Mc T H H') (hM : ∀ x ∈ Mc, x ∈ M) (hL' : ∀ q ∈ L, tf_B g ≤ q.base) : tf_n kt g M T0 H0 T' H' (locs ++ L) := by
  obtain ⟨hW, hE, hF, hL, hB⟩ := hN
  refine ⟨hW', ⟨fun a x h => hE'.1 a x (hE.1 a x h), fun a h h2 => hE'.2 a (Nat.lt_of_lt_of_le h hF.1) (hE.2 a h h2)⟩, ⟨Nat.le_trans hF.1 hF'.1, fun a h h2 => ?_, fun a k n q h h2 => ?_⟩, fun q hq => ?_, hB⟩
  · rw [hF'.2.1 a (Nat.lt_of_lt_of_le h hF.1) (h2.imp id (fun z => hE.2 a h z)), hF.2.1 a h h2]
  · have h5 := hF.2.2 a k n q h h2
    have h6 := hF'.2.2 a k n q (hE.1 a _ h) h2
    exact ⟨fun x y => (h6.1 x (fun z => y (hM _ z))).trans (h5.1 x y), fun x j hj y => (h6.2 x j hj (fun z => y (hM _ z))).trans (h5.2 x j hj y)⟩
  · rcases List.mem_append.mp hq with h | h
    · exact hL q h
    · exact hL' q h

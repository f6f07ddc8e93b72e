def tf_cmp (pi : Int → Int) (p : Int) : Prop := ∃ k, 0 ≤ k ∧ k < p ∧ (24 ≤ pi k ∧ pi k ≤ 26) ∧ ∀ i, k < i → i < p → 20 ≤ pi i ∧ pi i ≤ 23
def tf_CP (pi : Int → Int) (p c : Int) : Prop := (c = 1 ∧ tf_cmp pi p) ∨ (c = 0 ∧ ¬ tf_cmp pi p)
def tf_AB (pi : Int → Int) : List (Int × Int) → Int → Prop
  | [], p => ∀ j, 0 ≤ j → j < p → pi j < 30
  | (b, c) :: S, p => (30 ≤ b ∧ b ≤ 31) ∧ ∃ j, 0 ≤ j ∧ j < p ∧ pi j = b ∧ (∀ i, j < i → i < p → pi i < 30) ∧ tf_CP pi j c ∧ tf_AB pi S j
theorem tf_cmp_congr {pi pj : Int → Int} {p : Int} (e : ∀ i, i < p → pj i = pi i) (h : tf_cmp pi p) : tf_cmp pj p := by
  obtain ⟨k, h1, h2, h3, h4⟩ := h
  exact ⟨k, h1, h2, by rw [e k h2]; exact h3, fun i i0 i1 => by rw [e i i1]; exact h4 i i0 i1⟩
theorem tf_CP_congr {pi pj : Int → Int} {p c : Int} (e : ∀ i, i < p → pj i = pi i) (h : tf_CP pi p c) : tf_CP pj p c := by
  rcases h with ⟨h1, h2⟩ | ⟨h1, h2⟩
  · exact Or.inl ⟨h1, tf_cmp_congr e h2⟩
  · exact Or.inr ⟨h1, fun q => h2 (tf_cmp_congr (fun i hi => (e i hi).symm) q)⟩
theorem tf_AB_congr {pi pj : Int → Int} : ∀ {S : List (Int × Int)} {p : Int}, (∀ i, i < p → pj i = pi i) → tf_AB pi S p → tf_AB pj S p
  | [], p, e, h => fun j j0 j1 => by rw [e j j1]; exact h j j0 j1
  | (b, c) :: S, p, e, h => by
    obtain ⟨h0, j, j0, j1, hb, hn, hc, hS⟩ := h
    exact ⟨h0, j, j0, j1, by rw [e j j1]; exact hb, fun i i0 i1 => by rw [e i i1]; exact hn i i0 i1, tf_CP_congr (fun i hi => e i (by omega)) hc, tf_AB_congr (fun i hi => e i (by omega)) hS⟩
theorem tf_CP_0 {pi : Int → Int} : tf_CP pi 0 0 := Or.inr ⟨rfl, fun ⟨k, h1, h2, _⟩ => by omega⟩
theorem tf_AB_0 {pi : Int → Int} : tf_AB pi [] 0 := fun j j0 j1 => by omega
theorem tf_AB_op {pi : Int → Int} {p x : Int} (hx : x < 30) : ∀ {S : List (Int × Int)}, tf_AB pi S p → tf_AB (tf_up pi p x) S (p + 1)
  | [], h => fun j j0 j1 => by
    by_cases e : j = p
    · rw [e, tf_up_at]; exact hx
    · rw [tf_up_ne e]; exact h j j0 (by omega)
  | (b, c) :: S, h => by
    obtain ⟨h0, j, j0, j1, hb, hn, hc, hS⟩ := h
    refine ⟨h0, j, j0, by omega, by rw [tf_up_ne (by omega)]; exact hb, fun i i0 i1 => ?_, tf_CP_congr (fun i hi => tf_up_ne (by omega)) hc, tf_AB_congr (fun i hi => tf_up_ne (by omega)) hS⟩
    by_cases e : i = p
    · rw [e, tf_up_at]; exact hx
    · rw [tf_up_ne e]; exact hn i i0 (by omega)
theorem tf_AB_br {pi : Int → Int} {p b c : Int} {S : List (Int × Int)} (h : tf_AB pi S p) (hc : tf_CP pi p c) (h0 : 0 ≤ p) (hb : 30 ≤ b ∧ b ≤ 31) : tf_AB (tf_up pi p b) ((b, c) :: S) (p + 1) :=
  ⟨hb, p, h0, by omega, tf_up_at, fun i i0 i1 => by omega, tf_CP_congr (fun i hi => tf_up_ne (by omega)) hc, tf_AB_congr (fun i hi => tf_up_ne (by omega)) h⟩
theorem tf_cmp_ar {pi : Int → Int} {p x : Int} (hx : 20 ≤ x ∧ x ≤ 23) : tf_cmp (tf_up pi p x) (p + 1) ↔ tf_cmp pi p := by
  constructor
  · intro ⟨k, h1, h2, h3, h4⟩
    by_cases e : k = p
    · rw [e, tf_up_at] at h3; omega
    · rw [tf_up_ne e] at h3
      exact ⟨k, h1, by omega, h3, fun i i0 i1 => by have := h4 i i0 (by omega); rwa [tf_up_ne (by omega)] at this⟩
  · intro ⟨k, h1, h2, h3, h4⟩
    refine ⟨k, h1, by omega, by rw [tf_up_ne (by omega)]; exact h3, fun i i0 i1 => ?_⟩
    by_cases e : i = p
    · rw [e, tf_up_at]; exact hx
    · rw [tf_up_ne e]; exact h4 i i0 (by omega)
theorem tf_CP_ar {pi : Int → Int} {p x c : Int} (h : tf_CP pi p c) (hx : 20 ≤ x ∧ x ≤ 23) : tf_CP (tf_up pi p x) (p + 1) c := by
  rcases h with ⟨h1, h2⟩ | ⟨h1, h2⟩
  · exact Or.inl ⟨h1, (tf_cmp_ar hx).mpr h2⟩
  · exact Or.inr ⟨h1, fun q => h2 ((tf_cmp_ar hx).mp q)⟩
theorem tf_CP_cm {pi : Int → Int} {p x : Int} (h0 : 0 ≤ p) (hx : 24 ≤ x ∧ x ≤ 26) : tf_CP (tf_up pi p x) (p + 1) 1 :=
  Or.inl ⟨rfl, p, h0, by omega, by rw [tf_up_at]; exact hx, fun i i0 i1 => by omega⟩
theorem tf_CP_no {pi : Int → Int} {p x : Int} (hx : x < 20 ∨ 26 < x) : tf_CP (tf_up pi p x) (p + 1) 0 := Or.inr ⟨rfl, fun ⟨k, h1, h2, h3, h4⟩ => by
  by_cases e : k = p
  · rw [e, tf_up_at] at h3; omega
  · have := h4 p (by omega) (by omega)
    rw [tf_up_at] at this; omega⟩
theorem tf_AB_pop {pi : Int → Int} {p q : Int} (hq : q ≤ p) (hn : ∀ i, q ≤ i → i < p → pi i < 30) : ∀ {S : List (Int × Int)}, tf_AB pi S p → tf_AB pi S q
  | [], h => fun j j0 j1 => h j j0 (by omega)
  | (b, c) :: S, h => by
    obtain ⟨h0, j, j0, j1, hb, hm, hc, hS⟩ := h
    have hj : j < q := by
      by_cases e : j < q
      · exact e
      · have := hn j (by omega) j1
        omega
    exact ⟨h0, j, j0, hj, hb, fun i i0 i1 => hm i i0 (by omega), hc, hS⟩
theorem tf_CP_pop {pi : Int → Int} {p q c : Int} (hq : q ≤ p) (hn : ∀ i, q ≤ i → i < p → 20 ≤ pi i ∧ pi i ≤ 23) (h : tf_CP pi p c) : tf_CP pi q c := by
  rcases h with ⟨h1, k, k0, k1, k2, k3⟩ | ⟨h1, h2⟩
  · have hk : k < q := by
      by_cases e : k < q
      · exact e
      · have := hn k (by omega) k1
        omega
    exact Or.inl ⟨h1, k, k0, hk, k2, fun i i0 i1 => k3 i i0 (by omega)⟩
  · refine Or.inr ⟨h1, fun ⟨k, k0, k1, k2, k3⟩ => h2 ⟨k, k0, by omega, k2, fun i i0 i1 => ?_⟩⟩
    by_cases e : i < q
    · exact k3 i i0 e
    · exact hn i (by omega) i1
theorem tf_AB_cl {pi : Int → Int} {p b c : Int} {S : List (Int × Int)} (h : tf_AB pi ((b, c) :: S) p) (hp : 30 ≤ pi (p - 1)) : pi (p - 1) = b ∧ tf_AB pi S (p - 1) ∧ tf_CP pi (p - 1) c := by
  obtain ⟨h0, j, j0, j1, hb, hm, hc, hS⟩ := h
  have hj : j = p - 1 := by
    by_cases e : j = p - 1
    · exact e
    · have := hm (p - 1) (by omega) (by omega)
      omega
  subst hj
  exact ⟨hb, hS, hc⟩
theorem tf_AB_inn {pi : Int → Int} {p z : Int} {S : List (Int × Int)} (h : tf_AB pi S p) (hi : tf_inn pi p z) : (z = -1 ∧ S = []) ∨ ∃ c S2, S = (z, c) :: S2 := by
  match S, h with
  | [], h =>
    rcases hi with ⟨h1, -⟩ | ⟨h1, j, j0, j1, hj, -⟩
    · exact Or.inl ⟨h1, rfl⟩
    · have := h j j0 j1
      omega
  | (b, c) :: S2, h =>
    obtain ⟨h0, j, j0, j1, hb, hm, -, -⟩ := h
    rcases hi with ⟨-, h2⟩ | ⟨h1, k, k0, k1, hk, hn⟩
    · have := h2 j j0 j1
      omega
    · have e : j = k := by
        by_cases c1 : j < k
        · have := hm k c1 k1
          omega
        · by_cases c2 : k < j
          · have := hn j c2 j1
            omega
          · omega
      subst e
      exact Or.inr ⟨c, S2, by rw [← hb, hk]⟩

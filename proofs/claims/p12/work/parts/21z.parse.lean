def tf_PE (pi pa d D : Int → Int) (fs c j : Int) : Prop :=
  (20 ≤ pi j ∧ pi j ≤ 26 ∧ D (j + 1) = D j + 1) ∨ (pi j = 27 ∧ D (j + 1) = D j) ∨ (28 ≤ pi j ∧ pi j ≤ 29 ∧ D (j + 1) = D j ∧ fs ≤ pa j ∧ pa j < c ∧ d (pa j) = D j + 1) ∨ (30 ≤ pi j ∧ pi j ≤ 31 ∧ D (j + 1) = D j)
def tf_PC (op ar pi pa d : Int → Int) (c p k : Int) : Prop :=
  (0 ≤ op k ∧ op k ≤ 9 ∧ d (k + 1) = d k + 1) ∨ (20 ≤ op k ∧ op k ≤ 26 ∧ 2 ≤ d k ∧ d (k + 1) = d k - 1) ∨ (op k = 27 ∧ 1 ≤ d k ∧ d (k + 1) = d k) ∨ (28 ≤ op k ∧ op k ≤ 29 ∧ 1 ≤ d k ∧ d (k + 1) = d k - 1 ∧ ((k < ar k ∧ ar k ≤ c ∧ d (ar k) = d k) ∨ ∃ j, 0 ≤ j ∧ j < p ∧ 28 ≤ pi j ∧ pi j ≤ 29 ∧ pa j = k))
def tf_PI (o0 u0 op ar pi pa : Int → Int) (fs c p w : Int) : Prop :=
  0 ≤ fs ∧ fs ≤ c ∧ 0 ≤ p ∧ (∀ k, k < fs → op k = o0 k ∧ ar k = u0 k) ∧ ∃ d D : Int → Int, d fs = 0 ∧ D 0 = 0 ∧ d c = D p + w ∧ (∀ k, fs ≤ k → k ≤ c → 0 ≤ d k ∧ d k ≤ k) ∧ (∀ j, 0 ≤ j → j ≤ p → 0 ≤ D j) ∧ (∀ k, fs ≤ k → k < c → tf_PC op ar pi pa d c p k) ∧ (∀ j, 0 ≤ j → j < p → tf_PE pi pa d D fs c j)
theorem tf_PC_mono {op ar op' ar' pi pi' pa pa' d d' : Int → Int} {c c' p p' k : Int} (hk : k < c) (h : tf_PC op ar pi pa d c p k) (e1 : op' k = op k) (e2 : ar' k = ar k) (ed : ∀ i, i ≤ c → d' i = d i) (hc : c ≤ c') (hj : ∀ j, 0 ≤ j → j < p → 28 ≤ pi j → pi j ≤ 29 → pa j = k → j < p' ∧ pi' j = pi j ∧ pa' j = pa j) : tf_PC op' ar' pi' pa' d' c' p' k := by
  unfold tf_PC at h ⊢
  rw [e1, e2, ed k (by omega), ed (k + 1) (by omega)]
  rcases h with h | h | h | ⟨h1, h2, h3, h4, h5⟩
  · exact Or.inl h
  · exact Or.inr (Or.inl h)
  · exact Or.inr (Or.inr (Or.inl h))
  · refine Or.inr (Or.inr (Or.inr ⟨h1, h2, h3, h4, ?_⟩))
    rcases h5 with ⟨a1, a2, a3⟩ | ⟨j, b0, b1, b2, b3, b4⟩
    · exact Or.inl ⟨a1, by omega, by rw [ed _ a2]; exact a3⟩
    · obtain ⟨q1, q2, q3⟩ := hj j b0 b1 b2 b3 b4
      exact Or.inr ⟨j, b0, q1, by omega, by omega, by omega⟩
theorem tf_PE_mono {pi pi' pa pa' d d' D D' : Int → Int} {fs c c' j : Int} (h : tf_PE pi pa d D fs c j) (e1 : pi' j = pi j) (e2 : pa' j = pa j) (e3 : D' j = D j) (e4 : D' (j + 1) = D (j + 1)) (ed : ∀ i, i < c → d' i = d i) (hc : c ≤ c') : tf_PE pi' pa' d' D' fs c' j := by
  unfold tf_PE at h ⊢
  rw [e1, e2, e3, e4]
  rcases h with h | h | ⟨h1, h2, h3, h4, h5, h6⟩ | h
  · exact Or.inl h
  · exact Or.inr (Or.inl h)
  · exact Or.inr (Or.inr (Or.inl ⟨h1, h2, h3, h4, by omega, by rw [ed _ h5]; exact h6⟩))
  · exact Or.inr (Or.inr (Or.inr h))
theorem tf_PI_0 {op ar pi pa : Int → Int} {c : Int} (h : 0 ≤ c) : tf_PI op ar op ar pi pa c c 0 0 :=
  ⟨h, Int.le_refl _, Int.le_refl _, fun _ _ => ⟨rfl, rfl⟩, fun _ => 0, fun _ => 0, rfl, rfl, rfl, fun k h1 h2 => ⟨Int.le_refl _, by show (0 : Int) ≤ k; omega⟩, fun _ _ _ => Int.le_refl _, fun k h1 h2 => by omega, fun j h1 h2 => by omega⟩
theorem tf_PI_leaf {o0 u0 op ar pi pa : Int → Int} {fs c p x y : Int} (h : tf_PI o0 u0 op ar pi pa fs c p 0) (hx0 : 0 ≤ x) (hx1 : x ≤ 9) : tf_PI o0 u0 (tf_up op c x) (tf_up ar c y) pi pa fs (c + 1) p 1 := by
  obtain ⟨h0, h1, h2, h3, d, D, q0, q1, q2, q3, q4, q5, q6⟩ := h
  have ed : ∀ i, i ≤ c → tf_up d (c + 1) (d c + 1) i = d i := fun i hi => tf_up_ne (by omega)
  refine ⟨h0, by omega, h2, fun k hk => ?_, tf_up d (c + 1) (d c + 1), D, ?_, q1, ?_, fun k k0 k1 => ?_, q4, fun k k0 k1 => ?_, fun j j0 j1 => ?_⟩
  · rw [tf_up_ne (by omega), tf_up_ne (by omega)]; exact h3 k hk
  · rw [ed _ h1]; exact q0
  · rw [tf_up_at]; omega
  · by_cases e : k = c + 1
    · subst e; rw [tf_up_at]; have := q3 c h1 (Int.le_refl _); omega
    · rw [ed k (by omega)]; exact q3 k k0 (by omega)
  · by_cases e : k = c
    · subst e
      unfold tf_PC
      rw [tf_up_at, tf_up_at, ed _ (Int.le_refl _)]
      exact Or.inl ⟨hx0, hx1, rfl⟩
    · exact tf_PC_mono (by omega) (q5 k k0 (by omega)) (tf_up_ne e) (tf_up_ne e) ed (by omega) (fun j _ b1 _ _ _ => ⟨b1, rfl, rfl⟩)
  · exact tf_PE_mono (q6 j j0 j1) rfl rfl rfl rfl (fun i hi => ed i (by omega)) (by omega)
theorem tf_PI_push {o0 u0 op ar pi pa : Int → Int} {fs c p w x y δ : Int} (h : tf_PI o0 u0 op ar pi pa fs c p w) (hx : (20 ≤ x ∧ x ≤ 26 ∧ δ = 1) ∨ (x = 27 ∧ δ = 0) ∨ (30 ≤ x ∧ x ≤ 31 ∧ δ = 0)) : tf_PI o0 u0 op ar (tf_up pi p x) (tf_up pa p y) fs c (p + 1) (w - δ) := by
  obtain ⟨h0, h1, h2, h3, d, D, q0, q1, q2, q3, q4, q5, q6⟩ := h
  have eD : ∀ i, i ≤ p → tf_up D (p + 1) (D p + δ) i = D i := fun i hi => tf_up_ne (by omega)
  refine ⟨h0, h1, by omega, h3, d, tf_up D (p + 1) (D p + δ), q0, ?_, ?_, q3, fun j j0 j1 => ?_, fun k k0 k1 => ?_, fun j j0 j1 => ?_⟩
  · rw [eD _ h2]; exact q1
  · rw [tf_up_at]; omega
  · by_cases e : j = p + 1
    · subst e; rw [tf_up_at]; have := q4 p h2 (Int.le_refl _); omega
    · rw [eD j (by omega)]; exact q4 j j0 (by omega)
  · exact tf_PC_mono k1 (q5 k k0 k1) rfl rfl (fun _ _ => rfl) (Int.le_refl _) (fun j _ b1 _ _ _ => ⟨by omega, tf_up_ne (by omega), tf_up_ne (by omega)⟩)
  · by_cases e : j = p
    · subst e
      unfold tf_PE
      rw [tf_up_at, tf_up_at, tf_up_at, eD _ (Int.le_refl _)]
      rcases hx with h | h | h
      · exact Or.inl ⟨h.1, h.2.1, by omega⟩
      · exact Or.inr (Or.inl ⟨h.1, by omega⟩)
      · exact Or.inr (Or.inr (Or.inr ⟨h.1, h.2.1, by omega⟩))
    · exact tf_PE_mono (q6 j j0 (by omega)) (tf_up_ne e) (tf_up_ne e) (eD _ (by omega)) (eD _ (by omega)) (fun _ _ => rfl) (Int.le_refl _)
theorem tf_PI_and {o0 u0 op ar pi pa : Int → Int} {fs c p x : Int} (h : tf_PI o0 u0 op ar pi pa fs c p 1) (hx0 : 28 ≤ x) (hx1 : x ≤ 29) : tf_PI o0 u0 (tf_up op c x) (tf_up ar c 0) (tf_up pi p x) (tf_up pa p c) fs (c + 1) (p + 1) 0 := by
  obtain ⟨h0, h1, h2, h3, d, D, q0, q1, q2, q3, q4, q5, q6⟩ := h
  have hDp := q4 p h2 (Int.le_refl _)
  have eD : ∀ i, i ≤ p → tf_up D (p + 1) (D p) i = D i := fun i hi => tf_up_ne (by omega)
  have ed : ∀ i, i ≤ c → tf_up d (c + 1) (d c - 1) i = d i := fun i hi => tf_up_ne (by omega)
  refine ⟨h0, by omega, by omega, fun k hk => ?_, tf_up d (c + 1) (d c - 1), tf_up D (p + 1) (D p), ?_, ?_, ?_, fun k k0 k1 => ?_, fun j j0 j1 => ?_, fun k k0 k1 => ?_, fun j j0 j1 => ?_⟩
  · rw [tf_up_ne (by omega), tf_up_ne (by omega)]; exact h3 k hk
  · rw [ed _ h1]; exact q0
  · rw [eD _ h2]; exact q1
  · rw [tf_up_at, tf_up_at]; omega
  · by_cases e : k = c + 1
    · subst e; rw [tf_up_at]; have := q3 c h1 (Int.le_refl _); omega
    · rw [ed k (by omega)]; exact q3 k k0 (by omega)
  · by_cases e : j = p + 1
    · subst e; rw [tf_up_at]; exact hDp
    · rw [eD j (by omega)]; exact q4 j j0 (by omega)
  · by_cases e : k = c
    · subst e
      unfold tf_PC
      rw [tf_up_at, tf_up_at, tf_up_at, ed _ (Int.le_refl _)]
      exact Or.inr (Or.inr (Or.inr ⟨hx0, hx1, by omega, rfl, Or.inr ⟨p, h2, by omega, by rw [tf_up_at]; exact hx0, by rw [tf_up_at]; exact hx1, tf_up_at⟩⟩))
    · exact tf_PC_mono (by omega) (q5 k k0 (by omega)) (tf_up_ne e) (tf_up_ne e) ed (by omega) (fun j _ b1 _ _ _ => ⟨by omega, tf_up_ne (by omega), tf_up_ne (by omega)⟩)
  · by_cases e : j = p
    · subst e
      unfold tf_PE
      rw [tf_up_at, tf_up_at, tf_up_at, eD _ (Int.le_refl _), ed _ (Int.le_refl _)]
      exact Or.inr (Or.inr (Or.inl ⟨hx0, hx1, rfl, h1, by omega, by omega⟩))
    · exact tf_PE_mono (q6 j j0 (by omega)) (tf_up_ne e) (tf_up_ne e) (eD _ (by omega)) (eD _ (by omega)) (fun i hi => ed i (by omega)) (by omega)
theorem tf_PI_patch {o0 u0 op ar pi pa : Int → Int} {fs c p p' z : Int} (h : tf_PI o0 u0 op ar pi pa fs c p 1) (hp : p' = p - 1) (h0p : 0 < p) (hx0 : 28 ≤ pi p') (hx1 : pi p' ≤ 29) (hz : pa p' = z) : tf_PI o0 u0 op (tf_up ar z c) pi pa fs c p' 1 := by
  subst hp
  obtain ⟨h0, h1, h2, h3, d, D, q0, q1, q2, q3, q4, q5, q6⟩ := h
  have he := q6 (p - 1) (by omega) (by omega)
  unfold tf_PE at he
  rw [hz, show p - 1 + 1 = p by omega] at he
  have hz1 : fs ≤ z ∧ z < c ∧ d z = D (p - 1) + 1 ∧ D p = D (p - 1) := by omega
  refine ⟨h0, h1, by omega, fun k hk => ?_, d, D, q0, q1, by omega, q3, fun j j0 j1 => q4 j j0 (by omega), fun k k0 k1 => ?_, fun j j0 j1 => q6 j j0 (by omega)⟩
  · rw [tf_up_ne (by omega)]; exact h3 k hk
  · have hk := q5 k k0 k1
    by_cases e : k = z
    · subst e
      unfold tf_PC at hk ⊢
      rw [tf_up_at]
      rcases hk with h | h | h | ⟨a1, a2, a3, a4, -⟩
      · exact Or.inl h
      · exact Or.inr (Or.inl h)
      · exact Or.inr (Or.inr (Or.inl h))
      · exact Or.inr (Or.inr (Or.inr ⟨a1, a2, a3, a4, Or.inl ⟨k1, Int.le_refl _, by omega⟩⟩))
    · refine tf_PC_mono k1 hk rfl (tf_up_ne e) (fun _ _ => rfl) (Int.le_refl _) (fun j b0 b1 b2 b3 b4 => ⟨?_, rfl, rfl⟩)
      by_cases ej : j = p - 1
      · subst ej; omega
      · omega
theorem tf_PI_pop {o0 u0 op ar pi pa : Int → Int} {fs c p p' x y : Int} (h : tf_PI o0 u0 op ar pi pa fs c p 1) (hp : p' = p - 1) (h0p : 0 < p) (hx : pi p' = x) (hx1 : x < 28) : tf_PI o0 u0 (tf_up op c x) (tf_up ar c y) pi pa fs (c + 1) p' 1 := by
  subst hp
  obtain ⟨h0, h1, h2, h3, d, D, q0, q1, q2, q3, q4, q5, q6⟩ := h
  have he := q6 (p - 1) (by omega) (by omega)
  unfold tf_PE at he
  rw [hx, show p - 1 + 1 = p by omega] at he
  have hDp := q4 (p - 1) (by omega) (by omega)
  have hdc := q3 c h1 (Int.le_refl _)
  have hcase : (20 ≤ x ∧ x ≤ 26 ∧ D p = D (p - 1) + 1) ∨ (x = 27 ∧ D p = D (p - 1)) := by omega
  have ed : ∀ i, i ≤ c → tf_up d (c + 1) (D (p - 1) + 1) i = d i := fun i hi => tf_up_ne (by omega)
  refine ⟨h0, by omega, by omega, fun k hk => ?_, tf_up d (c + 1) (D (p - 1) + 1), D, ?_, q1, ?_, fun k k0 k1 => ?_, fun j j0 j1 => q4 j j0 (by omega), fun k k0 k1 => ?_, fun j j0 j1 => ?_⟩
  · rw [tf_up_ne (by omega), tf_up_ne (by omega)]; exact h3 k hk
  · rw [ed _ h1]; exact q0
  · rw [tf_up_at]
  · by_cases e : k = c + 1
    · subst e; rw [tf_up_at]; omega
    · rw [ed k (by omega)]; exact q3 k k0 (by omega)
  · by_cases e : k = c
    · subst e
      unfold tf_PC
      rw [tf_up_at, tf_up_at, ed _ (Int.le_refl _)]
      rcases hcase with h | h
      · exact Or.inr (Or.inl ⟨h.1, h.2.1, by omega, by omega⟩)
      · exact Or.inr (Or.inr (Or.inl ⟨h.1, by omega, by omega⟩))
    · refine tf_PC_mono (by omega) (q5 k k0 (by omega)) (tf_up_ne e) (tf_up_ne e) ed (by omega) (fun j b0 b1 b2 b3 b4 => ⟨?_, rfl, rfl⟩)
      by_cases ej : j = p - 1
      · subst ej; omega
      · omega
  · exact tf_PE_mono (q6 j j0 (by omega)) rfl rfl rfl rfl (fun i hi => ed i (by omega)) (by omega)
theorem tf_PI_close {o0 u0 op ar pi pa : Int → Int} {fs c p p' : Int} (h : tf_PI o0 u0 op ar pi pa fs c p 1) (hp : p' = p - 1) (h0p : 0 < p) (hx : 30 ≤ pi p') : tf_PI o0 u0 op ar pi pa fs c p' 1 := by
  subst hp
  obtain ⟨h0, h1, h2, h3, d, D, q0, q1, q2, q3, q4, q5, q6⟩ := h
  have he := q6 (p - 1) (by omega) (by omega)
  unfold tf_PE at he
  rw [show p - 1 + 1 = p by omega] at he
  refine ⟨h0, h1, by omega, h3, d, D, q0, q1, by omega, q3, fun j j0 j1 => q4 j j0 (by omega), fun k k0 k1 => ?_, fun j j0 j1 => q6 j j0 (by omega)⟩
  refine tf_PC_mono k1 (q5 k k0 k1) rfl rfl (fun _ _ => rfl) (Int.le_refl _) (fun j b0 b1 b2 b3 b4 => ⟨?_, rfl, rfl⟩)
  by_cases ej : j = p - 1
  · subst ej; omega
  · omega
theorem tf_PI_end {o0 u0 op ar pi pa : Int → Int} {fs c p w : Int} (h : tf_PI o0 u0 op ar pi pa fs c p w) (hp : p = 0) (hc : c ≤ 400) : tf_sg op ar fs c ∧ ∀ k, k < fs → op k = o0 k ∧ ar k = u0 k := by
  subst hp
  obtain ⟨h0, h1, h2, h3, d, D, q0, q1, q2, q3, q4, q5, q6⟩ := h
  refine ⟨⟨h0, h1, hc, d, q0, fun k k0 k1 => ⟨(q3 k k0 (by omega)).1, (q3 k k0 (by omega)).2, ?_⟩⟩, h3⟩
  have hk := q5 k k0 k1
  unfold tf_PC at hk
  unfold tf_stp
  rcases hk with h | h | h | ⟨a1, a2, a3, a4, a5 | ⟨j, b0, b1, -⟩⟩
  · exact Or.inl h
  · exact Or.inr (Or.inl h)
  · exact Or.inr (Or.inr (Or.inl h))
  · exact Or.inr (Or.inr (Or.inr ⟨a1, a2, a3, a4, a5⟩))
  · omega
def tf_PB (pi pa : Int → Int) (p : Int) : Prop := ∀ j, 0 ≤ j → j < p → 28 ≤ pi j → pi j ≤ 29 → 0 ≤ pa j ∧ pa j < 400
theorem tf_PI_PB {o0 u0 op ar pi pa : Int → Int} {fs c p w : Int} (h : tf_PI o0 u0 op ar pi pa fs c p w) (hc : c ≤ 400) : tf_PB pi pa p := by
  obtain ⟨h0, h1, h2, h3, d, D, q0, q1, q2, q3, q4, q5, q6⟩ := h
  intro j j0 j1 a b
  have he := q6 j j0 j1
  unfold tf_PE at he
  omega
theorem tf_PB_mono {pi pa : Int → Int} {p p' : Int} (h : tf_PB pi pa p) (hp : p' ≤ p) : tf_PB pi pa p' := fun j j0 j1 => h j j0 (by omega)
def tf_Q (pi : Int → Int) (p : Int) : Prop := ∀ i j, 0 ≤ j → j < i → i < p → pi j = 31 → (20 ≤ pi i ∧ pi i ≤ 23) ∨ pi i = 31
def tf_NS (pi : Int → Int) (p : Int) : Prop := ∀ j, 0 ≤ j → j < p → pi j ≠ 31
def tf_NB (pi : Int → Int) (p : Int) : Prop := ∀ j, 0 ≤ j → j < p → pi j < 30
theorem tf_NS_Q {pi : Int → Int} {p : Int} (h : tf_NS pi p) : tf_Q pi p := fun i j j0 j1 i1 e => absurd e (h j j0 (by omega))
theorem tf_Q_push {pi : Int → Int} {p x : Int} (h : tf_Q pi p) (hx : (20 ≤ x ∧ x ≤ 23) ∨ x = 31) : tf_Q (tf_up pi p x) (p + 1) := by
  intro i j j0 j1 i1 e
  rw [tf_up_ne (by omega)] at e
  by_cases c : i = p
  · subst c; rw [tf_up_at]; exact hx
  · rw [tf_up_ne c]; exact h i j j0 j1 (by omega) e
theorem tf_NS_push {pi : Int → Int} {p x : Int} (h : tf_NS pi p) (hx : x ≠ 31) : tf_NS (tf_up pi p x) (p + 1) := by
  intro j j0 j1
  by_cases c : j = p
  · subst c; rw [tf_up_at]; exact hx
  · rw [tf_up_ne c]; exact h j j0 (by omega)
theorem tf_Q_mono {pi : Int → Int} {p p' : Int} (h : tf_Q pi p) (hp : p' ≤ p) : tf_Q pi p' := fun i j j0 j1 i1 => h i j j0 j1 (by omega)
theorem tf_NS_mono {pi : Int → Int} {p p' : Int} (h : tf_NS pi p) (hp : p' ≤ p) : tf_NS pi p' := fun j j0 j1 => h j j0 (by omega)
def tf_inn (pi : Int → Int) (p z : Int) : Prop := (z = -1 ∧ ∀ j, 0 ≤ j → j < p → pi j < 30) ∨ (30 ≤ z ∧ ∃ j, 0 ≤ j ∧ j < p ∧ pi j = z ∧ ∀ i, j < i → i < p → pi i < 30)
theorem tf_inn_0 {pi : Int → Int} : tf_inn pi 0 (-1) := Or.inl ⟨rfl, fun j h1 h2 => by omega⟩
theorem tf_inn_yes {pi : Int → Int} {k z x : Int} (_ : tf_inn pi k z) (h0 : 0 ≤ k) (hx : pi k = x) (h : 30 ≤ x) : tf_inn pi (k + 1) x := Or.inr ⟨h, k, h0, by omega, hx, fun i h1 h2 => by omega⟩
theorem tf_inn_no {pi : Int → Int} {k z x : Int} (hi : tf_inn pi k z) (hx : pi k = x) (h : x < 30) : tf_inn pi (k + 1) z := by
  rcases hi with ⟨h1, h2⟩ | ⟨h1, j, j0, j1, j2, j3⟩
  · refine Or.inl ⟨h1, fun j a b => ?_⟩
    by_cases c : j = k
    · subst c; omega
    · exact h2 j a (by omega)
  · refine Or.inr ⟨h1, j, j0, by omega, j2, fun i a b => ?_⟩
    by_cases c : i = k
    · subst c; omega
    · exact j3 i a (by omega)
theorem tf_inn_31 {pi : Int → Int} {p p1 : Int} (hi : tf_inn pi p 31) (hQ : tf_Q pi p) (h1 : p1 ≤ p) (h0 : 0 ≤ p1) (hpop : ∀ i, p1 ≤ i → i < p → pi i < 30) (htop : p1 = 0 ∨ 24 ≤ pi (p1 - 1)) : 0 < p1 ∧ 30 ≤ pi (p1 - 1) := by
  rcases hi with ⟨h, -⟩ | ⟨-, j, j0, j1, j2, j3⟩
  · omega
  · have hj : j < p1 := by
      by_cases c : j < p1
      · exact c
      · have := hpop j (by omega) j1; omega
    refine ⟨by omega, ?_⟩
    by_cases c : p1 - 1 = j
    · rw [c]; omega
    · have a := hQ (p1 - 1) j j0 (by omega) (by omega) j2
      have b := j3 (p1 - 1) (by omega) (by omega)
      omega
theorem tf_inn_30 {pi : Int → Int} {p p1 z : Int} (hi : tf_inn pi p z) (hz : z ≠ -1) (h1 : p1 ≤ p) (h0 : 0 ≤ p1) (hpop : ∀ i, p1 ≤ i → i < p → pi i < 30) (htop : p1 = 0 ∨ 30 ≤ pi (p1 - 1)) : 0 < p1 ∧ 30 ≤ pi (p1 - 1) := by
  rcases hi with ⟨h, -⟩ | ⟨h30, j, j0, j1, j2, j3⟩
  · omega
  · by_cases c : j < p1
    · omega
    · have := hpop j (by omega) j1; omega
theorem tf_inn_NS {pi : Int → Int} {p z : Int} (hi : tf_inn pi p z) (hz : z ≠ 31) (hQ : tf_Q pi p) : tf_NS pi p := by
  intro j j0 j1 e
  rcases hi with ⟨-, h⟩ | ⟨h30, j', k0, k1, k2, k3⟩
  · have := h j j0 j1; omega
  · by_cases c : j' < j
    · have := k3 j c j1; omega
    · by_cases c2 : j = j'
      · subst c2; omega
      · have := hQ j' j j0 (by omega) k1 e; omega
theorem tf_inn_NB {pi : Int → Int} {p z : Int} (hi : tf_inn pi p z) (hz : z = -1) : tf_NB pi p := by
  rcases hi with ⟨-, h⟩ | ⟨h30, -⟩
  · exact h
  · omega
def tf_ST (z : Int) (o0 u0 op ar pi pa : Int → Int) (fs c p : Int) : Prop := ((z ≤ 1 ∧ tf_PI o0 u0 op ar pi pa fs c p 0) ∨ (2 ≤ z ∧ tf_PI o0 u0 op ar pi pa fs c p 1)) ∧ tf_Q pi p ∧ (z = 0 ∨ z = 2 → tf_NS pi p) ∧ (z = 4 → tf_NB pi p)
theorem tf_ST0 {o0 u0 op ar pi pa : Int → Int} {fs c p : Int} (h : tf_PI o0 u0 op ar pi pa fs c p 0) (hN : tf_NS pi p) : tf_ST 0 o0 u0 op ar pi pa fs c p := ⟨Or.inl ⟨by omega, h⟩, tf_NS_Q hN, fun _ => hN, fun e => by omega⟩
theorem tf_ST1 {o0 u0 op ar pi pa : Int → Int} {fs c p : Int} (h : tf_PI o0 u0 op ar pi pa fs c p 0) (hN : tf_Q pi p) : tf_ST 1 o0 u0 op ar pi pa fs c p := ⟨Or.inl ⟨by omega, h⟩, hN, fun e => by omega, fun e => by omega⟩
theorem tf_ST2 {o0 u0 op ar pi pa : Int → Int} {fs c p : Int} (h : tf_PI o0 u0 op ar pi pa fs c p 1) (hN : tf_NS pi p) : tf_ST 2 o0 u0 op ar pi pa fs c p := ⟨Or.inr ⟨by omega, h⟩, tf_NS_Q hN, fun _ => hN, fun e => by omega⟩
theorem tf_ST3 {o0 u0 op ar pi pa : Int → Int} {fs c p : Int} (h : tf_PI o0 u0 op ar pi pa fs c p 1) (hN : tf_Q pi p) : tf_ST 3 o0 u0 op ar pi pa fs c p := ⟨Or.inr ⟨by omega, h⟩, hN, fun e => by omega, fun e => by omega⟩
theorem tf_ST4 {o0 u0 op ar pi pa : Int → Int} {fs c p : Int} (h : tf_PI o0 u0 op ar pi pa fs c p 1) (hQ : tf_Q pi p) (hN : tf_NB pi p) : tf_ST 4 o0 u0 op ar pi pa fs c p := ⟨Or.inr ⟨by omega, h⟩, hQ, fun e => by omega, fun _ => hN⟩
theorem tf_ST.lo {z : Int} {o0 u0 op ar pi pa : Int → Int} {fs c p : Int} (h : tf_ST z o0 u0 op ar pi pa fs c p) (hz : z ≤ 1) : tf_PI o0 u0 op ar pi pa fs c p 0 := h.1.elim (fun q => q.2) (fun q => by omega)
theorem tf_ST.hi {z : Int} {o0 u0 op ar pi pa : Int → Int} {fs c p : Int} (h : tf_ST z o0 u0 op ar pi pa fs c p) (hz : 2 ≤ z) : tf_PI o0 u0 op ar pi pa fs c p 1 := h.1.elim (fun q => by omega) (fun q => q.2)
def tf_mu (f b z : Int) : Nat := (4 * (401 - f)).toNat + (if b = 1 ∨ z = 4 then 0 else if z = 3 then 2 else 1)
theorem tf_mu_dec {f b z f1 b1 z1 : Int} (hf : f ≤ 400) (hf1 : f1 ≤ 400) (hb : b ≠ 1) (hz : z ≠ 4) (h : f < f1 ∨ (f1 = f ∧ (b1 = 1 ∨ z1 = 4 ∨ (z = 3 ∧ z1 = 2)))) : tf_mu f1 b1 z1 < tf_mu f b z := by
  unfold tf_mu
  rw [if_neg (by omega : ¬ (b = 1 ∨ z = 4))]
  by_cases c1 : b1 = 1 ∨ z1 = 4
  · rw [if_pos c1]
    by_cases c2 : z = 3
    · rw [if_pos c2]; omega
    · rw [if_neg c2]; omega
  · rw [if_neg c1]
    by_cases c2 : z = 3
    · rw [if_pos c2]
      by_cases c3 : z1 = 3
      · rw [if_pos c3]; omega
      · rw [if_neg c3]; omega
    · rw [if_neg c2]
      by_cases c3 : z1 = 3
      · rw [if_pos c3]; omega
      · rw [if_neg c3]; omega
section TFP
variable {p : Program} {l : Launch} {e : Env} {R : Room} {s : State} {m : MethodId} {args : Array Value} {below : List Frame} {meth : Method} {c : Code} {H : Heap} {locs : List Loc} {cells slots : Nat} {Q : State → Prop}
variable {cc : ByteArray} {pc : Nat} {ls : Array Slot} {rest : List Value}
theorem tf_ladd_c (hexec : p.tables.exec = Jvm.exec) (hb : c.code = cc) {a b : Int} (hdg : decode cc pc = .ok (.ladd, 1)) (k : ∀ z : Int, tf_rL z → (tf_rL (a + b) → z = a + b) → W p l e R s m args below meth c H locs cells slots Q (F0 m (pc + 1) ls (.long (Int64.ofInt z) :: rest))) : W p l e R s m args below meth c H locs cells slots Q (F0 m pc ls (.long (Int64.ofInt b) :: .long (Int64.ofInt a) :: rest)) := by
  refine tf_ladd hexec hb hdg ?_
  obtain ⟨z, hz, hr⟩ := tf_anyL (Int64.ofInt (a + b))
  rw [hz]
  refine k z hr (fun h => ?_)
  have := congrArg Int64.toInt hz
  rw [tf_tl h, tf_tl hr] at this
  exact this.symm
theorem tf_lsub_c (hexec : p.tables.exec = Jvm.exec) (hb : c.code = cc) {a b : Int} (hdg : decode cc pc = .ok (.lsub, 1)) (k : ∀ z : Int, tf_rL z → (tf_rL (a - b) → z = a - b) → W p l e R s m args below meth c H locs cells slots Q (F0 m (pc + 1) ls (.long (Int64.ofInt z) :: rest))) : W p l e R s m args below meth c H locs cells slots Q (F0 m pc ls (.long (Int64.ofInt b) :: .long (Int64.ofInt a) :: rest)) := by
  refine tf_lsub hexec hb hdg ?_
  obtain ⟨z, hz, hr⟩ := tf_anyL (Int64.ofInt (a - b))
  rw [hz]
  refine k z hr (fun h => ?_)
  have := congrArg Int64.toInt hz
  rw [tf_tl h, tf_tl hr] at this
  exact this.symm
theorem tf_lmul_c (hexec : p.tables.exec = Jvm.exec) (hb : c.code = cc) {a b : Int} (hdg : decode cc pc = .ok (.lmul, 1)) (k : ∀ z : Int, tf_rL z → (tf_rL (a * b) → z = a * b) → W p l e R s m args below meth c H locs cells slots Q (F0 m (pc + 1) ls (.long (Int64.ofInt z) :: rest))) : W p l e R s m args below meth c H locs cells slots Q (F0 m pc ls (.long (Int64.ofInt b) :: .long (Int64.ofInt a) :: rest)) := by
  refine tf_lmul hexec hb hdg ?_
  obtain ⟨z, hz, hr⟩ := tf_anyL (Int64.ofInt (a * b))
  rw [hz]
  refine k z hr (fun h => ?_)
  have := congrArg Int64.toInt hz
  rw [tf_tl h, tf_tl hr] at this
  exact this.symm
end TFP
theorem tf_PI_sign {o0 u0 op ar pi pa : Int → Int} {fs c p x y : Int} (h : tf_PI o0 u0 op ar pi pa fs c p 1) (h0 : 20 ≤ x) (h1 : x ≤ 26) : tf_PI o0 u0 op ar (tf_up pi p x) (tf_up pa p y) fs c (p + 1) 0 := by
  have := tf_PI_push (y := y) h (Or.inl ⟨h0, h1, rfl⟩)
  exact this
theorem tf_PI_not {o0 u0 op ar pi pa : Int → Int} {fs c p y : Int} (h : tf_PI o0 u0 op ar pi pa fs c p 0) : tf_PI o0 u0 op ar (tf_up pi p 27) (tf_up pa p y) fs c (p + 1) 0 := by
  have := tf_PI_push (y := y) h (Or.inr (Or.inl ⟨rfl, rfl⟩))
  exact this
theorem tf_PI_br {o0 u0 op ar pi pa : Int → Int} {fs c p x y : Int} (h : tf_PI o0 u0 op ar pi pa fs c p 0) (h0 : 30 ≤ x) (h1 : x ≤ 31) : tf_PI o0 u0 op ar (tf_up pi p x) (tf_up pa p y) fs c (p + 1) 0 := by
  have := tf_PI_push (y := y) h (Or.inr (Or.inr ⟨h0, h1, rfl⟩))
  exact this
theorem tf_ob {o0 u0 op ar pi pa pi1 pa1 : Int → Int} {fs c p p1 b1 f f1 : Int} (h : (b1 = 0 ∧ f < f1 ∧ p1 = p + 1 ∧ pi1 = tf_up pi p 31 ∧ pa1 = tf_up pa p 0) ∨ (b1 = 1 ∧ f1 = f ∧ p1 = p ∧ pi1 = pi ∧ pa1 = pa)) (hP : tf_PI o0 u0 op ar pi pa fs c p 0) (hQ : tf_Q pi p) (hc : c ≤ 400) : tf_PB pi1 pa1 p1 ∧ (b1 = 1 ∨ tf_ST 1 o0 u0 op ar pi1 pa1 fs c p1) := by
  rcases h with ⟨h1, -, rfl, rfl, rfl⟩ | ⟨h1, -, rfl, rfl, rfl⟩
  · have h2 := tf_PI_br (x := 31) (y := 0) hP (by omega) (by omega)
    exact ⟨tf_PI_PB h2 hc, Or.inr (tf_ST1 h2 (tf_Q_push hQ (Or.inr rfl)))⟩
  · exact ⟨tf_PI_PB hP hc, Or.inl h1⟩
theorem tf_ob0 {o0 u0 op ar pi pa pi1 pa1 : Int → Int} {fs c p p1 b1 f f1 : Int} (h : (b1 = 0 ∧ f < f1 ∧ p1 = p + 1 ∧ pi1 = tf_up pi p 30 ∧ pa1 = tf_up pa p 0) ∨ (b1 = 1 ∧ f1 = f ∧ p1 = p ∧ pi1 = pi ∧ pa1 = pa)) (hP : tf_PI o0 u0 op ar pi pa fs c p 0) (hQ : tf_NS pi p) (hc : c ≤ 400) : tf_PB pi1 pa1 p1 ∧ (b1 = 1 ∨ tf_ST 0 o0 u0 op ar pi1 pa1 fs c p1) := by
  rcases h with ⟨h1, -, rfl, rfl, rfl⟩ | ⟨h1, -, rfl, rfl, rfl⟩
  · have h2 := tf_PI_br (x := 30) (y := 0) hP (by omega) (by omega)
    exact ⟨tf_PI_PB h2 hc, Or.inr (tf_ST0 h2 (tf_NS_push hQ (by omega)))⟩
  · exact ⟨tf_PI_PB hP hc, Or.inl h1⟩
theorem tf_lf {o0 u0 op ar pi pa op1 ar1 : Int → Int} {fs c c1 p b1 f f1 x y : Int} (h : (b1 = 0 ∧ f < f1 ∧ c1 = c + 1 ∧ op1 = tf_up op c x ∧ ar1 = tf_up ar c y) ∨ (b1 = 1 ∧ f1 = f ∧ c1 = c ∧ op1 = op ∧ ar1 = ar)) (hP : tf_PI o0 u0 op ar pi pa fs c p 0) (hQ : tf_Q pi p) (hc : c1 ≤ 400) (hx0 : 0 ≤ x) (hx1 : x ≤ 9) : tf_PB pi pa p ∧ (b1 = 1 ∨ tf_ST 3 o0 u0 op1 ar1 pi pa fs c1 p) := by
  rcases h with ⟨h1, -, rfl, rfl, rfl⟩ | ⟨h1, -, rfl, rfl, rfl⟩
  · have h2 := tf_PI_leaf (y := y) hP hx0 hx1
    exact ⟨tf_PI_PB h2 hc, Or.inr (tf_ST3 h2 hQ)⟩
  · exact ⟨tf_PI_PB hP hc, Or.inl h1⟩
theorem tf_popl {r : Int → Int} {p p' q : Int} (h : ∀ i, p ≤ i → i < q → r i < 30) (hp : p' = p - 1) (hr : r p' < 30) : ∀ i, p' ≤ i → i < q → r i < 30 := fun i h1 h2 => by
  by_cases c : i = p'
  · rw [c]; exact hr
  · exact h i (by omega) h2
theorem tf_fin {o0 u0 op ar pi pa op1 ar1 : Int → Int} {fs c p c1 p1 b z : Int} (h : b = 1 ∨ tf_ST z o0 u0 op ar pi pa fs c p) (hb : b ≠ 1) (hz : z = 4) (h1 : p1 ≤ p) (h0 : 0 ≤ p1) (ht : p1 = 0 ∨ 30 ≤ pi (p1 - 1)) (hI : ∀ o0 u0 fs, tf_PI o0 u0 op ar pi pa fs c p 1 → tf_PI o0 u0 op1 ar1 pi pa fs c1 p1 1) (hc : c1 ≤ 400) : tf_sg op1 ar1 fs c1 ∧ ∀ k, k < fs → op1 k = o0 k ∧ ar1 k = u0 k := by
  subst hz
  have hS := h.resolve_left hb
  have hN := hS.2.2.2 rfl
  have hp : p1 = 0 := by
    rcases ht with e | e
    · exact e
    · by_cases c2 : p1 = 0
      · exact c2
      · have := hN (p1 - 1) (by omega) (by omega); omega
  exact tf_PI_end (hI o0 u0 fs (hS.hi (by omega))) hp hc
def tf_CL (cl op ar : Int → Int) (n c : Int) : Prop := ∀ i, 0 ≤ i → i < n → tf_sg op ar (cl (8 * i + 3)) (cl (8 * i + 4)) ∧ cl (8 * i + 4) ≤ c ∧ tf_sg op ar (cl (8 * i + 5)) (cl (8 * i + 6)) ∧ cl (8 * i + 6) ≤ c
theorem tf_sg_congr2 {op ar op' ar' : Int → Int} {f l : Int} (h : tf_sg op ar f l) (h1 : ∀ k, k < l → op' k = op k ∧ ar' k = ar k) : tf_sg op' ar' f l := by
  obtain ⟨a, b, c, d, e, q⟩ := h
  refine ⟨a, b, c, d, e, fun k k1 k2 => ?_⟩
  rw [(h1 k k2).1, (h1 k k2).2]
  exact q k k1 k2
theorem tf_sg_nil {op ar : Int → Int} {c : Int} (h0 : 0 ≤ c) (h1 : c ≤ 400) : tf_sg op ar c c := ⟨h0, Int.le_refl _, h1, fun _ => 0, rfl, fun k k1 k2 => by omega⟩
theorem tf_CL_step {cl cl' op ar op1 ar1 op2 ar2 : Int → Int} {n c c1 c2 : Int} (h : tf_CL cl op ar n c) (h0 : 0 ≤ n) (s1 : tf_sg op1 ar1 c c1) (e1 : ∀ k, k < c → op1 k = op k ∧ ar1 k = ar k) (s2 : tf_sg op2 ar2 c1 c2) (e2 : ∀ k, k < c1 → op2 k = op1 k ∧ ar2 k = ar1 k) (ec : ∀ j, j < 8 * n → cl' j = cl j) (k3 : cl' (8 * n + 3) = c) (k4 : cl' (8 * n + 4) = c1) (k5 : cl' (8 * n + 5) = c1) (k6 : cl' (8 * n + 6) = c2) : tf_CL cl' op2 ar2 (n + 1) c2 := by
  have l1 := s1.2.1
  have l2 := s2.2.1
  intro i i0 i1
  by_cases e : i = n
  · subst e
    rw [k3, k4, k5, k6]
    exact ⟨tf_sg_congr2 s1 e2, l2, s2, Int.le_refl _⟩
  · obtain ⟨a1, a2, a3, a4⟩ := h i i0 (by omega)
    rw [ec _ (by omega), ec _ (by omega), ec _ (by omega), ec _ (by omega)]
    have ee : ∀ l, l ≤ c → ∀ k, k < l → op2 k = op k ∧ ar2 k = ar k := fun l hl k hk => by
      have x1 := e2 k (by omega)
      have x2 := e1 k (by omega)
      exact ⟨x1.1.trans x2.1, x1.2.trans x2.2⟩
    exact ⟨tf_sg_congr2 a1 (ee _ a2), by omega, tf_sg_congr2 a3 (ee _ a4), by omega⟩
theorem tf_CL_0 {cl op ar : Int → Int} {c : Int} : tf_CL cl op ar 0 c := fun i h1 h2 => by omega
theorem tf_sg_lt {op ar op' ar' : Int → Int} {f l : Int} (h : tf_sg op ar f l) (h1 : ∀ k, 0 ≤ k → k < l → op' k = op k ∧ ar' k = ar k) : tf_sg op' ar' f l := by
  obtain ⟨a, b, c, d, e, q⟩ := h
  refine ⟨a, b, c, d, e, fun k k1 k2 => ?_⟩
  rw [(h1 k (by omega) k2).1, (h1 k (by omega) k2).2]
  exact q k k1 k2
def tf_l1 (r cl : Int → Int) (at_ nk i : Int) (R : Int → Int) : Prop := (∀ j, (j < at_ ∨ at_ + 900 ≤ j) → R j = r j) ∧ R (at_ + 1) = nk ∧ ∀ j, 0 ≤ j → j < i → R (at_ + 2 + j) = cl j
theorem tf_l1_0 {r cl : Int → Int} {at_ nk : Int} : tf_l1 r cl at_ nk 0 (tf_up r (at_ + 1) nk) := ⟨fun j h => tf_up_ne (by omega), tf_up_at, fun j h1 h2 => by omega⟩
theorem tf_l1_st {r cl R : Int → Int} {at_ nk i z : Int} (h : tf_l1 r cl at_ nk i R) (h0 : 0 ≤ i) (h9 : i < 96) (hz : cl i = z) : tf_l1 r cl at_ nk (i + 1) (tf_up R (at_ + 2 + i) z) := by
  obtain ⟨a, b, c⟩ := h
  refine ⟨fun j hj => by rw [tf_up_ne (by omega)]; exact a j hj, by rw [tf_up_ne (by omega)]; exact b, fun j j0 j1 => ?_⟩
  by_cases e : j = i
  · subst e; rw [tf_up_at]; exact hz.symm
  · rw [tf_up_ne (by omega)]; exact c j j0 (by omega)
def tf_l2 (r cl op ar : Int → Int) (at_ nk i : Int) (R : Int → Int) : Prop := tf_l1 r cl at_ nk (8 * nk) R ∧ ∀ k, 0 ≤ k → k < i → R (at_ + 98 + 2 * k) = op k ∧ R (at_ + 98 + 2 * k + 1) = ar k
theorem tf_l2_0 {r cl op ar R : Int → Int} {at_ nk i : Int} (h : tf_l1 r cl at_ nk i R) (hi : i = 8 * nk) : tf_l2 r cl op ar at_ nk 0 R := ⟨hi ▸ h, fun k h1 h2 => by omega⟩
theorem tf_l2_st {r cl op ar R : Int → Int} {at_ nk i z1 z2 : Int} (h : tf_l2 r cl op ar at_ nk i R) (h0 : 0 ≤ i) (h4 : i < 400) (hn : nk ≤ 12) (hz1 : op i = z1) (hz2 : ar i = z2) : tf_l2 r cl op ar at_ nk (i + 1) (tf_up (tf_up R (at_ + 98 + 2 * i) z1) (at_ + 98 + 2 * i + 1) z2) := by
  obtain ⟨⟨a, b, c⟩, d⟩ := h
  refine ⟨⟨fun j hj => by rw [tf_up_ne (by omega), tf_up_ne (by omega)]; exact a j hj, by rw [tf_up_ne (by omega), tf_up_ne (by omega)]; exact b, fun j j0 j1 => by rw [tf_up_ne (by omega), tf_up_ne (by omega)]; exact c j j0 j1⟩, fun k k0 k1 => ?_⟩
  by_cases e : k = i
  · subst e
    rw [tf_up_ne (by omega), tf_up_at, tf_up_at]; exact ⟨hz1.symm, hz2.symm⟩
  · rw [tf_up_ne (by omega), tf_up_ne (by omega), tf_up_ne (by omega), tf_up_ne (by omega)]; exact d k k0 (by omega)
theorem tf_law_RO {r cl op ar R : Int → Int} {n nk nc i at_ : Int} (hr : tf_RO r) (hL : tf_l2 r cl op ar at_ nk i R) (hi : i = nc) (hat : at_ = 430 + 900 * n) (hn0 : 0 ≤ n) (hn : n < 6) (hk0 : 0 ≤ nk) (hk : nk ≤ 12) (hC : tf_CL cl op ar nk nc) : tf_RO R := by
  subst hat
  subst hi
  obtain ⟨⟨a, b, c⟩, d⟩ := hL
  obtain ⟨q0, q1, q2, q3, q4, ql, q5, q6, q7, q8⟩ := id hr
  have e3 := a 3 (by omega)
  refine ⟨by rw [a _ (by omega)]; exact q0, by rw [a _ (by omega)]; exact q1, by rw [a _ (by omega)]; exact q2, by rw [a _ (by omega)]; exact q3, by rw [a _ (by omega)]; exact q4, fun j j0 j1 => by rw [a _ (by omega)]; exact ql j j0 j1, fun j j0 j1 => by rw [a _ (by omega)]; exact q5 j j0 j1, fun j j0 j1 => by rw [a _ (by omega)]; exact q6 j j0 j1, fun w w0 w1 => ?_, fun m m0 m1 => ?_⟩
  · rw [e3] at w1
    exact tf_wk_congr (q7 w w0 w1) (fun j j0 j1 => a j (by omega))
  · by_cases e : m = n
    · subst e
      refine ⟨by rw [b]; exact hk0, by rw [b]; exact hk, fun v v0 v1 => ?_⟩
      rw [b] at v1
      obtain ⟨c1, c2, c3, c4⟩ := hC v v0 v1
      have f : ∀ j, 0 ≤ j → j < 8 → R (430 + 900 * m + 2 + 8 * v + j) = cl (8 * v + j) := fun j j0 j1 => by
        have := c (8 * v + j) (by omega) (by omega)
        rw [← this]; congr 1; omega
      rw [f 3 (by omega) (by omega), f 4 (by omega) (by omega), f 5 (by omega) (by omega), f 6 (by omega) (by omega)]
      exact ⟨tf_sg_lt c1 (fun k k0 k1 => d k k0 (by omega)), tf_sg_lt c3 (fun k k0 k1 => d k k0 (by omega))⟩
    · exact tf_LW_congr (q8 m m0 m1) (fun j j0 j1 => a j (by omega))
theorem tf_clA {cl R op ar op1 ar1 op2 ar2 : Int → Int} {n c c1 c2 b : Int} (h : tf_CL cl op ar n c) (h0 : 0 ≤ n) (s1 : tf_sg op1 ar1 c c1 ∧ ∀ k, k < c → op1 k = op k ∧ ar1 k = ar k) (s2 : tf_sg op2 ar2 c1 c2 ∧ ∀ k, k < c1 → op2 k = op1 k ∧ ar2 k = ar1 k) (hR : ∀ j, j < 8 * n → R j = cl j) (hb : b = 8 * n) (_ : 0 ≤ c) : tf_CL (tf_up (tf_up (tf_up (tf_up R (b + 3) c) (b + 4) c1) (b + 5) c1) (b + 6) c2) op2 ar2 (n + 1) c2 := by
  subst hb
  refine tf_CL_step h h0 s1.1 s1.2 s2.1 s2.2 (fun j hj => ?_) ?_ ?_ ?_ ?_
  · rw [tf_up_ne (by omega), tf_up_ne (by omega), tf_up_ne (by omega), tf_up_ne (by omega)]; exact hR j hj
  · rw [tf_up_ne (by omega), tf_up_ne (by omega), tf_up_ne (by omega), tf_up_at]
  · rw [tf_up_ne (by omega), tf_up_ne (by omega), tf_up_at]
  · rw [tf_up_ne (by omega), tf_up_at]
  · rw [tf_up_at]
theorem tf_clB {cl R op ar op1 ar1 : Int → Int} {n c c1 b : Int} (h : tf_CL cl op ar n c) (h0 : 0 ≤ n) (s1 : tf_sg op1 ar1 c c1 ∧ ∀ k, k < c → op1 k = op k ∧ ar1 k = ar k) (hR : ∀ j, j < 8 * n → R j = cl j) (hb : b = 8 * n) (h1 : 0 ≤ c1) (h2 : c1 ≤ 400) (_ : 0 ≤ c) : tf_CL (tf_up (tf_up (tf_up (tf_up R (b + 3) c) (b + 4) c1) (b + 5) c1) (b + 6) c1) op1 ar1 (n + 1) c1 :=
  tf_clA h h0 s1 ⟨tf_sg_nil h1 h2, fun k _ => ⟨rfl, rfl⟩⟩ hR hb (by omega)

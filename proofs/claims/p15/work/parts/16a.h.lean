def tf_go (tp : Int → Int) (i : Int) : Prop := 0 < i ∧ ((97 ≤ tp i ∧ tp i ≤ 122 ∧ 97 ≤ tp (i - 1) ∧ tp (i - 1) ≤ 122) ∨ (48 ≤ tp i ∧ tp i ≤ 57 ∧ 48 ≤ tp (i - 1) ∧ tp (i - 1) ≤ 57))
def tf_start (tp : Int → Int) (i : Int) : Prop := tp i ≠ 32 ∧ ¬ tf_go tp i
def tf_bv (tp : Int → Int) (p : Int) : Nat → Int
  | 0 => 0
  | m + 1 => tf_bv tp p m * 32 + tp (p + m) - 96
def tf_nv (tp : Int → Int) (p : Int) : Nat → Int
  | 0 => 0
  | m + 1 => if 1001 < tf_nv tp p m * 10 + tp (p + m) - 48 then 1001 else tf_nv tp p m * 10 + tp (p + m) - 48
def tf_wv (tp : Int → Int) (p : Int) : Nat → Int
  | 0 => 0
  | m + 1 => if 1000000 < tf_wv tp p m then tf_wv tp p m else tf_wv tp p m * 10 + tp (p + m) - 48
def tf_rl (tp : Int → Int) (n p : Int) (m : Nat) : Prop := 1 ≤ m ∧ p + m ≤ n ∧ (∀ i : Int, 0 ≤ i → i < m → 97 ≤ tp (p + i) ∧ tp (p + i) ≤ 122) ∧ (p + m < n → ¬ (97 ≤ tp (p + m) ∧ tp (p + m) ≤ 122))
def tf_rd (tp : Int → Int) (n p : Int) (m : Nat) : Prop := 1 ≤ m ∧ p + m ≤ n ∧ (∀ i : Int, 0 ≤ i → i < m → 48 ≤ tp (p + i) ∧ tp (p + i) ≤ 57) ∧ (p + m < n → ¬ (48 ≤ tp (p + m) ∧ tp (p + m) ≤ 57))
def tf_WD (w t : Int) : Prop := (w = 18523243 ∧ t = 1) ∨ (w = 294 ∧ t = 2) ∨ (w = 498 ∧ t = 3) ∨ (w = 1476 ∧ t = 4) ∨ (w = 14836 ∧ t = 5) ∨ (w = 370116 ∧ t = 16) ∨ (w = 599653 ∧ t = 17) ∨ (w = 271592 ∧ t = 18) ∨ (w = 21566643 ∧ t = 19) ∨ (w = 641275054 ∧ t = 20) ∨ (w = 15558 ∧ t = 21) ∨ (w = 24 ∧ t = 22) ∨ (w = 25 ∧ t = 23) ∨ (w = 23609 ∧ t = 24) ∨ ((w ≠ 18523243 ∧ w ≠ 294 ∧ w ≠ 498 ∧ w ≠ 1476 ∧ w ≠ 14836 ∧ w ≠ 370116 ∧ w ≠ 599653 ∧ w ≠ 271592 ∧ w ≠ 21566643 ∧ w ≠ 641275054 ∧ w ≠ 15558 ∧ w ≠ 24 ∧ w ≠ 25 ∧ w ≠ 23609) ∧ t = 6)
def tf_NM (w t : Int) : Prop := (0 ≤ w ∧ w ≤ 1000 ∧ t = 2000 + w) ∨ (1000 < w ∧ t = 3001)
def tf_SO (tp : Int → Int) (n p t : Int) : Prop := ((97 ≤ tp p ∧ tp p ≤ 122) ∧ ∃ m : Nat, tf_rl tp n p m ∧ ((m ≤ 10 ∧ tf_WD (tf_bv tp p m) t) ∨ (10 < m ∧ t = 6))) ∨ ((48 ≤ tp p ∧ tp p ≤ 57) ∧ ∃ m : Nat, tf_rd tp n p m ∧ t = 2000 + tf_nv tp p m) ∨ ((tp p < 48 ∨ 57 < tp p) ∧ (tp p < 97 ∨ 122 < tp p) ∧ t = 1000 + tp p)
theorem tf_bv_pos {tp : Int → Int} {p : Int} : ∀ {m : Nat}, (∀ i : Int, 0 ≤ i → i < m → 97 ≤ tp (p + i) ∧ tp (p + i) ≤ 122) → 0 ≤ tf_bv tp p m ∧ (1 ≤ m → 1 ≤ tf_bv tp p m)
  | 0, _ => ⟨Int.le_refl _, fun h => by omega⟩
  | m + 1, h => by
    have ih := (tf_bv_pos (m := m) (fun i i0 i1 => h i i0 (by omega))).1
    have hd := h (m : Int) (by omega) (by omega)
    have e : tf_bv tp p (m + 1) = tf_bv tp p m * 32 + tp (p + m) - 96 := rfl
    rw [e]
    omega
theorem tf_bv_inv {tp : Int → Int} {p V d : Int} {m : Nat} (h : ∀ i : Int, 0 ≤ i → i < m → 97 ≤ tp (p + i) ∧ tp (p + i) ≤ 122) (e : tf_bv tp p m = V * 32 + d) (h0 : 0 ≤ V) (h1 : 1 ≤ d) (h2 : d ≤ 26) : ∃ k : Nat, m = k + 1 ∧ tp (p + k) = 96 + d ∧ tf_bv tp p k = V := by
  match m, h, e with
  | 0, _, e => exact absurd (show (0 : Int) = V * 32 + d from e) (by omega)
  | k + 1, h, e =>
    have e2 : tf_bv tp p k * 32 + tp (p + k) - 96 = V * 32 + d := e
    have hd := h (k : Int) (by omega) (by omega)
    have hp := (tf_bv_pos (m := k) (fun i i0 i1 => h i i0 (by omega))).1
    exact ⟨k, rfl, by omega, by omega⟩
theorem tf_bv_0 {tp : Int → Int} {p : Int} {m : Nat} (h : ∀ i : Int, 0 ≤ i → i < m → 97 ≤ tp (p + i) ∧ tp (p + i) ≤ 122) (e : tf_bv tp p m = 0) : m = 0 := by
  have := (tf_bv_pos h).2
  omega
theorem tf_nw_rel {tp : Int → Int} {p : Int} : ∀ {m : Nat}, (∀ i : Int, 0 ≤ i → i < m → 48 ≤ tp (p + i) ∧ tp (p + i) ≤ 57) → (0 ≤ tf_wv tp p m ∧ tf_wv tp p m ≤ 1000 ∧ tf_nv tp p m = tf_wv tp p m) ∨ (1000 < tf_wv tp p m ∧ tf_nv tp p m = 1001)
  | 0, _ => Or.inl ⟨Int.le_refl _, by show (0 : Int) ≤ 1000; omega, rfl⟩
  | m + 1, h => by
    have ih := tf_nw_rel (m := m) (fun i i0 i1 => h i i0 (by omega))
    have hd := h (m : Int) (by omega) (by omega)
    have e1 : tf_nv tp p (m + 1) = if 1001 < tf_nv tp p m * 10 + tp (p + m) - 48 then 1001 else tf_nv tp p m * 10 + tp (p + m) - 48 := rfl
    have e2 : tf_wv tp p (m + 1) = if 1000000 < tf_wv tp p m then tf_wv tp p m else tf_wv tp p m * 10 + tp (p + m) - 48 := rfl
    rw [e1, e2]
    by_cases c1 : 1001 < tf_nv tp p m * 10 + tp (p + m) - 48
    · rw [if_pos c1]
      by_cases c2 : 1000000 < tf_wv tp p m
      · rw [if_pos c2]; omega
      · rw [if_neg c2]; omega
    · rw [if_neg c1]
      by_cases c2 : 1000000 < tf_wv tp p m
      · rw [if_pos c2]; omega
      · rw [if_neg c2]; omega
theorem tf_nm_of {tp : Int → Int} {p t : Int} {m : Nat} (h : ∀ i : Int, 0 ≤ i → i < m → 48 ≤ tp (p + i) ∧ tp (p + i) ≤ 57) (ht : t = 2000 + tf_nv tp p m) : tf_NM (tf_wv tp p m) t := by
  rcases tf_nw_rel h with ⟨a, b, c⟩ | ⟨a, b⟩
  · exact Or.inl ⟨a, b, by omega⟩
  · exact Or.inr ⟨a, by omega⟩
def tf_CUT (tp : Int → Int) (n i : Int) (ss pp : Int → Int) (m : Int) : Prop := (0 ≤ m ∧ m ≤ i) ∧ (∀ k, 0 ≤ k → k < m → 0 ≤ pp k ∧ pp k < i ∧ tf_start tp (pp k) ∧ tf_SO tp n (pp k) (ss k)) ∧ (∀ k, 0 ≤ k → k + 1 < m → pp k < pp (k + 1)) ∧ ∀ j, 0 ≤ j → j < i → tf_start tp j → ∃ k, 0 ≤ k ∧ k < m ∧ pp k = j
theorem tf_CUT_n {tp ss pp : Int → Int} {n n2 i m : Int} (h : tf_CUT tp n i ss pp m) (e : n = n2) : tf_CUT tp n2 i ss pp m := by
  subst e; exact h
theorem tf_CUT_0 {tp ss pp : Int → Int} {n : Int} : tf_CUT tp n 0 ss pp 0 := ⟨by omega, fun k _ _ => by omega, fun k _ _ => by omega, fun j _ _ => by omega⟩
theorem tf_CUT_no {tp ss pp : Int → Int} {n i m : Int} (h : tf_CUT tp n i ss pp m) (hs : ¬ tf_start tp i) : tf_CUT tp n (i + 1) ss pp m := by
  obtain ⟨h1, h2, h3, h4⟩ := h
  refine ⟨by omega, fun k k0 k1 => ?_, h3, fun j j0 j1 js => ?_⟩
  · obtain ⟨a, b, c⟩ := h2 k k0 k1
    exact ⟨a, by omega, c⟩
  · by_cases e : j = i
    · subst e; exact absurd js hs
    · exact h4 j j0 (by omega) js
theorem tf_CUT_yes {tp ss pp : Int → Int} {n i m t : Int} (h : tf_CUT tp n i ss pp m) (h0 : 0 ≤ i) (hs : tf_start tp i) (ht : tf_SO tp n i t) : tf_CUT tp n (i + 1) (tf_up ss m t) (tf_up pp m i) (m + 1) := by
  obtain ⟨h1, h2, h3, h4⟩ := h
  refine ⟨by omega, fun k k0 k1 => ?_, fun k k0 k1 => ?_, fun j j0 j1 js => ?_⟩
  · by_cases e : k = m
    · subst e
      rw [tf_up_at, tf_up_at]; exact ⟨h0, by omega, hs, ht⟩
    · obtain ⟨a, b, c, d⟩ := h2 k k0 (by omega)
      rw [tf_up_ne e, tf_up_ne e]; exact ⟨a, by omega, c, d⟩
  · by_cases e : k + 1 = m
    · rw [tf_up_ne (by omega), e, tf_up_at]; exact (h2 k k0 (by omega)).2.1
    · rw [tf_up_ne (by omega), tf_up_ne (by omega)]; exact h3 k k0 (by omega)
  · by_cases e : j = i
    · exact ⟨m, by omega, by omega, by rw [tf_up_at]; exact e.symm⟩
    · obtain ⟨k, a, b, c⟩ := h4 j j0 (by omega) js
      exact ⟨k, a, by omega, by rw [tf_up_ne (by omega)]; exact c⟩
def tf_TOK (tp : Int → Int) (n : Int) (ss pp : Int → Int) (m : Int) : Prop := (0 ≤ n ∧ n ≤ 400 ∧ 1 ≤ m ∧ m ≤ 401) ∧ tf_CUT tp n n ss pp (m - 1) ∧ ss (m - 1) = 0 ∧ pp (m - 1) = n
theorem tf_CUT_congr {tp ss pp ss2 pp2 : Int → Int} {n i m : Int} (h : tf_CUT tp n i ss pp m) (e1 : ∀ k, k < m → ss2 k = ss k) (e2 : ∀ k, k < m → pp2 k = pp k) : tf_CUT tp n i ss2 pp2 m := by
  obtain ⟨h1, h2, h3, h4⟩ := h
  refine ⟨h1, fun k k0 k1 => ?_, fun k k0 k1 => ?_, fun j j0 j1 js => ?_⟩
  · rw [e1 k k1, e2 k k1]; exact h2 k k0 k1
  · rw [e2 k (by omega), e2 (k + 1) k1]; exact h3 k k0 k1
  · obtain ⟨k, a, b, c⟩ := h4 j j0 j1 js
    exact ⟨k, a, b, by rw [e2 k b]; exact c⟩
theorem tf_TOK_of {tp ss pp : Int → Int} {n i m z : Int} (h : tf_CUT tp n i ss pp m) (hi : i = n) (h0 : 0 ≤ n) (h4 : n ≤ 400) (hz : z = n) : tf_TOK tp n (tf_up ss m 0) (tf_up pp m z) (m + 1) := by
  subst hi hz
  have h1 := h.1
  refine ⟨by omega, ?_, ?_, ?_⟩
  · rw [show m + 1 - 1 = m by omega]
    exact tf_CUT_congr h (fun k hk => tf_up_ne (by omega)) (fun k hk => tf_up_ne (by omega))
  · rw [show m + 1 - 1 = m by omega, tf_up_at]
  · rw [show m + 1 - 1 = m by omega, tf_up_at]
theorem tf_TOK_lt {tp ss pp : Int → Int} {n m k : Int} (h : tf_TOK tp n ss pp m) (k0 : 0 ≤ k) (k1 : k + 1 < m) : pp k < pp (k + 1) := by
  obtain ⟨h1, h2, h3, h4⟩ := h
  by_cases e : k + 1 = m - 1
  · rw [e, h4]; exact (h2.2.1 k k0 (by omega)).2.1
  · exact h2.2.2.1 k k0 (by omega)
theorem tf_TOK_mono {tp ss pp : Int → Int} {n m k : Int} (h : tf_TOK tp n ss pp m) (k0 : 0 ≤ k) : ∀ d : Nat, k + d < m → pp k ≤ pp (k + d)
  | 0, _ => by rw [show k + ((0 : Nat) : Int) = k by omega]; exact Int.le_refl _
  | d + 1, hd => by
    have a := tf_TOK_mono h k0 d (by omega)
    have b := tf_TOK_lt h (k := k + d) (by omega) (by omega)
    rw [show k + ((d + 1 : Nat) : Int) = k + d + 1 by omega]
    omega
theorem tf_TOK_at {tp ss pp : Int → Int} {n m kk b f : Int} (h : tf_TOK tp n ss pp m) (k0 : 0 ≤ kk) (k1 : kk < m) (hlo : ∀ k, 0 ≤ k → k < kk → pp k < b) (hb : b ≤ pp kk) (h0 : 0 ≤ b) (hbf : b ≤ f) (hfn : f ≤ n) (hno : ∀ j, b ≤ j → j < f → ¬ tf_start tp j) (hst : f < n → tf_start tp f) : pp kk = f := by
  obtain ⟨h1, h2, h3, h4⟩ := id h
  by_cases e : kk = m - 1
  · subst e
    rw [h4]
    by_cases c : f < n
    · obtain ⟨k, a1, a2, a3⟩ := h2.2.2.2 f (by omega) c (hst c)
      have := hlo k a1 a2
      omega
    · omega
  · obtain ⟨a1, a2, a3, a4⟩ := h2.2.1 kk k0 (by omega)
    have c : f ≤ pp kk := by
      by_cases c : pp kk < f
      · exact absurd a3 (hno _ hb c)
      · omega
    obtain ⟨k, b1, b2, b3⟩ := h2.2.2.2 f (by omega) (by omega) (hst (by omega))
    by_cases d : k < kk
    · have := hlo k b1 d
      omega
    · have := tf_TOK_mono h k0 (k - kk).toNat (by omega)
      rw [show kk + (((k - kk).toNat : Nat) : Int) = k by omega, b3] at this
      omega
def tf_TS (s w t : Int) : Prop := (s = 0 ∧ t = 0) ∨ (s = 1 ∧ tf_WD w t) ∨ (s = 2 ∧ tf_NM w t) ∨ (s = 3 ∧ t = 1000 + w ∧ 0 ≤ w ∧ w ≤ 255 ∧ w ≠ 32 ∧ (w < 48 ∨ 57 < w) ∧ (w < 97 ∨ 122 < w))
def tf_NX (tp : Int → Int) (n t f1 t1 s1 w1 : Int) : Prop := t ≤ f1 ∧ f1 ≤ n ∧ (∀ j, t ≤ j → j < f1 → tp j = 32) ∧ ((f1 = n ∧ s1 = 0 ∧ t1 = f1) ∨ (f1 < n ∧ s1 = 1 ∧ ∃ m : Nat, tf_rl tp n f1 m ∧ t1 = f1 + m ∧ ((m ≤ 10 ∧ w1 = tf_bv tp f1 m) ∨ (10 < m ∧ w1 = -1))) ∨ (f1 < n ∧ s1 = 2 ∧ ∃ m : Nat, tf_rd tp n f1 m ∧ t1 = f1 + m ∧ w1 = tf_wv tp f1 m) ∨ (f1 < n ∧ s1 = 3 ∧ t1 = f1 + 1 ∧ w1 = tp f1 ∧ tp f1 ≠ 32 ∧ (tp f1 < 48 ∨ 57 < tp f1) ∧ (tp f1 < 97 ∨ 122 < tp f1)))
def tf_LX (tp : Int → Int) (n : Int) (ss pp : Int → Int) (m k f t s w : Int) : Prop := (0 ≤ k ∧ k < m) ∧ pp k = f ∧ tf_TS s w (ss k) ∧ f ≤ t ∧ t ≤ n ∧ (∀ j, f < j → j < t → ¬ tf_start tp j) ∧ (t < n → ¬ tf_go tp t) ∧ (s ≠ 0 → f < t)
theorem tf_rl_u {tp : Int → Int} {n p : Int} {m k : Nat} (h1 : tf_rl tp n p m) (h2 : tf_rl tp n p k) : m = k := by
  obtain ⟨a1, a2, a3, a4⟩ := h1
  obtain ⟨b1, b2, b3, b4⟩ := h2
  by_cases c : m < k
  · exact absurd (b3 (m : Int) (by omega) (by omega)) (a4 (by omega))
  · by_cases d : k < m
    · exact absurd (a3 (k : Int) (by omega) (by omega)) (b4 (by omega))
    · omega
theorem tf_rd_u {tp : Int → Int} {n p : Int} {m k : Nat} (h1 : tf_rd tp n p m) (h2 : tf_rd tp n p k) : m = k := by
  obtain ⟨a1, a2, a3, a4⟩ := h1
  obtain ⟨b1, b2, b3, b4⟩ := h2
  by_cases c : m < k
  · exact absurd (b3 (m : Int) (by omega) (by omega)) (a4 (by omega))
  · by_cases d : k < m
    · exact absurd (a3 (k : Int) (by omega) (by omega)) (b4 (by omega))
    · omega
theorem tf_rl_0 {tp : Int → Int} {n p : Int} {m : Nat} (h : tf_rl tp n p m) : 97 ≤ tp p ∧ tp p ≤ 122 := by
  have := h.2.2.1 0 (by omega) (by have := h.1; omega)
  rwa [Int.add_zero] at this
theorem tf_rd_0 {tp : Int → Int} {n p : Int} {m : Nat} (h : tf_rd tp n p m) : 48 ≤ tp p ∧ tp p ≤ 57 := by
  have := h.2.2.1 0 (by omega) (by have := h.1; omega)
  rwa [Int.add_zero] at this
theorem tf_SO_ne {tp : Int → Int} {n p t : Int} (h : tf_SO tp n p t) (h0 : 0 ≤ tp p) : t ≠ 0 := by
  rcases h with ⟨-, m, h1, ⟨-, h2⟩ | ⟨-, h2⟩⟩ | ⟨-, m, h1, h2⟩ | ⟨-, -, h2⟩
  · unfold tf_WD at h2; omega
  · omega
  · have := tf_nw_rel h1.2.2.1
    omega
  · omega
theorem tf_TS_of {tp : Int → Int} {n t0 f1 t1 s1 w1 t : Int} (hN : tf_NX tp n t0 f1 t1 s1 w1) (hlt : f1 < n) (hb : ∀ j, 0 ≤ tp j ∧ tp j ≤ 255) (hS : tf_SO tp n f1 t) : tf_TS s1 w1 t := by
  obtain ⟨-, -, -, h⟩ := hN
  have h255 := hb f1
  rcases h with ⟨h1, -⟩ | ⟨-, hs, m, hm, -, hw⟩ | ⟨-, hs, m, hm, -, hw⟩ | ⟨-, hs, -, hw, h32, hd, hl⟩
  · omega
  · have hl := tf_rl_0 hm
    refine Or.inr (Or.inl ⟨hs, ?_⟩)
    rcases hS with ⟨-, k, hk, h3⟩ | ⟨h3, -⟩ | ⟨-, h3, -⟩
    · have e := tf_rl_u hm hk
      subst e
      rcases hw with ⟨w1, w2⟩ | ⟨w1, w2⟩
      · rcases h3 with ⟨-, h4⟩ | ⟨h4, -⟩
        · rw [w2]; exact h4
        · omega
      · rcases h3 with ⟨h4, -⟩ | ⟨-, h4⟩
        · omega
        · unfold tf_WD; omega
    · omega
    · omega
  · have hl := tf_rd_0 hm
    refine Or.inr (Or.inr (Or.inl ⟨hs, ?_⟩))
    rcases hS with ⟨h3, -⟩ | ⟨-, k, hk, h3⟩ | ⟨h3, -⟩
    · omega
    · have e := tf_rd_u hm hk
      subst e
      rw [hw]; exact tf_nm_of hm.2.2.1 h3
    · omega
  · refine Or.inr (Or.inr (Or.inr ?_))
    rcases hS with ⟨h3, -⟩ | ⟨h3, -⟩ | ⟨-, -, h3⟩
    · omega
    · omega
    · omega
theorem tf_NX_in {tp : Int → Int} {n t0 f1 t1 s1 w1 : Int} (hN : tf_NX tp n t0 f1 t1 s1 w1) (hf0 : 0 ≤ f1) : f1 ≤ t1 ∧ t1 ≤ n ∧ (∀ j, f1 < j → j < t1 → ¬ tf_start tp j) ∧ (t1 < n → ¬ tf_go tp t1) ∧ (s1 ≠ 0 → f1 < t1) := by
  obtain ⟨-, hn, -, h⟩ := hN
  rcases h with ⟨h1, h2, h3⟩ | ⟨h1, hs, m, hm, h3, -⟩ | ⟨h1, hs, m, hm, h3, -⟩ | ⟨h1, hs, h3, -, -, hd, hl⟩
  · exact ⟨by omega, by omega, fun j j0 j1 => by omega, fun h => by omega, fun h => by omega⟩
  · obtain ⟨m1, m2, m3, m4⟩ := hm
    refine ⟨by omega, by omega, fun j j0 j1 hst => ?_, fun h hg => ?_, fun _ => by omega⟩
    · have a1 := m3 (j - f1) (by omega) (by omega)
      have a2 := m3 (j - 1 - f1) (by omega) (by omega)
      rw [show f1 + (j - f1) = j by omega] at a1
      rw [show f1 + (j - 1 - f1) = j - 1 by omega] at a2
      exact hst.2 ⟨by omega, Or.inl ⟨a1.1, a1.2, a2.1, a2.2⟩⟩
    · have a2 := m3 (m - 1) (by omega) (by omega)
      have a3 := m4 (by omega)
      rw [show f1 + ((m : Int) - 1) = t1 - 1 by omega] at a2
      rw [show f1 + (m : Int) = t1 by omega] at a3
      rcases hg.2 with g | g
      · exact a3 ⟨g.1, g.2.1⟩
      · omega
  · obtain ⟨m1, m2, m3, m4⟩ := hm
    refine ⟨by omega, by omega, fun j j0 j1 hst => ?_, fun h hg => ?_, fun _ => by omega⟩
    · have a1 := m3 (j - f1) (by omega) (by omega)
      have a2 := m3 (j - 1 - f1) (by omega) (by omega)
      rw [show f1 + (j - f1) = j by omega] at a1
      rw [show f1 + (j - 1 - f1) = j - 1 by omega] at a2
      exact hst.2 ⟨by omega, Or.inr ⟨a1.1, a1.2, a2.1, a2.2⟩⟩
    · have a2 := m3 (m - 1) (by omega) (by omega)
      have a3 := m4 (by omega)
      rw [show f1 + ((m : Int) - 1) = t1 - 1 by omega] at a2
      rw [show f1 + (m : Int) = t1 by omega] at a3
      rcases hg.2 with g | g
      · omega
      · exact a3 ⟨g.1, g.2.1⟩
  · refine ⟨by omega, by omega, fun j j0 j1 => by omega, fun h hg => ?_, fun _ => by omega⟩
    rcases hg.2 with g | g
    · rw [show t1 - 1 = f1 by omega] at g; omega
    · rw [show t1 - 1 = f1 by omega] at g; omega
theorem tf_NX_start {tp : Int → Int} {n t0 f1 t1 s1 w1 : Int} (hN : tf_NX tp n t0 f1 t1 s1 w1) (hg : t0 < n → ¬ tf_go tp t0) : (∀ j, t0 ≤ j → j < f1 → ¬ tf_start tp j) ∧ (f1 < n → tf_start tp f1) := by
  obtain ⟨h0, hn, hbl, h⟩ := hN
  refine ⟨fun j j0 j1 hs => hs.1 (hbl j j0 j1), fun hlt => ⟨?_, fun hgo => ?_⟩⟩
  · rcases h with ⟨h1, -⟩ | ⟨-, -, m, hm, -⟩ | ⟨-, -, m, hm, -⟩ | ⟨-, -, -, -, h32, -⟩
    · omega
    · have := tf_rl_0 hm; omega
    · have := tf_rd_0 hm; omega
    · exact h32
  · by_cases e : f1 = t0
    · rw [e] at hgo hlt; exact hg hlt hgo
    · have hb := hbl (f1 - 1) (by omega) (by omega)
      rcases hgo.2 with g | g <;> omega
theorem tf_LX_of {tp ss pp : Int → Int} {n m k t0 f1 t1 s1 w1 : Int} (hT : tf_TOK tp n ss pp m) (hb : ∀ j, 0 ≤ tp j ∧ tp j ≤ 255) (k0 : 0 ≤ k) (k1 : k < m) (hpp : pp k = f1) (hN : tf_NX tp n t0 f1 t1 s1 w1) : tf_LX tp n ss pp m k f1 t1 s1 w1 := by
  obtain ⟨h1, h2, h3, h4⟩ := hT
  have hf0 : 0 ≤ f1 := by
    rw [← hpp]
    by_cases e : k = m - 1
    · rw [e, h4]; omega
    · exact (h2.2.1 k k0 (by omega)).1
  obtain ⟨a1, a2, a3, a4, a5⟩ := tf_NX_in hN hf0
  refine ⟨⟨k0, k1⟩, hpp, ?_, a1, a2, a3, a4, a5⟩
  by_cases e : k = m - 1
  · have hfn : f1 = n := by rw [← hpp, e]; exact h4
    have hs : s1 = 0 := by
      rcases hN.2.2.2 with ⟨-, h, -⟩ | ⟨h, -⟩ | ⟨h, -⟩ | ⟨h, -⟩
      · exact h
      · omega
      · omega
      · omega
    exact Or.inl ⟨hs, by rw [e]; exact h3⟩
  · obtain ⟨b1, b2, b3, b4⟩ := h2.2.1 k k0 (by omega)
    rw [hpp] at b2 b4
    exact tf_TS_of hN b2 hb b4
def tf_nx (m k : Int) : Int := if k + 1 < m then k + 1 else m - 1
theorem tf_nx_eq (m k : Int) : (k + 1 < m ∧ tf_nx m k = k + 1) ∨ (m ≤ k + 1 ∧ tf_nx m k = m - 1) := by
  unfold tf_nx
  by_cases c : k + 1 < m
  · rw [if_pos c]; exact Or.inl ⟨c, rfl⟩
  · rw [if_neg c]; exact Or.inr ⟨by omega, rfl⟩
theorem tf_LX_next {tp ss pp : Int → Int} {n m k f t s w f1 t1 s1 w1 : Int} (hT : tf_TOK tp n ss pp m) (hb : ∀ j, 0 ≤ tp j ∧ tp j ≤ 255) (hL : tf_LX tp n ss pp m k f t s w) (hN : tf_NX tp n t f1 t1 s1 w1) : tf_LX tp n ss pp m (tf_nx m k) f1 t1 s1 w1 := by
  obtain ⟨⟨k0, k1⟩, hp, hs, l1, l2, l3, l4, l5⟩ := hL
  obtain ⟨h1, h2, h3, h4⟩ := id hT
  obtain ⟨n1, n2⟩ := tf_NX_start hN l4
  have b1 := hN.1
  have b2 := hN.2.1
  rcases tf_nx_eq m k with ⟨c1, c2⟩ | ⟨c1, c2⟩
  · rw [c2]
    obtain ⟨q1, q2, q3, q4⟩ := h2.2.1 k k0 (by omega)
    have hne : s ≠ 0 := fun e => by
      have := tf_SO_ne q4 (hb _).1
      unfold tf_TS at hs
      omega
    have hft := l5 hne
    refine tf_LX_of hT hb (by omega) c1 (tf_TOK_at hT (b := f + 1) (by omega) c1 (fun j j0 j1 => ?_) ?_ (by omega) (by omega) b2 (fun j j0 j1 => ?_) n2) hN
    · have := tf_TOK_mono hT j0 (k - j).toNat (by omega)
      rw [show j + (((k - j).toNat : Nat) : Int) = k by omega, hp] at this
      omega
    · have := tf_TOK_lt hT k0 c1
      omega
    · by_cases d : j < t
      · exact l3 j (by omega) d
      · exact n1 j (by omega) j1
  · rw [c2]
    have ek : k = m - 1 := by omega
    have hfn : f = n := by rw [← hp, ek]; exact h4
    exact tf_LX_of hT hb (by omega) (by omega) (by rw [h4]; omega) hN
theorem tf_LX_begin {tp ss pp : Int → Int} {n m f1 t1 s1 w1 : Int} (hT : tf_TOK tp n ss pp m) (hb : ∀ j, 0 ≤ tp j ∧ tp j ≤ 255) (hN : tf_NX tp n 0 f1 t1 s1 w1) : tf_LX tp n ss pp m 0 f1 t1 s1 w1 := by
  obtain ⟨h1, h2, h3, h4⟩ := id hT
  obtain ⟨n1, n2⟩ := tf_NX_start hN (fun _ hg => by have := hg.1; omega)
  refine tf_LX_of hT hb (by omega) (by omega) (tf_TOK_at hT (b := 0) (by omega) (by omega) (fun j j0 j1 => by omega) ?_ (by omega) hN.1 hN.2.1 n1 n2) hN
  by_cases e : m - 1 = 0
  · rw [← e, h4]; omega
  · exact (h2.2.1 0 (by omega) (by omega)).1
theorem tf_rwb {kt : List tf_Kd} {g : tf_G} {M : List (Nat × Nat)} {T0 T : tf_T} {H0 H : Heap} {locs : List Loc} (hW : tf_n kt g M T0 H0 T H locs) {a k n ai : Nat} {lo hi : Int} {ro : Bool} (ha : T a = some (k, n)) (hk : kt[k]? = some (true, ai, [(0, 0, 0, lo, hi)], ro)) (h0 : lo ≤ 0) (h1 : 0 ≤ hi) (h2 : -2147483648 ≤ lo) (h3 : hi ≤ 2147483647) : ∀ j, lo ≤ tf_rw H a j ∧ tf_rw H a j ≤ hi := by
  intro j
  obtain ⟨cell, q1, q, q2, q3, q4, -⟩ := hW.1.1 a k n ha
  cases hk.symm.trans q2
  obtain ⟨-, e2, -, e4, -⟩ := q4 rfl
  rw [tf_rw_cell q1]
  unfold tf_cw
  by_cases c : j < 0
  · rw [if_pos c]; exact ⟨h0, h1⟩
  · rw [if_neg c]
    by_cases d : j.toNat < n
    · obtain ⟨v, hv, hok⟩ := e4 j.toNat _ d rfl
      obtain ⟨z, rfl, z1, z2⟩ := tf_v0 hok
      rw [hv]
      show lo ≤ (Int32.ofInt z).toInt ∧ (Int32.ofInt z).toInt ≤ hi
      rw [tf_ti ⟨by omega, by omega⟩]; exact ⟨z1, z2⟩
    · rw [Array.getElem?_eq_none (by omega)]; exact ⟨h0, h1⟩
abbrev tf_Cf : Type := Int × Int × Int × List (Int × Int) × Int × Int × Int
def tf_part (ss : Int → Int) (m k c : Int) (S : List (Int × Int)) (lv e i : Int) : Option tf_Cf :=
  if ss k = 1091 then (if (S.length : Int) < 8 then some (tf_nx m k, 1, 0, (31, c) :: S, lv, e, i) else none)
  else if ((2000 ≤ ss k ∧ ss k ≤ 3000) ∨ (16 ≤ ss k ∧ ss k ≤ 24)) ∧ lv < 50 then some (tf_nx m k, 3, c, S, lv + 1, e, i) else none
def tf_sum (ss : Int → Int) (m k c : Int) (S : List (Int × Int)) (lv e i : Int) : Option tf_Cf :=
  if ss k = 1043 ∨ ss k = 1045 ∨ ss k = 1042 ∨ ss k = 1047 then some (tf_nx m k, 1, c, S, lv, e, i)
  else match S with
    | (b, c2) :: S2 => if b = 31 then (if ss k = 1093 then some (tf_nx m k, 3, c2, S2, lv, e, i) else none)
        else if c = 1 then some (k, 2, 0, (b, c2) :: S2, lv, e, i)
        else if ss k = 1060 ∨ ss k = 1061 ∨ ss k = 1062 then some (tf_nx m k, 1, 1, (b, c2) :: S2, lv, e, i) else none
    | [] => if e = 0 then some (k, 4, 0, [], lv, e, i)
        else if c = 1 then some (k, 2, 0, [], lv, e, i)
        else if ss k = 1060 ∨ ss k = 1061 ∨ ss k = 1062 then some (tf_nx m k, 1, 1, [], lv, e, i) else none
def tf_told (ss : Int → Int) (m k : Int) (S : List (Int × Int)) (lv e i : Int) : Option tf_Cf :=
  if ss k = 3 ∨ ss k = 4 then some (tf_nx m k, 0, 0, S, lv, e, i)
  else match S with
    | [] => some (k, 4, 0, [], lv, e, i)
    | _ :: S2 => if ss k = 1041 then some (tf_nx m k, 2, 0, S2, lv, e, i) else none
def tf_step (ss : Int → Int) (m : Int) : tf_Cf → Option tf_Cf
  | (k, t, c, S, lv, e, i) =>
    if t = 0 then (if ss k = 5 then some (tf_nx m k, 0, 0, S, lv, e, i)
      else if ss k = 1040 then (if (S.length : Int) < 8 then some (tf_nx m k, 0, 0, (30, c) :: S, lv, e, i) else none)
      else tf_part ss m k c S lv e i)
    else if t = 1 then tf_part ss m k c S lv e i
    else if t = 2 then tf_told ss m k S lv e i
    else if t = 3 then tf_sum ss m k c S lv e i
    else if t = 4 then (if e = 0 ∧ ss k = 2 then some (tf_nx m k, 0, 0, [], lv, 1, i) else some (k, 6, 0, [], lv, 0, i))
    else if t = 5 then (if ss k = 1 ∧ i < 12 then some (tf_nx m k, 1, 0, [], lv, 0, i + 1) else none)
    else if t = 6 then (if ss k = 1059 then some (tf_nx m k, 5, 0, [], lv, 0, i) else if ss k = 0 then some (k, 7, 0, [], lv, 0, i) else none)
    else none
def tf_iter (ss : Int → Int) (m : Int) : Nat → tf_Cf → Option tf_Cf
  | 0, a => some a
  | n + 1, a => match tf_step ss m a with
    | none => none
    | some b => tf_iter ss m n b
def tf_Re (ss : Int → Int) (m : Int) (a b : tf_Cf) : Prop := ∃ n, tf_iter ss m n a = some b
def tf_Ha (ss : Int → Int) (m : Int) (a h : tf_Cf) : Prop := tf_Re ss m a h ∧ tf_step ss m h = none
theorem tf_Re_rf {ss : Int → Int} {m : Int} {a : tf_Cf} : tf_Re ss m a a := ⟨0, rfl⟩
theorem tf_Re_st {ss : Int → Int} {m : Int} {a b c : tf_Cf} (h : tf_step ss m a = some b) (h2 : tf_Re ss m b c) : tf_Re ss m a c := by
  obtain ⟨n, hn⟩ := h2
  refine ⟨n + 1, ?_⟩
  show (match tf_step ss m a with | none => none | some b => tf_iter ss m n b) = some c
  rw [h]; exact hn
theorem tf_Re_1 {ss : Int → Int} {m : Int} {a b : tf_Cf} (h : tf_step ss m a = some b) : tf_Re ss m a b := tf_Re_st h tf_Re_rf
theorem tf_Re_tr {ss : Int → Int} {m : Int} {b c : tf_Cf} (h2 : tf_Re ss m b c) : ∀ (n : Nat) (a : tf_Cf), tf_iter ss m n a = some b → tf_Re ss m a c
  | 0, a, h => by cases h; exact h2
  | n + 1, a, h => by
    have h3 : (match tf_step ss m a with | none => none | some b => tf_iter ss m n b) = some b := h
    cases e : tf_step ss m a with
    | none => rw [e] at h3; cases h3
    | some d => rw [e] at h3; exact tf_Re_st e (tf_Re_tr h2 n d h3)
theorem tf_Re.trans {ss : Int → Int} {m : Int} {a b c : tf_Cf} (h1 : tf_Re ss m a b) (h2 : tf_Re ss m b c) : tf_Re ss m a c := by
  obtain ⟨n, hn⟩ := h1
  exact tf_Re_tr h2 n a hn
theorem tf_Re.ha {ss : Int → Int} {m : Int} {a b h : tf_Cf} (h1 : tf_Re ss m a b) (h2 : tf_Ha ss m b h) : tf_Ha ss m a h := ⟨h1.trans h2.1, h2.2⟩
theorem tf_Ha_n {ss : Int → Int} {m : Int} {h1 h2 : tf_Cf} (e1 : tf_step ss m h1 = none) (e2 : tf_step ss m h2 = none) : ∀ (n k : Nat) (a : tf_Cf), tf_iter ss m n a = some h1 → tf_iter ss m k a = some h2 → h1 = h2
  | 0, 0, a, p, q => by cases p; cases q; rfl
  | 0, k + 1, a, p, q => by
    have p2 : a = h1 := Option.some.inj p
    have q2 : (match tf_step ss m a with | none => none | some b => tf_iter ss m k b) = some h2 := q
    rw [p2, e1] at q2
    have q3 : (none : Option tf_Cf) = some h2 := q2
    cases q3
  | n + 1, 0, a, p, q => by
    have q2 : a = h2 := Option.some.inj q
    have p2 : (match tf_step ss m a with | none => none | some b => tf_iter ss m n b) = some h1 := p
    rw [q2, e2] at p2
    have p3 : (none : Option tf_Cf) = some h1 := p2
    cases p3
  | n + 1, k + 1, a, p, q => by
    have p2 : (match tf_step ss m a with | none => none | some b => tf_iter ss m n b) = some h1 := p
    have q2 : (match tf_step ss m a with | none => none | some b => tf_iter ss m k b) = some h2 := q
    cases e : tf_step ss m a with
    | none => rw [e] at p2; cases p2
    | some d => rw [e] at p2 q2; exact tf_Ha_n e1 e2 n k d p2 q2
theorem tf_Ha.uniq {ss : Int → Int} {m : Int} {a h1 h2 : tf_Cf} (p : tf_Ha ss m a h1) (q : tf_Ha ss m a h2) : h1 = h2 := by
  obtain ⟨⟨n, p1⟩, p2⟩ := p
  obtain ⟨⟨k, q1⟩, q2⟩ := q
  exact tf_Ha_n p2 q2 n k a p1 q1
theorem tf_step_1 {ss : Int → Int} {m k c lv e i : Int} {S : List (Int × Int)} : tf_step ss m (k, 1, c, S, lv, e, i) = tf_part ss m k c S lv e i := rfl
theorem tf_step_2 {ss : Int → Int} {m k c lv e i : Int} {S : List (Int × Int)} : tf_step ss m (k, 2, c, S, lv, e, i) = tf_told ss m k S lv e i := rfl
theorem tf_step_3 {ss : Int → Int} {m k c lv e i : Int} {S : List (Int × Int)} : tf_step ss m (k, 3, c, S, lv, e, i) = tf_sum ss m k c S lv e i := rfl
theorem tf_step_0 {ss : Int → Int} {m k c lv e i : Int} {S : List (Int × Int)} : tf_step ss m (k, 0, c, S, lv, e, i) = (if ss k = 5 then some (tf_nx m k, 0, 0, S, lv, e, i) else if ss k = 1040 then (if (S.length : Int) < 8 then some (tf_nx m k, 0, 0, (30, c) :: S, lv, e, i) else none) else tf_part ss m k c S lv e i) := rfl
theorem tf_step_4 {ss : Int → Int} {m k c lv e i : Int} {S : List (Int × Int)} : tf_step ss m (k, 4, c, S, lv, e, i) = (if e = 0 ∧ ss k = 2 then some (tf_nx m k, 0, 0, [], lv, 1, i) else some (k, 6, 0, [], lv, 0, i)) := rfl
theorem tf_step_5 {ss : Int → Int} {m k c lv e i : Int} {S : List (Int × Int)} : tf_step ss m (k, 5, c, S, lv, e, i) = (if ss k = 1 ∧ i < 12 then some (tf_nx m k, 1, 0, [], lv, 0, i + 1) else none) := rfl
theorem tf_step_6 {ss : Int → Int} {m k c lv e i : Int} {S : List (Int × Int)} : tf_step ss m (k, 6, c, S, lv, e, i) = (if ss k = 1059 then some (tf_nx m k, 5, 0, [], lv, 0, i) else if ss k = 0 then some (k, 7, 0, [], lv, 0, i) else none) := rfl
theorem tf_step_7 {ss : Int → Int} {m k c lv e i : Int} {S : List (Int × Int)} : tf_step ss m (k, 7, c, S, lv, e, i) = none := rfl
theorem tf_p_open {ss : Int → Int} {m k k1 c lv e i : Int} {S : List (Int × Int)} (h : ss k = 1091) (hd : (S.length : Int) < 8) (hn : k1 = tf_nx m k) : tf_step ss m (k, 1, c, S, lv, e, i) = some (k1, 1, 0, (31, c) :: S, lv, e, i) := by
  rw [tf_step_1]
  unfold tf_part
  rw [if_pos h, if_pos hd, hn]
theorem tf_p_deep {ss : Int → Int} {m k c lv e i : Int} {S : List (Int × Int)} (h : ss k = 1091) (hd : 8 ≤ (S.length : Int)) : tf_step ss m (k, 1, c, S, lv, e, i) = none := by
  rw [tf_step_1]
  unfold tf_part
  rw [if_pos h, if_neg (by omega)]
theorem tf_p_leaf {ss : Int → Int} {m k k1 c lv lv1 e i : Int} {S : List (Int × Int)} (h : (2000 ≤ ss k ∧ ss k ≤ 3000) ∨ (16 ≤ ss k ∧ ss k ≤ 24)) (hl : lv < 50) (hn : k1 = tf_nx m k) (hv : lv1 = lv + 1) : tf_step ss m (k, 1, c, S, lv, e, i) = some (k1, 3, c, S, lv1, e, i) := by
  rw [tf_step_1]
  unfold tf_part
  rw [if_neg (by omega), if_pos ⟨h, hl⟩, hn, hv]
theorem tf_p_bad {ss : Int → Int} {m k c lv e i : Int} {S : List (Int × Int)} (h : ss k ≠ 1091) (hl : (¬ ((2000 ≤ ss k ∧ ss k ≤ 3000) ∨ (16 ≤ ss k ∧ ss k ≤ 24))) ∨ 50 ≤ lv) : tf_step ss m (k, 1, c, S, lv, e, i) = none := by
  rw [tf_step_1]
  unfold tf_part
  rw [if_neg h, if_neg (by omega)]
theorem tf_s_op {ss : Int → Int} {m k k1 c lv e i : Int} {S : List (Int × Int)} (h : (ss k = 1043 ∨ ss k = 1045 ∨ ss k = 1042 ∨ ss k = 1047)) (hn : k1 = tf_nx m k) : tf_step ss m (k, 3, c, S, lv, e, i) = some (k1, 1, c, S, lv, e, i) := by
  rw [tf_step_3]
  unfold tf_sum
  rw [if_pos h, hn]
theorem tf_s_close {ss : Int → Int} {m k k1 c c2 lv e i : Int} {S2 : List (Int × Int)} (h : ss k = 1093) (hn : k1 = tf_nx m k) : tf_step ss m (k, 3, c, (31, c2) :: S2, lv, e, i) = some (k1, 3, c2, S2, lv, e, i) := by
  rw [tf_step_3]
  unfold tf_sum
  rw [if_neg (by omega)]
  show (if (31 : Int) = 31 then (if ss k = 1093 then some (tf_nx m k, 3, c2, S2, lv, e, i) else none) else _) = _
  rw [if_pos rfl, if_pos h, hn]
theorem tf_s_nocl {ss : Int → Int} {m k c c2 lv e i : Int} {S2 : List (Int × Int)} (h : ¬ (ss k = 1043 ∨ ss k = 1045 ∨ ss k = 1042 ∨ ss k = 1047)) (h2 : ss k ≠ 1093) : tf_step ss m (k, 3, c, (31, c2) :: S2, lv, e, i) = none := by
  rw [tf_step_3]
  unfold tf_sum
  rw [if_neg h]
  show (if (31 : Int) = 31 then (if ss k = 1093 then some (tf_nx m k, 3, c2, S2, lv, e, i) else none) else _) = _
  rw [if_pos rfl, if_neg h2]
def tf_nsq (S : List (Int × Int)) (e : Int) : Prop := match S with
  | [] => e ≠ 0
  | (b, _) :: _ => b ≠ 31
theorem tf_s_told {ss : Int → Int} {m k c lv e i : Int} {S : List (Int × Int)} (h : ¬ (ss k = 1043 ∨ ss k = 1045 ∨ ss k = 1042 ∨ ss k = 1047)) (hS : tf_nsq S e) (hc : c = 1) : tf_step ss m (k, 3, c, S, lv, e, i) = some (k, 2, 0, S, lv, e, i) := by
  rw [tf_step_3]
  unfold tf_sum
  match S, hS with
  | [], hS =>
    rw [if_neg h]
    show (if e = 0 then _ else (if c = 1 then some (k, 2, 0, [], lv, e, i) else if ss k = 1060 ∨ ss k = 1061 ∨ ss k = 1062 then some (tf_nx m k, 1, 1, [], lv, e, i) else none)) = _
    rw [if_neg hS, if_pos hc]
  | (b, c2) :: S2, hS =>
    rw [if_neg h]
    show (if b = 31 then _ else (if c = 1 then some (k, 2, 0, (b, c2) :: S2, lv, e, i) else if ss k = 1060 ∨ ss k = 1061 ∨ ss k = 1062 then some (tf_nx m k, 1, 1, (b, c2) :: S2, lv, e, i) else none)) = _
    rw [if_neg hS, if_pos hc]
theorem tf_s_cmp {ss : Int → Int} {m k k1 c lv e i : Int} {S : List (Int × Int)} (h : ¬ (ss k = 1043 ∨ ss k = 1045 ∨ ss k = 1042 ∨ ss k = 1047)) (hS : tf_nsq S e) (hc : c ≠ 1) (ht : (ss k = 1060 ∨ ss k = 1061 ∨ ss k = 1062)) (hn : k1 = tf_nx m k) : tf_step ss m (k, 3, c, S, lv, e, i) = some (k1, 1, 1, S, lv, e, i) := by
  rw [tf_step_3]
  unfold tf_sum
  match S, hS with
  | [], hS =>
    rw [if_neg h]
    show (if e = 0 then _ else (if c = 1 then some (k, 2, 0, [], lv, e, i) else if ss k = 1060 ∨ ss k = 1061 ∨ ss k = 1062 then some (tf_nx m k, 1, 1, [], lv, e, i) else none)) = _
    rw [if_neg hS, if_neg hc, if_pos ht, hn]
  | (b, c2) :: S2, hS =>
    rw [if_neg h]
    show (if b = 31 then _ else (if c = 1 then some (k, 2, 0, (b, c2) :: S2, lv, e, i) else if ss k = 1060 ∨ ss k = 1061 ∨ ss k = 1062 then some (tf_nx m k, 1, 1, (b, c2) :: S2, lv, e, i) else none)) = _
    rw [if_neg hS, if_neg hc, if_pos ht, hn]
theorem tf_s_nocmp {ss : Int → Int} {m k c lv e i : Int} {S : List (Int × Int)} (h : ¬ (ss k = 1043 ∨ ss k = 1045 ∨ ss k = 1042 ∨ ss k = 1047)) (hS : tf_nsq S e) (hc : c ≠ 1) (ht : ¬ (ss k = 1060 ∨ ss k = 1061 ∨ ss k = 1062)) : tf_step ss m (k, 3, c, S, lv, e, i) = none := by
  rw [tf_step_3]
  unfold tf_sum
  match S, hS with
  | [], hS =>
    rw [if_neg h]
    show (if e = 0 then _ else (if c = 1 then some (k, 2, 0, [], lv, e, i) else if ss k = 1060 ∨ ss k = 1061 ∨ ss k = 1062 then some (tf_nx m k, 1, 1, [], lv, e, i) else none)) = _
    rw [if_neg hS, if_neg hc, if_neg ht]
  | (b, c2) :: S2, hS =>
    rw [if_neg h]
    show (if b = 31 then _ else (if c = 1 then some (k, 2, 0, (b, c2) :: S2, lv, e, i) else if ss k = 1060 ∨ ss k = 1061 ∨ ss k = 1062 then some (tf_nx m k, 1, 1, (b, c2) :: S2, lv, e, i) else none)) = _
    rw [if_neg hS, if_neg hc, if_neg ht]
theorem tf_s_over {ss : Int → Int} {m k c lv e i : Int} (h : ¬ (ss k = 1043 ∨ ss k = 1045 ∨ ss k = 1042 ∨ ss k = 1047)) (he : e = 0) : tf_step ss m (k, 3, c, [], lv, e, i) = some (k, 4, 0, [], lv, e, i) := by
  rw [tf_step_3]
  unfold tf_sum
  rw [if_neg h]
  show (if e = 0 then some (k, 4, 0, [], lv, e, i) else _) = _
  rw [if_pos he]
theorem tf_t_and {ss : Int → Int} {m k k1 c lv e i : Int} {S : List (Int × Int)} (h : ss k = 3 ∨ ss k = 4) (hn : k1 = tf_nx m k) : tf_step ss m (k, 2, c, S, lv, e, i) = some (k1, 0, 0, S, lv, e, i) := by
  rw [tf_step_2]
  unfold tf_told
  rw [if_pos h, hn]
theorem tf_t_close {ss : Int → Int} {m k k1 c lv e i : Int} {b : Int × Int} {S2 : List (Int × Int)} (h : ss k = 1041) (hn : k1 = tf_nx m k) : tf_step ss m (k, 2, c, b :: S2, lv, e, i) = some (k1, 2, 0, S2, lv, e, i) := by
  rw [tf_step_2]
  unfold tf_told
  rw [if_neg (by omega)]
  show (if ss k = 1041 then some (tf_nx m k, 2, 0, S2, lv, e, i) else none) = _
  rw [if_pos h, hn]
theorem tf_t_nocl {ss : Int → Int} {m k c lv e i : Int} {b : Int × Int} {S2 : List (Int × Int)} (h : ¬ (ss k = 3 ∨ ss k = 4)) (h2 : ss k ≠ 1041) : tf_step ss m (k, 2, c, b :: S2, lv, e, i) = none := by
  rw [tf_step_2]
  unfold tf_told
  rw [if_neg h]
  show (if ss k = 1041 then some (tf_nx m k, 2, 0, S2, lv, e, i) else none) = _
  rw [if_neg h2]
theorem tf_t_over {ss : Int → Int} {m k c lv e i : Int} (h : ¬ (ss k = 3 ∨ ss k = 4)) : tf_step ss m (k, 2, c, [], lv, e, i) = some (k, 4, 0, [], lv, e, i) := by
  rw [tf_step_2]
  unfold tf_told
  rw [if_neg h]
theorem tf_n_not {ss : Int → Int} {m k k1 c lv e i : Int} {S : List (Int × Int)} (h : ss k = 5) (hn : k1 = tf_nx m k) : tf_step ss m (k, 0, c, S, lv, e, i) = some (k1, 0, 0, S, lv, e, i) := by
  rw [tf_step_0]
  rw [if_pos h, hn]
theorem tf_n_open {ss : Int → Int} {m k k1 c lv e i : Int} {S : List (Int × Int)} (h : ss k = 1040) (hd : (S.length : Int) < 8) (hn : k1 = tf_nx m k) : tf_step ss m (k, 0, c, S, lv, e, i) = some (k1, 0, 0, (30, c) :: S, lv, e, i) := by
  rw [tf_step_0]
  rw [if_neg (by omega), if_pos h, if_pos hd, hn]
theorem tf_n_deep {ss : Int → Int} {m k c lv e i : Int} {S : List (Int × Int)} (h : ss k = 1040) (hd : 8 ≤ (S.length : Int)) : tf_step ss m (k, 0, c, S, lv, e, i) = none := by
  rw [tf_step_0]
  rw [if_neg (by omega), if_pos h, if_neg (by omega)]
theorem tf_n_part {ss : Int → Int} {m k c lv e i : Int} {S : List (Int × Int)} (h : ss k ≠ 5) (h2 : ss k ≠ 1040) : tf_step ss m (k, 0, c, S, lv, e, i) = tf_step ss m (k, 1, c, S, lv, e, i) := by
  rw [tf_step_0, tf_step_1, if_neg h, if_neg h2]
theorem tf_c_if {ss : Int → Int} {m k k1 c lv e i : Int} {S : List (Int × Int)} (h : ss k = 2) (he : e = 0) (hn : k1 = tf_nx m k) : tf_step ss m (k, 4, c, S, lv, e, i) = some (k1, 0, 0, [], lv, 1, i) := by
  rw [tf_step_4, if_pos ⟨he, h⟩, hn]
theorem tf_c_no {ss : Int → Int} {m k c lv e i : Int} {S : List (Int × Int)} (h : ¬ (e = 0 ∧ ss k = 2)) : tf_step ss m (k, 4, c, S, lv, e, i) = some (k, 6, 0, [], lv, 0, i) := by
  rw [tf_step_4, if_neg h]
theorem tf_c_quick {ss : Int → Int} {m k k1 c lv e i i1 : Int} {S : List (Int × Int)} (h : ss k = 1) (hi : i < 12) (hn : k1 = tf_nx m k) (h1 : i1 = i + 1) : tf_step ss m (k, 5, c, S, lv, e, i) = some (k1, 1, 0, [], lv, 0, i1) := by
  rw [tf_step_5, if_pos ⟨h, hi⟩, hn, h1]
theorem tf_c_nq {ss : Int → Int} {m k c lv e i : Int} {S : List (Int × Int)} (h : ¬ (ss k = 1 ∧ i < 12)) : tf_step ss m (k, 5, c, S, lv, e, i) = none := by
  rw [tf_step_5, if_neg h]
theorem tf_c_semi {ss : Int → Int} {m k k1 c lv e i : Int} {S : List (Int × Int)} (h : ss k = 1059) (hn : k1 = tf_nx m k) : tf_step ss m (k, 6, c, S, lv, e, i) = some (k1, 5, 0, [], lv, 0, i) := by
  rw [tf_step_6, if_pos h, hn]
theorem tf_c_end {ss : Int → Int} {m k c lv e i : Int} {S : List (Int × Int)} (h : ss k = 0) : tf_step ss m (k, 6, c, S, lv, e, i) = some (k, 7, 0, [], lv, 0, i) := by
  rw [tf_step_6, if_neg (by omega), if_pos h]
theorem tf_c_bad {ss : Int → Int} {m k c lv e i : Int} {S : List (Int × Int)} (h : ss k ≠ 1059) (h0 : ss k ≠ 0) : tf_step ss m (k, 6, c, S, lv, e, i) = none := by
  rw [tf_step_6, if_neg h, if_neg h0]
def tf_RD (ss pp : Int → Int) (m : Int) (a : tf_Cf) (z : Int) (b : tf_Cf) (fp : Int) : Prop := (z = 1 ∧ tf_Re ss m a b) ∨ (z = 0 ∧ ∃ h : tf_Cf, tf_Ha ss m a h ∧ h.2.1 ≠ 7 ∧ fp = pp h.1)
theorem tf_RD_no {ss pp : Int → Int} {m z fp : Int} {a b : tf_Cf} (hz : z = 0) (h : tf_step ss m a = none) (h7 : a.2.1 ≠ 7) (hf : fp = pp a.1) : tf_RD ss pp m a z b fp := Or.inr ⟨hz, a, ⟨tf_Re_rf, h⟩, h7, hf⟩
theorem tf_RD_re {ss pp : Int → Int} {m z fp : Int} {a a1 b : tf_Cf} (h : tf_Re ss m a a1) (h2 : tf_RD ss pp m a1 z b fp) : tf_RD ss pp m a z b fp := by
  rcases h2 with ⟨h3, h4⟩ | ⟨h3, q, h4, h5⟩
  · exact Or.inl ⟨h3, h.trans h4⟩
  · exact Or.inr ⟨h3, q, h.ha h4, h5⟩
theorem tf_RD_st {ss pp : Int → Int} {m z fp : Int} {a a1 b : tf_Cf} (h : tf_step ss m a = some a1) (h2 : tf_RD ss pp m a1 z b fp) : tf_RD ss pp m a z b fp := tf_RD_re (tf_Re_1 h) h2
theorem tf_RD_ok {ss pp : Int → Int} {m z fp : Int} {a b : tf_Cf} (hz : z = 1) (h : tf_Re ss m a b) : tf_RD ss pp m a z b fp := Or.inl ⟨hz, h⟩
theorem tf_RD_yes {ss pp : Int → Int} {m z fp : Int} {a b : tf_Cf} (h : tf_RD ss pp m a z b fp) (hz : z ≠ 0) : tf_Re ss m a b := by
  rcases h with ⟨-, h⟩ | ⟨h, -⟩
  · exact h
  · exact absurd h hz
theorem tf_RD_bad {ss pp : Int → Int} {m z y fp : Int} {a b d : tf_Cf} (h : tf_RD ss pp m a z b fp) (hz : z = 0) (hy : y = 0) : tf_RD ss pp m a y d fp := by
  rcases h with ⟨h, -⟩ | ⟨-, h⟩
  · omega
  · exact Or.inr ⟨hy, h⟩
theorem tf_RD_eq {ss pp : Int → Int} {m z fp : Int} {a a1 b : tf_Cf} (hs : tf_step ss m a = tf_step ss m a1) (hk : a.1 = a1.1) (h7 : a.2.1 ≠ 7) (hb : a1 ≠ b) (h : tf_RD ss pp m a1 z b fp) : tf_RD ss pp m a z b fp := by
  rcases h with ⟨h1, n, h2⟩ | ⟨h1, q, ⟨⟨n, h2⟩, h3⟩, h4, h5⟩
  · match n, h2 with
    | 0, h2 => cases h2; exact absurd rfl hb
    | n + 1, h2 => exact Or.inl ⟨h1, n + 1, by
        show (match tf_step ss m a with | none => none | some b => tf_iter ss m n b) = some b
        rw [hs]; exact h2⟩
  · match n, h2 with
    | 0, h2 =>
      cases h2
      exact Or.inr ⟨h1, a, ⟨tf_Re_rf, hs.trans h3⟩, h7, by rw [hk]; exact h5⟩
    | n + 1, h2 => exact Or.inr ⟨h1, q, ⟨⟨n + 1, by
        show (match tf_step ss m a with | none => none | some b => tf_iter ss m n b) = some q
        rw [hs]; exact h2⟩, h3⟩, h4, h5⟩
theorem tf_RD_n {ss pp : Int → Int} {m z fp k t c lv e i : Int} {S : List (Int × Int)} {b : tf_Cf} (hz : z = 0) (h : tf_step ss m (k, t, c, S, lv, e, i) = none) (h7 : t ≠ 7) (hf : fp = pp k) : tf_RD ss pp m (k, t, c, S, lv, e, i) z b fp := tf_RD_no hz h h7 hf
theorem tf_RD_plain {ss pp : Int → Int} {m z fp k c lv e i k1 c1 lv1 e1 i1 : Int} {S S1 : List (Int × Int)} (h5 : ss k ≠ 5) (h6 : ss k ≠ 1040) (h : tf_RD ss pp m (k, 1, c, S, lv, e, i) z (k1, 2, c1, S1, lv1, e1, i1) fp) : tf_RD ss pp m (k, 0, c, S, lv, e, i) z (k1, 2, c1, S1, lv1, e1, i1) fp :=
  tf_RD_eq (tf_n_part h5 h6) rfl (show (0 : Int) ≠ 7 by decide) (fun q => by
    have q2 : (1 : Int) = 2 := congrArg (fun a : tf_Cf => a.2.1) q
    exact absurd q2 (by decide)) h
theorem tf_nsq_30 {c e : Int} {S : List (Int × Int)} : tf_nsq ((30, c) :: S) e := show (30 : Int) ≠ 31 by decide
theorem tf_len1 {b : Int × Int} {S : List (Int × Int)} {d : Int} (h : (S.length : Int) = d) : (((b :: S).length : Nat) : Int) = d + 1 := by
  rw [List.length_cons]; omega

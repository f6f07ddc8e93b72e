def tf_wl (tp : Int → Int) (f t w : Int) : Prop := ∃ m : Nat, t = f + m ∧ (∀ i : Int, 0 ≤ i → i < m → 97 ≤ tp (f + i) ∧ tp (f + i) ≤ 122) ∧ ((m ≤ 10 ∧ w = tf_bv tp f m) ∨ (10 < m ∧ w = -1))
def tf_we (tp : Int → Int) (n f t w : Int) : Prop := ∃ m : Nat, tf_rl tp n f m ∧ t = f + m ∧ ((m ≤ 10 ∧ w = tf_bv tp f m) ∨ (10 < m ∧ w = -1))
def tf_dl (tp : Int → Int) (f t w : Int) : Prop := ∃ m : Nat, t = f + m ∧ (∀ i : Int, 0 ≤ i → i < m → 48 ≤ tp (f + i) ∧ tp (f + i) ≤ 57) ∧ w = tf_wv tp f m
def tf_32 : Nat → Int
  | 0 => 1
  | m + 1 => tf_32 m * 32
theorem tf_32_le : ∀ m : Fin 10, tf_32 m.val ≤ 35184372088832 := by decide
theorem tf_bv_lt {tp : Int → Int} {f : Int} : ∀ {m : Nat}, (∀ i : Int, 0 ≤ i → i < m → 97 ≤ tp (f + i) ∧ tp (f + i) ≤ 122) → tf_bv tp f m < tf_32 m
  | 0, _ => by show (0 : Int) < 1; omega
  | m + 1, h => by
    have ih := tf_bv_lt (m := m) (fun i i0 i1 => h i i0 (by omega))
    have hd := h (m : Int) (by omega) (by omega)
    show tf_bv tp f m * 32 + tp (f + m) - 96 < tf_32 m * 32
    omega
theorem tf_bl_st {tp : Int → Int} {a b x : Int} (h : ∀ j, a ≤ j → j < b → tp j = 32) (e : tp b = x) (hx : x = 32) : ∀ j, a ≤ j → j < b + 1 → tp j = 32 := fun j j0 j1 => by
  by_cases c : j = b
  · rw [c, e]; exact hx
  · exact h j j0 (by omega)
theorem tf_wl_0 {tp : Int → Int} {f t w : Int} (h : t = f) (hw : w = 0) : tf_wl tp f t w := ⟨0, by omega, fun i i0 i1 => by omega, Or.inl ⟨by omega, hw⟩⟩
theorem tf_dl_0 {tp : Int → Int} {f t w : Int} (h : t = f) (hw : w = 0) : tf_dl tp f t w := ⟨0, by omega, fun i i0 i1 => by omega, hw⟩
theorem tf_wl_b {tp : Int → Int} {f t w : Int} (h : tf_wl tp f t w) (ht : t - f < 10) : 0 ≤ w ∧ w ≤ 35184372088832 := by
  obtain ⟨m, h1, h2, h3⟩ := h
  have hm : m < 10 := by omega
  have a := (tf_bv_pos h2).1
  have b := tf_bv_lt h2
  have c := tf_32_le ⟨m, hm⟩
  dsimp only at c
  omega
theorem tf_wl_st {tp : Int → Int} {f t w x z : Int} (h : tf_wl tp f t w) (ht : t - f < 10) (e : tp t = x) (hx : 97 ≤ x ∧ x ≤ 122) (hz : z = w * 32 + x - 96) : tf_wl tp f (t + 1) z := by
  obtain ⟨m, h1, h2, h3⟩ := h
  subst h1
  rcases h3 with ⟨-, h3⟩ | ⟨h3, -⟩
  · refine ⟨m + 1, by omega, fun i i0 i1 => ?_, Or.inl ⟨by omega, ?_⟩⟩
    · by_cases c : i = m
      · rw [c, e]; exact hx
      · exact h2 i i0 (by omega)
    · show z = tf_bv tp f m * 32 + tp (f + m) - 96
      rw [e, ← h3]; exact hz
  · omega
theorem tf_wl_ge {tp : Int → Int} {f t w x z : Int} (h : tf_wl tp f t w) (ht : 10 ≤ t - f) (e : tp t = x) (hx : 97 ≤ x ∧ x ≤ 122) (hz : z = -1) : tf_wl tp f (t + 1) z := by
  obtain ⟨m, h1, h2, h3⟩ := h
  subst h1
  refine ⟨m + 1, by omega, fun i i0 i1 => ?_, Or.inr ⟨by omega, hz⟩⟩
  by_cases c : i = m
  · rw [c, e]; exact hx
  · exact h2 i i0 (by omega)
theorem tf_wl_end {tp : Int → Int} {n f t w : Int} (h : tf_wl tp f t w) (hf : f < t) (hn : t ≤ n) (he : n ≤ t ∨ ¬ (97 ≤ tp t ∧ tp t ≤ 122)) : tf_we tp n f t w := by
  obtain ⟨m, h1, h2, h3⟩ := h
  subst h1
  refine ⟨m, ⟨by omega, hn, h2, fun hlt => ?_⟩, rfl, h3⟩
  rcases he with he | he
  · omega
  · exact he
theorem tf_dl_b {tp : Int → Int} {f t w : Int} (h : tf_dl tp f t w) : 0 ≤ w := by
  obtain ⟨m, h1, h2, h3⟩ := h
  have := tf_nw_rel h2
  rw [← h3] at this
  omega
theorem tf_dl_st {tp : Int → Int} {f t w x z : Int} (h : tf_dl tp f t w) (e : tp t = x) (hx : 48 ≤ x ∧ x ≤ 57) (hz : (1000000 < w ∧ z = w) ∨ (w ≤ 1000000 ∧ z = w * 10 + x - 48)) : tf_dl tp f (t + 1) z := by
  obtain ⟨m, h1, h2, h3⟩ := h
  subst h1
  refine ⟨m + 1, by omega, fun i i0 i1 => ?_, ?_⟩
  · by_cases c : i = m
    · rw [c, e]; exact hx
    · exact h2 i i0 (by omega)
  · show z = if 1000000 < tf_wv tp f m then tf_wv tp f m else tf_wv tp f m * 10 + tp (f + m) - 48
    rw [← h3, e]
    rcases hz with ⟨a, b⟩ | ⟨a, b⟩
    · rw [if_pos a]; exact b
    · rw [if_neg (by omega)]; exact b
theorem tf_NX_of {tp : Int → Int} {n t f1 t1 s1 w1 : Int} (h0 : t ≤ f1) (hn : f1 ≤ n) (hb : ∀ j, t ≤ j → j < f1 → tp j = 32) (hs : 0 ≤ s1 ∧ s1 ≤ 3) (c0 : s1 = 0 → f1 = n ∧ t1 = f1) (cn : s1 ≠ 0 → f1 < n) (c1 : s1 = 1 → tf_we tp n f1 t1 w1) (c2 : s1 = 2 → tf_dl tp f1 t1 w1) (cf : s1 = 2 → f1 < t1) (hn2 : t1 ≤ n) (he : s1 ≠ 2 ∨ n ≤ t1 ∨ ¬ (48 ≤ tp t1 ∧ tp t1 ≤ 57)) (c3 : s1 = 3 → t1 = f1 + 1 ∧ w1 = tp f1 ∧ tp f1 ≠ 32 ∧ (tp f1 < 48 ∨ 57 < tp f1) ∧ (tp f1 < 97 ∨ 122 < tp f1)) : tf_NX tp n t f1 t1 s1 w1 := by
  refine ⟨h0, hn, hb, ?_⟩
  rcases (show s1 = 0 ∨ s1 = 1 ∨ s1 = 2 ∨ s1 = 3 by omega) with e | e | e | e
  · exact Or.inl ⟨(c0 e).1, e, (c0 e).2⟩
  · exact Or.inr (Or.inl ⟨cn (by omega), e, c1 e⟩)
  · refine Or.inr (Or.inr (Or.inl ⟨cn (by omega), e, ?_⟩))
    obtain ⟨m, h1, h2, h3⟩ := c2 e
    have hf := cf e
    refine ⟨m, ⟨by omega, by omega, h2, fun hlt => ?_⟩, h1, h3⟩
    rw [← h1] at hlt ⊢
    rcases he with he | he | he
    · omega
    · omega
    · exact he
  · obtain ⟨a, b, c, d, f⟩ := c3 e
    exact Or.inr (Or.inr (Or.inr ⟨cn (by omega), e, a, b, c, d, f⟩))
def tf_WW (W : Int → Int) : Prop := W 0 = 370116 ∧ W 1 = 599653 ∧ W 2 = 271592 ∧ W 3 = 21566643 ∧ W 4 = 641275054 ∧ W 5 = 24 ∧ W 6 = 25 ∧ W 7 = 23609 ∧ W 8 = 15558
def tf_pa (s w : Int) (W : Int → Int) (z k : Int) : Prop := (z = -1 ∧ (s = 1 → ∀ j, 0 ≤ j → j < k → w ≠ W j)) ∨ (1 ≤ z ∧ z ≤ 9 ∧ s = 1 ∧ ∃ j, 0 ≤ j ∧ j < 9 ∧ w = W j)
theorem tf_pa_0 {s w : Int} {W : Int → Int} : tf_pa s w W (-1) 0 := Or.inl ⟨rfl, fun _ j j0 j1 => by omega⟩
theorem tf_pa_yes {s w z k x : Int} {W : Int → Int} (hs : s = 1) (hw : w = x) (e : W k = x) (k0 : 0 ≤ k) (k9 : k < 9) (hz : z = k + 1) : tf_pa s w W z (k + 1) := Or.inr ⟨by omega, by omega, hs, k, k0, k9, by rw [e]; exact hw⟩
theorem tf_pa_no {s w z k x : Int} {W : Int → Int} (h : tf_pa s w W z k) (e : W k = x) (hn : s ≠ 1 ∨ w ≠ x) : tf_pa s w W z (k + 1) := by
  rcases h with ⟨h1, h2⟩ | h
  · refine Or.inl ⟨h1, fun hs j j0 j1 => ?_⟩
    by_cases c : j = k
    · rw [c, e]
      rcases hn with hn | hn
      · exact absurd hs hn
      · exact hn
    · exact h2 hs j j0 (by omega)
  · exact Or.inr h
theorem tf_pa_lf {s w z t : Int} {W : Int → Int} (hW : tf_WW W) (hp : tf_pa s w W z 9) (hT : tf_TS s w t) : (z ≠ -1 → 16 ≤ t ∧ t ≤ 24) ∧ (z = -1 → t < 16 ∨ 24 < t) := by
  obtain ⟨w0, w1, w2, w3, w4, w5, w6, w7, w8⟩ := hW
  rcases hp with ⟨a, b⟩ | ⟨a1, a2, a3, j, j0, j1, j2⟩
  · refine ⟨fun h => absurd a h, fun _ => ?_⟩
    rcases hT with ⟨c, d⟩ | ⟨c, d⟩ | ⟨c, d⟩ | ⟨c, d, e, f, -⟩
    · omega
    · have b0 := b c 0 (by omega) (by omega)
      have b1 := b c 1 (by omega) (by omega)
      have b2 := b c 2 (by omega) (by omega)
      have b3 := b c 3 (by omega) (by omega)
      have b4 := b c 4 (by omega) (by omega)
      have b5 := b c 5 (by omega) (by omega)
      have b6 := b c 6 (by omega) (by omega)
      have b7 := b c 7 (by omega) (by omega)
      have b8 := b c 8 (by omega) (by omega)
      unfold tf_WD at d
      omega
    · unfold tf_NM at d; omega
    · omega
  · refine ⟨fun _ => ?_, fun h => by omega⟩
    have hwv : w = 370116 ∨ w = 599653 ∨ w = 271592 ∨ w = 21566643 ∨ w = 641275054 ∨ w = 24 ∨ w = 25 ∨ w = 23609 ∨ w = 15558 := by
      rcases (show j = 0 ∨ j = 1 ∨ j = 2 ∨ j = 3 ∨ j = 4 ∨ j = 5 ∨ j = 6 ∨ j = 7 ∨ j = 8 by omega) with e | e | e | e | e | e | e | e | e <;> rw [e] at j2 <;> omega
    rcases hT with ⟨c, d⟩ | ⟨c, d⟩ | ⟨c, d⟩ | ⟨c, d, -⟩
    · omega
    · unfold tf_WD at d
      omega
    · omega
    · omega
theorem tf_TS_c {s w t : Int} (h : tf_TS s w t) : (s = 3 ∧ t = 1000 + w) ∨ (s ≠ 3 ∧ (t < 1000 ∨ 2000 ≤ t)) := by
  rcases h with ⟨c, d⟩ | ⟨c, d⟩ | ⟨c, d⟩ | ⟨c, d, -⟩
  · omega
  · unfold tf_WD at d; omega
  · unfold tf_NM at d; omega
  · omega
theorem tf_TS_0 {s w t : Int} (h : tf_TS s w t) : (t = 0 → s = 0) ∧ (s = 0 → t = 0) := by
  rcases h with ⟨c, d⟩ | ⟨c, d⟩ | ⟨c, d⟩ | ⟨c, d, e, -⟩
  · omega
  · unfold tf_WD at d; omega
  · unfold tf_NM at d; omega
  · omega
theorem tf_TS_k {s w t : Int} (h : tf_TS s w t) : ((t = 1 → s = 1 ∧ w = 18523243) ∧ (s = 1 → w = 18523243 → t = 1)) ∧ ((t = 2 → s = 1 ∧ w = 294) ∧ (s = 1 → w = 294 → t = 2)) ∧ ((t = 3 → s = 1 ∧ w = 498) ∧ (s = 1 → w = 498 → t = 3)) ∧ ((t = 4 → s = 1 ∧ w = 1476) ∧ (s = 1 → w = 1476 → t = 4)) ∧ (t = 5 → s = 1 ∧ w = 14836) ∧ (s = 1 → w = 14836 → t = 5) := by
  rcases h with ⟨c, d⟩ | ⟨c, d⟩ | ⟨c, d⟩ | ⟨c, d, e, -⟩
  · refine ⟨⟨?_, ?_⟩, ⟨?_, ?_⟩, ⟨?_, ?_⟩, ⟨?_, ?_⟩, ?_, ?_⟩ <;> omega
  · unfold tf_WD at d
    refine ⟨⟨?_, ?_⟩, ⟨?_, ?_⟩, ⟨?_, ?_⟩, ⟨?_, ?_⟩, ?_, ?_⟩ <;> omega
  · unfold tf_NM at d
    refine ⟨⟨?_, ?_⟩, ⟨?_, ?_⟩, ⟨?_, ?_⟩, ⟨?_, ?_⟩, ?_, ?_⟩ <;> omega
  · refine ⟨⟨?_, ?_⟩, ⟨?_, ?_⟩, ⟨?_, ?_⟩, ⟨?_, ?_⟩, ?_, ?_⟩ <;> omega
theorem tf_leaf_iff {s w z t : Int} {W : Int → Int} (hW : tf_WW W) (hp : tf_pa s w W z 9) (hT : tf_TS s w t) : ((z ≠ -1 ∨ (s = 2 ∧ w ≤ 1000)) → (2000 ≤ t ∧ t ≤ 3000) ∨ (16 ≤ t ∧ t ≤ 24)) ∧ ((z = -1 ∧ (s ≠ 2 ∨ 1000 < w)) → ¬ ((2000 ≤ t ∧ t ≤ 3000) ∨ (16 ≤ t ∧ t ≤ 24))) := by
  have h1 := tf_pa_lf hW hp hT
  rcases hT with ⟨c, d⟩ | ⟨c, d⟩ | ⟨c, d⟩ | ⟨c, d, e, f, -⟩
  · omega
  · have h24 : t ≤ 24 := by unfold tf_WD at d; omega
    omega
  · unfold tf_NM at d; omega
  · omega
def tf_FIN (ss pp : Int → Int) (m ok x : Int) : Prop := ∃ h : tf_Cf, tf_Ha ss m (0, 5, 0, [], 0, 0, 0) h ∧ ((h.2.1 = 7 ∧ ok = 1 ∧ x = -1) ∨ (h.2.1 ≠ 7 ∧ ok = 0 ∧ x = pp h.1))
theorem tf_FIN_u {ss pp : Int → Int} {m ok x ok2 x2 : Int} (h1 : tf_FIN ss pp m ok x) (h2 : tf_FIN ss pp m ok2 x2) : ok = ok2 ∧ x = x2 := by
  obtain ⟨a, a1, a2⟩ := h1
  obtain ⟨b, b1, b2⟩ := h2
  have e := a1.uniq b1
  subst e
  rcases a2 with ⟨q1, q2, q3⟩ | ⟨q1, q2, q3⟩
  · rcases b2 with ⟨r1, r2, r3⟩ | ⟨r1, r2, r3⟩
    · exact ⟨by omega, by omega⟩
    · exact absurd q1 r1
  · rcases b2 with ⟨r1, r2, r3⟩ | ⟨r1, r2, r3⟩
    · exact absurd r1 q1
    · exact ⟨by omega, by omega⟩
theorem tf_FIN_r {ss pp : Int → Int} {m z fp ok : Int} {b : tf_Cf} (h : tf_RD ss pp m (0, 5, 0, [], 0, 0, 0) z b fp) (hz : z = 0) (ho : ok = 0) : tf_FIN ss pp m ok fp := by
  rcases h with ⟨h, -⟩ | ⟨-, q, h1, h2, h3⟩
  · omega
  · exact ⟨q, h1, Or.inr ⟨h2, ho, h3⟩⟩
theorem tf_FIN_7 {ss pp : Int → Int} {m k lv i ok x : Int} (hR : tf_Re ss m (0, 5, 0, [], 0, 0, 0) (k, 6, 0, [], lv, 0, i)) (hs : ss k = 0) (ho : ok = 1) (hx : x = -1) : tf_FIN ss pp m ok x :=
  ⟨(k, 7, 0, [], lv, 0, i), ⟨hR.trans (tf_Re_1 (tf_c_end hs)), tf_step_7⟩, Or.inl ⟨rfl, ho, hx⟩⟩
theorem tf_FIN_6 {ss pp : Int → Int} {m k lv i ok x : Int} (hR : tf_Re ss m (0, 5, 0, [], 0, 0, 0) (k, 6, 0, [], lv, 0, i)) (h0 : ss k ≠ 0) (h59 : ss k ≠ 1059) (ho : ok = 0) (hx : x = pp k) : tf_FIN ss pp m ok x :=
  ⟨(k, 6, 0, [], lv, 0, i), ⟨hR, tf_c_bad h59 h0⟩, Or.inr ⟨(show (6 : Int) ≠ 7 by decide), ho, hx⟩⟩
theorem tf_FIN_5 {ss pp : Int → Int} {m k lv i ok x : Int} (hR : tf_Re ss m (0, 5, 0, [], 0, 0, 0) (k, 5, 0, [], lv, 0, i)) (hi : 12 ≤ i) (ho : ok = 0) (hx : x = pp k) : tf_FIN ss pp m ok x :=
  ⟨(k, 5, 0, [], lv, 0, i), ⟨hR, tf_c_nq (fun h => by omega)⟩, Or.inr ⟨(show (5 : Int) ≠ 7 by decide), ho, hx⟩⟩

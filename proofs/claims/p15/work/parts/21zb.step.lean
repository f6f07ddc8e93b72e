def tf_ns (s w c : Int) : Prop := s ≠ 3 ∨ w ≠ c
def tf_nwd (s w c : Int) : Prop := s ≠ 1 ∨ w ≠ c
theorem tf_no4 {s w : Int} (h1 : tf_ns s w 43) (h2 : tf_ns s w 45) (h3 : tf_ns s w 42) (h4 : tf_ns s w 47) : s ≠ 3 ∨ (w ≠ 43 ∧ w ≠ 45 ∧ w ≠ 42 ∧ w ≠ 47) := by
  unfold tf_ns at *
  omega
theorem tf_no3 {s w : Int} (h1 : tf_ns s w 60) (h2 : tf_ns s w 61) (h3 : tf_ns s w 62) : s ≠ 3 ∨ (w ≠ 60 ∧ w ≠ 61 ∧ w ≠ 62) := by
  unfold tf_ns at *
  omega
theorem tf_PI_20 {o0 u0 op ar pi pa : Int → Int} {fs c p w : Int} (h : tf_PI o0 u0 op ar pi pa fs c p w) : ∀ j, 0 ≤ j → j < p → 20 ≤ pi j := by
  obtain ⟨h0, h1, h2, h3, d, D, q0, q1, q2, q3, q4, q5, q6⟩ := h
  intro j j0 j1
  have := q6 j j0 j1
  unfold tf_PE at this
  omega
theorem tf_popl3 {r : Int → Int} {p p' q : Int} (h : ∀ i, p ≤ i → i < q → r i ≤ 23) (hp : p' = p - 1) (hr : r p' ≤ 23) : ∀ i, p' ≤ i → i < q → r i ≤ 23 := fun i h1 h2 => by
  by_cases e : i = p'
  · rw [e]; exact hr
  · exact h i (by omega) h2
def tf_CX (tp : Int → Int) (n : Int) (ss pp : Int → Int) (m : Int) (W : Int → Int) : Prop := tf_TOK tp n ss pp m ∧ (∀ j, 0 ≤ tp j ∧ tp j ≤ 255) ∧ tf_WW W
def tf_RR (tp : Int → Int) (n : Int) (ss pp : Int → Int) (m : Int) (pi : Int → Int) (f t s w p o k q c : Int) (S : List (Int × Int)) : Prop := tf_LX tp n ss pp m k f t s w ∧ o = (S.length : Int) ∧ tf_AB pi S p ∧ (q ≠ 2 → q ≠ 4 → tf_CP pi p c) ∧ (q = 4 → c = 0 ∧ S = [])
def tf_ER (tp : Int → Int) (n : Int) (ss pp : Int → Int) (m : Int) (a : tf_Cf) (b1 z x1 : Int) (pi1 : Int → Int) (f1 t1 s1 w1 p1 l1 o1 e i : Int) : Prop := (b1 = 0 ∧ ∃ (k1 c1 : Int) (S1 : List (Int × Int)), tf_step ss m a = some (k1, z, c1, S1, l1, e, i) ∧ tf_RR tp n ss pp m pi1 f1 t1 s1 w1 p1 o1 k1 z c1 S1) ∨ (b1 = 1 ∧ tf_step ss m a = none ∧ x1 = pp a.1)
section STP
variable {tp ss pp W pi pa pi1 pa1 o0 u0 op ar : Int → Int} {n m f t s w p o k q c lv e i b1 x1 f1 t1 s1 w1 p1 o1 l1 x z its fs cc : Int} {S : List (Int × Int)}
theorem tf_RR_to {q2 : Int} (h : tf_RR tp n ss pp m pi f t s w p o k q c S) (e : q = q2) : tf_RR tp n ss pp m pi f t s w p o k q2 c S := by
  subst e; exact h
theorem tf_er_op0 {a : tf_Cf} {b : Int} (hC : tf_CX tp n ss pp m W) (hr : tf_RR tp n ss pp m pi f t s w p o k q c S) (hq : q ≠ 2 ∧ q ≠ 4) (hz : z ≠ 4) (hb : 30 ≤ b ∧ b ≤ 31) (ha : a.1 = k) (y1 : (S.length : Int) < 8 → tf_step ss m a = some (tf_nx m k, z, 0, (b, c) :: S, lv, e, i)) (y0 : 8 ≤ (S.length : Int) → tf_step ss m a = none) (hd : (b1 = 0 ∧ o < 8 ∧ o1 = o + 1 ∧ tf_NX tp n t f1 t1 s1 w1) ∨ (b1 = 1 ∧ 8 ≤ o ∧ x1 = f)) (hp : (b1 = 0 ∧ f < f1 ∧ p1 = p + 1 ∧ pi1 = tf_up pi p b ∧ pa1 = tf_up pa p 0) ∨ (b1 = 1 ∧ f1 = f ∧ p1 = p ∧ pi1 = pi ∧ pa1 = pa)) (h0p : 0 ≤ p) : tf_ER tp n ss pp m a b1 z x1 pi1 f1 t1 s1 w1 p1 lv o1 e i := by
  obtain ⟨hL, ho, hA, hc, -⟩ := hr
  rcases hd with ⟨d1, d2, d3, d4⟩ | ⟨d1, d2, d3⟩
  · rcases hp with ⟨-, -, p2, p3, -⟩ | ⟨p2, -⟩
    · refine Or.inl ⟨d1, tf_nx m k, 0, (b, c) :: S, y1 (by omega), tf_LX_next hC.1 hC.2.1 hL d4, by rw [List.length_cons]; omega, ?_, fun _ _ => ?_, fun h => absurd h hz⟩
      · rw [p3, p2]; exact tf_AB_br hA (hc hq.1 hq.2) h0p hb
      · rw [p3, p2]; exact tf_CP_no (by omega)
    · omega
  · exact Or.inr ⟨d1, y0 (by omega), by rw [ha, d3]; exact hL.2.1.symm⟩
theorem tf_er_open1 (hC : tf_CX tp n ss pp m W) (hr : tf_RR tp n ss pp m pi f t s w p o k 1 c S) (hs : s = 3) (hw : w = 91) (hd : (b1 = 0 ∧ o < 8 ∧ o1 = o + 1 ∧ tf_NX tp n t f1 t1 s1 w1) ∨ (b1 = 1 ∧ 8 ≤ o ∧ x1 = f)) (hp : (b1 = 0 ∧ f < f1 ∧ p1 = p + 1 ∧ pi1 = tf_up pi p 31 ∧ pa1 = tf_up pa p 0) ∨ (b1 = 1 ∧ f1 = f ∧ p1 = p ∧ pi1 = pi ∧ pa1 = pa)) (h0p : 0 ≤ p) : tf_ER tp n ss pp m (k, 1, c, S, lv, e, i) b1 1 x1 pi1 f1 t1 s1 w1 p1 lv o1 e i := by
  have hk : ss k = 1091 := by have := tf_TS_c hr.1.2.2.1; omega
  exact tf_er_op0 hC hr ⟨by decide, by decide⟩ (by decide) ⟨by decide, by decide⟩ rfl (fun h => tf_p_open hk h rfl) (fun h => tf_p_deep hk h) hd hp h0p
theorem tf_er_open0 (hC : tf_CX tp n ss pp m W) (hr : tf_RR tp n ss pp m pi f t s w p o k 0 c S) (hs : s = 3) (hw : w = 40) (hd : (b1 = 0 ∧ o < 8 ∧ o1 = o + 1 ∧ tf_NX tp n t f1 t1 s1 w1) ∨ (b1 = 1 ∧ 8 ≤ o ∧ x1 = f)) (hp : (b1 = 0 ∧ f < f1 ∧ p1 = p + 1 ∧ pi1 = tf_up pi p 30 ∧ pa1 = tf_up pa p 0) ∨ (b1 = 1 ∧ f1 = f ∧ p1 = p ∧ pi1 = pi ∧ pa1 = pa)) (h0p : 0 ≤ p) : tf_ER tp n ss pp m (k, 0, c, S, lv, e, i) b1 0 x1 pi1 f1 t1 s1 w1 p1 lv o1 e i := by
  have hk : ss k = 1040 := by have := tf_TS_c hr.1.2.2.1; omega
  exact tf_er_op0 hC hr ⟨by decide, by decide⟩ (by decide) ⟨by decide, by decide⟩ rfl (fun h => tf_n_open hk h rfl) (fun h => tf_n_deep hk h) hd hp h0p
theorem tf_er_leaf (hC : tf_CX tp n ss pp m W) (hr : tf_RR tp n ss pp m pi f t s w p o k 1 c S) (hn : s ≠ 3 ∨ w ≠ 91) (hpa : tf_pa s w W its 9) (hx : (x = 1 ∧ (its ≠ -1 ∨ (s = 2 ∧ w ≤ 1000))) ∨ (x = 0 ∧ its = -1 ∧ (s ≠ 2 ∨ 1000 < w))) (hd : (b1 = 0 ∧ x = 1 ∧ lv < 50 ∧ l1 = lv + 1 ∧ tf_NX tp n t f1 t1 s1 w1) ∨ (b1 = 1 ∧ (x = 0 ∨ 50 ≤ lv) ∧ x1 = f)) : tf_ER tp n ss pp m (k, 1, c, S, lv, e, i) b1 3 x1 pi f1 t1 s1 w1 p l1 o e i := by
  obtain ⟨hL, ho, hA, hc, -⟩ := hr
  have hT := hL.2.2.1
  obtain ⟨hi1, hi0⟩ := tf_leaf_iff hC.2.2 hpa hT
  have hne : ss k ≠ 1091 := by have := tf_TS_c hT; omega
  rcases hd with ⟨d1, d2, d3, d4, d5⟩ | ⟨d1, d2, d3⟩
  · exact Or.inl ⟨d1, tf_nx m k, c, S, tf_p_leaf (hi1 (by omega)) d3 rfl d4, tf_LX_next hC.1 hC.2.1 hL d5, ho, hA, fun _ _ => hc (by decide) (by decide), fun h => absurd h (by decide)⟩
  · refine Or.inr ⟨d1, tf_p_bad hne ?_, d3.trans hL.2.1.symm⟩
    rcases hx with ⟨a1, a2⟩ | ⟨a1, a2⟩
    · exact Or.inr (by omega)
    · exact Or.inl (hi0 a2)
theorem tf_er_not (hC : tf_CX tp n ss pp m W) (hr : tf_RR tp n ss pp m pi f t s w p o k 0 c S) (hs : s = 1) (hw : w = 14836) (hb : b1 = 0) (hN : tf_NX tp n t f1 t1 s1 w1) : tf_ER tp n ss pp m (k, 0, c, S, lv, e, i) b1 0 x1 (tf_up pi p 27) f1 t1 s1 w1 (p + 1) lv o e i := by
  obtain ⟨hL, ho, hA, hc, -⟩ := hr
  have hk : ss k = 5 := (tf_TS_k hL.2.2.1).2.2.2.2.2 hs hw
  exact Or.inl ⟨hb, tf_nx m k, 0, S, tf_n_not hk rfl, tf_LX_next hC.1 hC.2.1 hL hN, ho, tf_AB_op (by omega) hA, fun _ _ => tf_CP_no (by omega), fun h => absurd h (by decide)⟩
theorem tf_er_plain (hr : tf_RR tp n ss pp m pi f t s w p o k 0 c S) (h5 : s ≠ 1 ∨ w ≠ 14836) (h6 : s ≠ 3 ∨ w ≠ 40) (hE : tf_ER tp n ss pp m (k, 1, c, S, lv, e, i) b1 z x1 pi1 f1 t1 s1 w1 p1 l1 o1 e i) : tf_ER tp n ss pp m (k, 0, c, S, lv, e, i) b1 z x1 pi1 f1 t1 s1 w1 p1 l1 o1 e i := by
  have hT := hr.1.2.2.1
  have a5 : ss k ≠ 5 := fun h => by have := (tf_TS_k hT).2.2.2.2.1 h; omega
  have a6 : ss k ≠ 1040 := by have := tf_TS_c hT; omega
  unfold tf_ER at hE ⊢
  rw [tf_n_part a5 a6]
  exact hE
theorem tf_er_sum (hC : tf_CX tp n ss pp m W) (hr : tf_RR tp n ss pp m pi f t s w p o k 3 c S) (hs : s = 3) (hw : w = 43 ∨ w = 45 ∨ w = 42 ∨ w = 47) (hP : tf_PI o0 u0 op ar pi pa fs cc p 1) (h1 : p1 ≤ p) (h0 : 0 ≤ p1) (hpop : ∀ i, p1 ≤ i → i < p → pi i < 30) (hpop2 : ∀ i, p1 ≤ i → i < p → pi i ≤ 23) (hx : 20 ≤ x ∧ x ≤ 23) (hb : b1 = 0) (hN : tf_NX tp n t f1 t1 s1 w1) : tf_ER tp n ss pp m (k, 3, c, S, lv, e, i) b1 1 x1 (tf_up pi p1 x) f1 t1 s1 w1 (p1 + 1) lv o e i := by
  obtain ⟨hL, ho, hA, hc, -⟩ := hr
  have hk := tf_TS_c hL.2.2.1
  exact Or.inl ⟨hb, tf_nx m k, c, S, tf_s_op (by omega) rfl, tf_LX_next hC.1 hC.2.1 hL hN, ho, tf_AB_op (by omega) (tf_AB_pop h1 hpop hA), fun _ _ => tf_CP_ar (tf_CP_pop h1 (fun i i0 i1 => ⟨tf_PI_20 hP i (by omega) i1, hpop2 i i0 i1⟩) (hc (by decide) (by decide))) hx, fun h => absurd h (by decide)⟩
theorem tf_er_cl (hC : tf_CX tp n ss pp m W) (hr : tf_RR tp n ss pp m pi f t s w p o k 3 c S) (hi : tf_inn pi p z) (hz : z = 31) (hs : s = 3) (hw : w = 93) (h1 : p1 ≤ p) (hpop : ∀ i, p1 ≤ i → i < p → pi i < 30) (h31 : 30 ≤ pi (p1 - 1)) (hb : b1 = 0) (hN : tf_NX tp n t f1 t1 s1 w1) : tf_ER tp n ss pp m (k, 3, c, S, lv, e, i) b1 3 x1 pi f1 t1 s1 w1 (p1 - 1) lv (o - 1) e i := by
  obtain ⟨hL, ho, hA, hc, -⟩ := hr
  have hk : ss k = 1093 := by have := tf_TS_c hL.2.2.1; omega
  rcases tf_AB_inn hA hi with ⟨a, -⟩ | ⟨c2, S2, a⟩
  · omega
  · subst hz
    subst a
    obtain ⟨-, a2, a3⟩ := tf_AB_cl (tf_AB_pop h1 hpop hA) h31
    exact Or.inl ⟨hb, tf_nx m k, c2, S2, tf_s_close hk rfl, tf_LX_next hC.1 hC.2.1 hL hN, by rw [List.length_cons] at ho; omega, a2, fun _ _ => a3, fun h => absurd h (by decide)⟩
theorem tf_er_cl0 (hr : tf_RR tp n ss pp m pi f t s w p o k 3 c S) (hi : tf_inn pi p z) (hz : z = 31) (hno : s ≠ 3 ∨ (w ≠ 43 ∧ w ≠ 45 ∧ w ≠ 42 ∧ w ≠ 47)) (h93 : s ≠ 3 ∨ w ≠ 93) (hb : b1 = 1) (hx : x1 = f) {z2 : Int} : tf_ER tp n ss pp m (k, 3, c, S, lv, e, i) b1 z2 x1 pi1 f1 t1 s1 w1 p1 l1 o1 e i := by
  obtain ⟨hL, ho, hA, hc, -⟩ := hr
  have hk := tf_TS_c hL.2.2.1
  rcases tf_AB_inn hA hi with ⟨a, -⟩ | ⟨c2, S2, a⟩
  · omega
  · subst hz
    subst a
    exact Or.inr ⟨hb, tf_s_nocl (by omega) (by omega), hx.trans hL.2.1.symm⟩
theorem tf_er_over (hr : tf_RR tp n ss pp m pi f t s w p o k 3 c S) (hi : tf_inn pi p z) (hz : z = -1) (hno : s ≠ 3 ∨ (w ≠ 43 ∧ w ≠ 45 ∧ w ≠ 42 ∧ w ≠ 47)) (he : e = 0) (hb : b1 = 0) : tf_ER tp n ss pp m (k, 3, c, S, lv, e, i) b1 4 x1 pi f t s w p lv o e i := by
  obtain ⟨hL, ho, hA, hc, -⟩ := hr
  have hk := tf_TS_c hL.2.2.1
  rcases tf_AB_inn hA hi with ⟨-, a⟩ | ⟨c2, S2, a⟩
  · subst a
    exact Or.inl ⟨hb, k, 0, [], tf_s_over (by omega) he, hL, ho, hA, fun _ h => absurd rfl h, fun _ => ⟨rfl, rfl⟩⟩
  · subst a
    have := hA.1
    omega
theorem tf_nsq_of (hA : tf_AB pi S p) (hi : tf_inn pi p z) (hz : z ≠ 31) (hne : z ≠ -1 ∨ e ≠ 0) : tf_nsq S e := by
  rcases tf_AB_inn hA hi with ⟨a1, a⟩ | ⟨c2, S2, a⟩
  · subst a
    show e ≠ 0
    omega
  · subst a
    exact hz
theorem tf_er_told (hr : tf_RR tp n ss pp m pi f t s w p o k 3 c S) (hi : tf_inn pi p z) (hz : z ≠ 31) (hne : z ≠ -1 ∨ e ≠ 0) (hno : s ≠ 3 ∨ (w ≠ 43 ∧ w ≠ 45 ∧ w ≠ 42 ∧ w ≠ 47)) (hcm : tf_cmp pi p) (hb : b1 = 0) : tf_ER tp n ss pp m (k, 3, c, S, lv, e, i) b1 2 x1 pi f t s w p lv o e i := by
  obtain ⟨hL, ho, hA, hc, -⟩ := hr
  have hk := tf_TS_c hL.2.2.1
  have hc1 : c = 1 := by
    rcases hc (by decide) (by decide) with ⟨a, -⟩ | ⟨-, a⟩
    · exact a
    · exact absurd hcm a
  exact Or.inl ⟨hb, k, 0, S, tf_s_told (by omega) (tf_nsq_of hA hi hz hne) hc1, hL, ho, hA, fun h _ => absurd rfl h, fun h => absurd h (by decide)⟩
theorem tf_er_cmp (hC : tf_CX tp n ss pp m W) (hr : tf_RR tp n ss pp m pi f t s w p o k 3 c S) (hi : tf_inn pi p z) (hz : z ≠ 31) (hne : z ≠ -1 ∨ e ≠ 0) (hcm : ¬ tf_cmp pi p) (hs : s = 3) (hw : w = 60 ∨ w = 61 ∨ w = 62) (h1 : p1 ≤ p) (h0 : 0 ≤ p1) (hpop : ∀ i, p1 ≤ i → i < p → pi i < 30) (hx : 24 ≤ x ∧ x ≤ 26) (hb : b1 = 0) (hN : tf_NX tp n t f1 t1 s1 w1) : tf_ER tp n ss pp m (k, 3, c, S, lv, e, i) b1 1 x1 (tf_up pi p1 x) f1 t1 s1 w1 (p1 + 1) lv o e i := by
  obtain ⟨hL, ho, hA, hc, -⟩ := hr
  have hk := tf_TS_c hL.2.2.1
  have hc1 : c ≠ 1 := by
    rcases hc (by decide) (by decide) with ⟨-, a⟩ | ⟨a, -⟩
    · exact absurd a hcm
    · omega
  exact Or.inl ⟨hb, tf_nx m k, 1, S, tf_s_cmp (by omega) (tf_nsq_of hA hi hz hne) hc1 (by omega) rfl, tf_LX_next hC.1 hC.2.1 hL hN, ho, tf_AB_op (by omega) (tf_AB_pop h1 hpop hA), fun _ _ => tf_CP_cm h0 hx, fun h => absurd h (by decide)⟩
theorem tf_er_cmp0 (hr : tf_RR tp n ss pp m pi f t s w p o k 3 c S) (hi : tf_inn pi p z) (hz : z ≠ 31) (hne : z ≠ -1 ∨ e ≠ 0) (hno : s ≠ 3 ∨ (w ≠ 43 ∧ w ≠ 45 ∧ w ≠ 42 ∧ w ≠ 47)) (hcm : ¬ tf_cmp pi p) (hw : s ≠ 3 ∨ (w ≠ 60 ∧ w ≠ 61 ∧ w ≠ 62)) (hb : b1 = 1) (hx : x1 = f) {z2 : Int} : tf_ER tp n ss pp m (k, 3, c, S, lv, e, i) b1 z2 x1 pi1 f1 t1 s1 w1 p1 l1 o1 e i := by
  obtain ⟨hL, ho, hA, hc, -⟩ := hr
  have hk := tf_TS_c hL.2.2.1
  have hc1 : c ≠ 1 := by
    rcases hc (by decide) (by decide) with ⟨-, a⟩ | ⟨a, -⟩
    · exact absurd a hcm
    · omega
  exact Or.inr ⟨hb, tf_s_nocmp (by omega) (tf_nsq_of hA hi hz hne) hc1 (by omega), hx.trans hL.2.1.symm⟩
theorem tf_er_and (hC : tf_CX tp n ss pp m W) (hr : tf_RR tp n ss pp m pi f t s w p o k 2 c S) (hs : s = 1) (hw : w = 1476 ∨ w = 498) (h1 : p1 ≤ p) (hpop : ∀ i, p1 ≤ i → i < p → pi i < 30) (hx : 28 ≤ x ∧ x ≤ 29) (hb : b1 = 0) (hN : tf_NX tp n t f1 t1 s1 w1) : tf_ER tp n ss pp m (k, 2, c, S, lv, e, i) b1 0 x1 (tf_up pi p1 x) f1 t1 s1 w1 (p1 + 1) lv o e i := by
  obtain ⟨hL, ho, hA, hc, -⟩ := hr
  have hT := tf_TS_k hL.2.2.1
  have hk : ss k = 3 ∨ ss k = 4 := by
    rcases hw with hw | hw
    · exact Or.inr (hT.2.2.2.1.2 hs hw)
    · exact Or.inl (hT.2.2.1.2 hs hw)
  exact Or.inl ⟨hb, tf_nx m k, 0, S, tf_t_and hk rfl, tf_LX_next hC.1 hC.2.1 hL hN, ho, tf_AB_op (by omega) (tf_AB_pop h1 hpop hA), fun _ _ => tf_CP_no (by omega), fun h => absurd h (by decide)⟩
theorem tf_notand (hL : tf_LX tp n ss pp m k f t s w) (h1 : s ≠ 1 ∨ w ≠ 1476) (h2 : s ≠ 1 ∨ w ≠ 498) : ¬ (ss k = 3 ∨ ss k = 4) := fun h => by
  have hT := tf_TS_k hL.2.2.1
  rcases h with h | h
  · have := hT.2.2.1.1 h; omega
  · have := hT.2.2.2.1.1 h; omega
theorem tf_er_tover (hr : tf_RR tp n ss pp m pi f t s w p o k 2 c S) (hi : tf_inn pi p z) (hz : z = -1) (h1 : s ≠ 1 ∨ w ≠ 1476) (h2 : s ≠ 1 ∨ w ≠ 498) (hb : b1 = 0) : tf_ER tp n ss pp m (k, 2, c, S, lv, e, i) b1 4 x1 pi f t s w p lv o e i := by
  obtain ⟨hL, ho, hA, hc, -⟩ := hr
  rcases tf_AB_inn hA hi with ⟨-, a⟩ | ⟨c2, S2, a⟩
  · subst a
    exact Or.inl ⟨hb, k, 0, [], tf_t_over (tf_notand hL h1 h2), hL, ho, hA, fun _ h => absurd rfl h, fun _ => ⟨rfl, rfl⟩⟩
  · subst a
    have := hA.1
    omega
theorem tf_er_tcl (hC : tf_CX tp n ss pp m W) (hr : tf_RR tp n ss pp m pi f t s w p o k 2 c S) (hi : tf_inn pi p z) (hz : z ≠ -1) (hs : s = 3) (hw : w = 41) (h1 : p1 ≤ p) (hpop : ∀ i, p1 ≤ i → i < p → pi i < 30) (h31 : 30 ≤ pi (p1 - 1)) (hb : b1 = 0) (hN : tf_NX tp n t f1 t1 s1 w1) : tf_ER tp n ss pp m (k, 2, c, S, lv, e, i) b1 2 x1 pi f1 t1 s1 w1 (p1 - 1) lv (o - 1) e i := by
  obtain ⟨hL, ho, hA, hc, -⟩ := hr
  have hk : ss k = 1041 := by have := tf_TS_c hL.2.2.1; omega
  rcases tf_AB_inn hA hi with ⟨a, -⟩ | ⟨c2, S2, a⟩
  · omega
  · subst a
    obtain ⟨-, a2, a3⟩ := tf_AB_cl (tf_AB_pop h1 hpop hA) h31
    exact Or.inl ⟨hb, tf_nx m k, 0, S2, tf_t_close hk rfl, tf_LX_next hC.1 hC.2.1 hL hN, by rw [List.length_cons] at ho; omega, a2, fun h _ => absurd rfl h, fun h => absurd h (by decide)⟩
theorem tf_er_tcl0 (hr : tf_RR tp n ss pp m pi f t s w p o k 2 c S) (hi : tf_inn pi p z) (hz : z ≠ -1) (h1 : s ≠ 1 ∨ w ≠ 1476) (h2 : s ≠ 1 ∨ w ≠ 498) (h41 : s ≠ 3 ∨ w ≠ 41) (hb : b1 = 1) (hx : x1 = f) {z2 : Int} : tf_ER tp n ss pp m (k, 2, c, S, lv, e, i) b1 z2 x1 pi1 f1 t1 s1 w1 p1 l1 o1 e i := by
  obtain ⟨hL, ho, hA, hc, -⟩ := hr
  have hk := tf_TS_c hL.2.2.1
  rcases tf_AB_inn hA hi with ⟨a, -⟩ | ⟨c2, S2, a⟩
  · omega
  · subst a
    exact Or.inr ⟨hb, tf_t_nocl (tf_notand hL h1 h2) (by omega), hx.trans hL.2.1.symm⟩
end STP
def tf_LI (tp : Int → Int) (n : Int) (ss pp : Int → Int) (m : Int) (st : tf_Cf) (b x : Int) (pi : Int → Int) (f t s w p lv o q e i : Int) : Prop := (b = 0 ∧ ∃ (k c : Int) (S : List (Int × Int)), tf_Re ss m st (k, q, c, S, lv, e, i) ∧ tf_RR tp n ss pp m pi f t s w p o k q c S) ∨ (b = 1 ∧ ∃ h : tf_Cf, tf_Ha ss m st h ∧ h.2.1 ≠ 7 ∧ x = pp h.1)
def tf_EX (tp : Int → Int) (n : Int) (ss pp : Int → Int) (m : Int) (st : tf_Cf) (b x f t s w lv e i : Int) : Prop := (b = 0 ∧ ∃ k : Int, tf_Re ss m st (k, 4, 0, [], lv, e, i) ∧ tf_LX tp n ss pp m k f t s w) ∨ (b = 1 ∧ ∃ h : tf_Cf, tf_Ha ss m st h ∧ h.2.1 ≠ 7 ∧ x = pp h.1)
def tf_CE (tp : Int → Int) (n : Int) (ss pp : Int → Int) (m : Int) (st : tf_Cf) (b x f t s w lv i : Int) : Prop := (b = 0 ∧ ∃ k : Int, tf_Re ss m st (k, 6, 0, [], lv, 0, i) ∧ tf_LX tp n ss pp m k f t s w) ∨ (b = 1 ∧ ∃ h : tf_Cf, tf_Ha ss m st h ∧ h.2.1 ≠ 7 ∧ x = pp h.1)
section LOOP
variable {tp ss pp W pi pi1 : Int → Int} {n m f t s w p o k q c lv e i b x b1 x1 f1 t1 s1 w1 p1 o1 l1 z q0 q1 k1 i1 : Int} {S : List (Int × Int)} {st a : tf_Cf}
theorem tf_LI_0 (hL : tf_LX tp n ss pp m k f t s w) (hq : q0 = q) (h4 : q ≠ 4) (hb : b = 0) : tf_LI tp n ss pp m (k, q0, 0, [], lv, e, i) b x pi f t s w 0 lv 0 q e i := by
  subst hq
  exact Or.inl ⟨hb, k, 0, [], tf_Re_rf, hL, rfl, tf_AB_0, fun _ _ => tf_CP_0, fun h => absurd h h4⟩
theorem tf_LI_go (h : tf_LI tp n ss pp m st b x pi f t s w p lv o q e i) (hb : b ≠ 1) : ∃ (k c : Int) (S : List (Int × Int)), tf_Re ss m st (k, q, c, S, lv, e, i) ∧ tf_RR tp n ss pp m pi f t s w p o k q c S := by
  rcases h with ⟨-, h⟩ | ⟨h, -⟩
  · exact h
  · exact absurd h hb
theorem tf_LI_st (hR : tf_Re ss m st (k, q0, c, S, lv, e, i)) (hq : q0 = q1) (h7 : q1 ≠ 7) (hE : tf_ER tp n ss pp m (k, q1, c, S, lv, e, i) b1 z x1 pi1 f1 t1 s1 w1 p1 l1 o1 e i) : tf_LI tp n ss pp m st b1 x1 pi1 f1 t1 s1 w1 p1 l1 o1 z e i := by
  subst hq
  rcases hE with ⟨hb, k1, c1, S1, hs, hr⟩ | ⟨hb, hs, hx⟩
  · exact Or.inl ⟨hb, k1, c1, S1, hR.trans (tf_Re_1 hs), hr⟩
  · exact Or.inr ⟨hb, _, ⟨hR, hs⟩, h7, hx⟩
theorem tf_EX_of (h : tf_LI tp n ss pp m st b x pi f t s w p lv o q e i) (hq : b = 1 ∨ q = 4) : tf_EX tp n ss pp m st b x f t s w lv e i := by
  rcases h with ⟨hb, k, c, S, h1, h2⟩ | h
  · have e4 : q = 4 := by omega
    subst e4
    obtain ⟨h3, -, -, -, h4⟩ := h2
    obtain ⟨rfl, rfl⟩ := h4 rfl
    exact Or.inl ⟨hb, k, h1, h3⟩
  · exact Or.inr h
theorem tf_EX_go (h : tf_EX tp n ss pp m st b x f t s w lv e i) (hb : b ≠ 1) : ∃ k : Int, tf_Re ss m st (k, 4, 0, [], lv, e, i) ∧ tf_LX tp n ss pp m k f t s w := by
  rcases h with ⟨-, h⟩ | ⟨h, -⟩
  · exact h
  · exact absurd h hb
theorem tf_CE_go (h : tf_CE tp n ss pp m st b x f t s w lv i) (hb : b ≠ 1) : ∃ k : Int, tf_Re ss m st (k, 6, 0, [], lv, 0, i) ∧ tf_LX tp n ss pp m k f t s w := by
  rcases h with ⟨-, h⟩ | ⟨h, -⟩
  · exact h
  · exact absurd h hb
theorem tf_cq (hL : tf_LX tp n ss pp m k f t s w) (hs : s = 1) (hw : w = 18523243) (hi : i < 12) : tf_step ss m (k, 5, 0, [], lv, 0, i) = some (tf_nx m k, 1, 0, [], lv, 0, i + 1) := tf_c_quick ((tf_TS_k hL.2.2.1).1.2 hs hw) hi rfl rfl
theorem tf_CE_no (hL : tf_LX tp n ss pp m k f t s w) (hn : s ≠ 1 ∨ w ≠ 18523243 ∨ 12 ≤ i) (hb : b1 = 1) (hx : x1 = f) : tf_CE tp n ss pp m (k, 5, 0, [], lv, 0, i) b1 x1 f1 t1 s1 w1 l1 i1 := by
  refine Or.inr ⟨hb, (k, 5, 0, [], lv, 0, i), ⟨tf_Re_rf, tf_c_nq (fun h => ?_)⟩, (show (5 : Int) ≠ 7 by decide), hx.trans hL.2.1.symm⟩
  have := (tf_TS_k hL.2.2.1).1.1 h.1
  omega
theorem tf_CE_bad {e1 : Int} (hs : tf_step ss m st = some a) (hX : tf_EX tp n ss pp m a b x f t s w lv e1 i) (hb : b = 1) : tf_CE tp n ss pp m st b x f1 t1 s1 w1 l1 i1 := by
  rcases hX with ⟨h, -⟩ | ⟨h, q, h1, h2⟩
  · omega
  · exact Or.inr ⟨h, q, (tf_Re_1 hs).ha h1, h2⟩
theorem tf_CE_noif (hs : tf_step ss m st = some a) (hR : tf_Re ss m a (k, 4, 0, [], lv, 0, i)) (hL : tf_LX tp n ss pp m k f t s w) (hn : s ≠ 1 ∨ w ≠ 294) (hb : b = 0) : tf_CE tp n ss pp m st b x f t s w lv i := by
  refine Or.inl ⟨hb, k, tf_Re_st hs (hR.trans (tf_Re_1 (tf_c_no (fun h => ?_)))), hL⟩
  have := (tf_TS_k hL.2.2.1).2.1.1 h.2
  omega
theorem tf_CE_if (hs : tf_step ss m st = some a) (hR : tf_Re ss m a (k, 4, 0, [], lv, 0, i)) (hL : tf_LX tp n ss pp m k f t s w) (h1 : s = 1) (h2 : w = 294) (hX : tf_EX tp n ss pp m (tf_nx m k, 0, 0, [], lv, 1, i) b x f1 t1 s1 w1 l1 1 i) : tf_CE tp n ss pp m st b x f1 t1 s1 w1 l1 i := by
  have hk : ss k = 2 := (tf_TS_k hL.2.2.1).2.1.2 h1 h2
  have h3 : tf_Re ss m st (tf_nx m k, 0, 0, [], lv, 1, i) := tf_Re_st hs (hR.trans (tf_Re_1 (tf_c_if hk rfl rfl)))
  rcases hX with ⟨hb, k2, h4, h5⟩ | ⟨hb, q, h4, h5⟩
  · exact Or.inl ⟨hb, k2, h3.trans (h4.trans (tf_Re_1 (tf_c_no (fun h => absurd h.1 (by decide))))), h5⟩
  · exact Or.inr ⟨hb, q, h3.ha h4, h5⟩
theorem tf_CE_tr (hR : tf_Re ss m st (k, 6, 0, [], lv, 0, i)) (hL : tf_LX tp n ss pp m k f t s w) (h1 : s = 3) (h2 : w = 59) (hX : tf_CE tp n ss pp m (tf_nx m k, 5, 0, [], lv, 0, i) b x f1 t1 s1 w1 l1 i1) : tf_CE tp n ss pp m st b x f1 t1 s1 w1 l1 i1 := by
  have hk : ss k = 1059 := by have := tf_TS_c hL.2.2.1; omega
  have h3 : tf_Re ss m st (tf_nx m k, 5, 0, [], lv, 0, i) := hR.trans (tf_Re_1 (tf_c_semi hk rfl))
  rcases hX with ⟨hb, k2, h4, h5⟩ | ⟨hb, q, h4, h5⟩
  · exact Or.inl ⟨hb, k2, h3.trans h4, h5⟩
  · exact Or.inr ⟨hb, q, h3.ha h4, h5⟩
end LOOP
theorem tf_FIN_ok {tp ss pp : Int → Int} {n m k f t s w lv i ok x : Int} (hR : tf_Re ss m (0, 5, 0, [], 0, 0, 0) (k, 6, 0, [], lv, 0, i)) (hL : tf_LX tp n ss pp m k f t s w) (hs : s = 0) (ho : ok = 1) (hx : x = -1) : tf_FIN ss pp m ok x :=
  ⟨(k, 7, 0, [], lv, 0, i), ⟨hR.trans (tf_Re_1 (tf_c_end ((tf_TS_0 hL.2.2.1).2 hs))), tf_step_7⟩, Or.inl ⟨rfl, ho, hx⟩⟩
theorem tf_FIN_m {tp ss pp : Int → Int} {n m k f t s w lv i ok x : Int} (hR : tf_Re ss m (0, 5, 0, [], 0, 0, 0) (k, 6, 0, [], lv, 0, i)) (hL : tf_LX tp n ss pp m k f t s w) (hs : s ≠ 0) (h59 : s ≠ 3 ∨ w ≠ 59) (ho : ok = 0) (hx : x = f) : tf_FIN ss pp m ok x := by
  have h1 := tf_TS_c hL.2.2.1
  have h2 := tf_TS_0 hL.2.2.1
  exact ⟨(k, 6, 0, [], lv, 0, i), ⟨hR, tf_c_bad (by omega) (fun h => hs (h2.1 h))⟩, Or.inr ⟨(show (6 : Int) ≠ 7 by decide), ho, hx.trans hL.2.1.symm⟩⟩
theorem tf_FIN_b {tp ss pp : Int → Int} {n m b x f t s w lv i ok : Int} (h : tf_CE tp n ss pp m (0, 5, 0, [], 0, 0, 0) b x f t s w lv i) (hb : b = 1) (ho : ok = 0) : tf_FIN ss pp m ok x := by
  rcases h with ⟨h, -⟩ | ⟨-, q, h1, h2, h3⟩
  · omega
  · exact ⟨q, h1, Or.inr ⟨h2, ho, h3⟩⟩
theorem tf_cp_st {pi : Int → Int} {k p x : Int} (h : ∀ i, k < i → i < p → 20 ≤ pi i ∧ pi i ≤ 23) (e : pi k = x) (hx : 20 ≤ x ∧ x ≤ 23) : ∀ i, k + (-1) < i → i < p → 20 ≤ pi i ∧ pi i ≤ 23 := fun i h1 h2 => by
  by_cases c : i = k
  · rw [c, e]; exact hx
  · exact h i (by omega) h2
theorem tf_cp_y {pi : Int → Int} {k x : Int} (e : pi k = x) (hx : 24 ≤ x ∧ x ≤ 26) : 24 ≤ pi k ∧ pi k ≤ 26 := by rw [e]; exact hx
theorem tf_cp_n {pi : Int → Int} {k p : Int} (h : ∀ i, k < i → i < p → 20 ≤ pi i ∧ pi i ≤ 23) (h2 : 0 ≤ k → pi k < 20 ∨ 23 < pi k) (hk : k < p) (hn : k < 0 ∨ pi k < 24 ∨ 26 < pi k) : ¬ tf_cmp pi p := fun ⟨j, j0, j1, j2, j3⟩ => by
  by_cases c : j < k
  · have := j3 k c hk
    have := h2 (by omega)
    omega
  · by_cases d : j = k
    · subst d; omega
    · have := h j (by omega) j1
      omega
theorem tf_AB_ne {pi : Int → Int} {p z : Int} {S : List (Int × Int)} (h : tf_AB pi S p) (hi : tf_inn pi p z) (hz : z ≠ -1) : 1 ≤ (S.length : Int) := by
  rcases tf_AB_inn h hi with ⟨a, -⟩ | ⟨c, S2, a⟩
  · exact absurd a hz
  · rw [a, List.length_cons]; omega
theorem tf_RR_to1 {tp ss pp pi : Int → Int} {n m f t s w p o k c : Int} {S : List (Int × Int)} (h : tf_RR tp n ss pp m pi f t s w p o k 0 c S) : tf_RR tp n ss pp m pi f t s w p o k 1 c S := by
  obtain ⟨a, b, d, e, -⟩ := h
  exact ⟨a, b, d, fun _ _ => e (by decide) (by decide), fun h => absurd h (by decide)⟩
theorem tf_FIN_c {tp ss pp : Int → Int} {n m b x f t s w lv i : Int} (h : tf_CE tp n ss pp m (0, 5, 0, [], 0, 0, 0) b x f t s w lv i) (hb : b ≠ 1) (hs : s = 0) : tf_FIN ss pp m 1 (-1) := by
  obtain ⟨k, h1, h2⟩ := tf_CE_go h hb
  exact tf_FIN_ok h1 h2 hs rfl rfl
theorem tf_FIN_cm {tp ss pp : Int → Int} {n m b x f t s w lv i x1 : Int} (h : tf_CE tp n ss pp m (0, 5, 0, [], 0, 0, 0) b x f t s w lv i) (hb : b ≠ 1) (hs : s ≠ 0) (h59 : s ≠ 3 ∨ w ≠ 59) (hx : x1 = f) : tf_FIN ss pp m 0 x1 := by
  obtain ⟨k, h1, h2⟩ := tf_CE_go h hb
  exact tf_FIN_m h1 h2 hs h59 rfl hx
theorem tf_pa_s {s w z k : Int} {W : Int → Int} (h : tf_pa s w W z k) : z = -1 ∨ s = 1 := h.elim (fun q => Or.inl q.1) (fun q => Or.inr q.2.2.1)

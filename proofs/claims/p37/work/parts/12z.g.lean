theorem tf_rname {kt : List tf_Kd} {g : tf_G} {M : List (Nat × Nat)} {T0 T : tf_T} {H0 H : Heap} {locs : List Loc} (_ : tf_n kt g M T0 H0 T H locs) (a : Nat) : ∃ r, tf_rw H a = r := ⟨_, rfl⟩
theorem tf_eqv {H : Heap} {a j : Nat} {x y : Int} (h : tf_s H a j = some (.int (Int32.ofInt x))) (e : x = y) : tf_s H a j = some (.int (Int32.ofInt y)) := e ▸ h
theorem tf_keepC {kt : List tf_Kd} {g : tf_G} {M : List (Nat × Nat)} {T : tf_T} {H H' : Heap} {a k n ci : Nat} {fts : List tf_F} {ro : Bool} {r : Int → Int} (hF : tf_f kt g M T H H') (ha : T a = some (k, n)) (hk : kt[k]? = some (true, ci, fts, ro)) (hM : (k, 0) ∉ M) (h : tf_rw H a = r) : tf_rw H' a = r :=
  (tf_rw_eq ((hF.2.2 a k n _ ha hk).1 rfl hM)).trans h
theorem tf_keepCQ {H H' : Heap} {a : Nat} {r : Int → Int} (h : tf_rw H a = r) (hq : H'[a]? = H[a]?) : tf_rw H' a = r := (tf_rw_eq hq).trans h
def tf_fr (H : Heap) (a j : Nat) : Nat := match tf_s H a j with
  | some (.ref b) => b
  | _ => 0
theorem tf_fr_eq {H : Heap} {a j b : Nat} (h : tf_s H a j = some (.ref b)) : tf_fr H a j = b := by
  unfold tf_fr
  rw [h]
def tf_S10 (f : Int → Int) (w : Int) : Int := f (10 * w) + f (10 * w + 1) + f (10 * w + 2) + f (10 * w + 3) + f (10 * w + 4) + f (10 * w + 5) + f (10 * w + 6) + f (10 * w + 7) + f (10 * w + 8) + f (10 * w + 9)
def tf_Y (f : Int → Int) : Int := tf_S10 f 0 + tf_S10 f 1 + tf_S10 f 2 + tf_S10 f 3
theorem tf_S10_in {f : Int → Int} {i x w : Int} (h : 10 * w ≤ i ∧ i < 10 * w + 10) : tf_S10 (tf_up f i x) w = tf_S10 f w + (x - f i) := by
  unfold tf_S10
  rcases (show i = 10 * w ∨ i = 10 * w + 1 ∨ i = 10 * w + 2 ∨ i = 10 * w + 3 ∨ i = 10 * w + 4 ∨ i = 10 * w + 5 ∨ i = 10 * w + 6 ∨ i = 10 * w + 7 ∨ i = 10 * w + 8 ∨ i = 10 * w + 9 by omega) with e | e | e | e | e | e | e | e | e | e
  · rw [e, tf_up_at, tf_up_ne (show (10 * w + 1 : Int) ≠ 10 * w by omega), tf_up_ne (show (10 * w + 2 : Int) ≠ 10 * w by omega), tf_up_ne (show (10 * w + 3 : Int) ≠ 10 * w by omega), tf_up_ne (show (10 * w + 4 : Int) ≠ 10 * w by omega), tf_up_ne (show (10 * w + 5 : Int) ≠ 10 * w by omega), tf_up_ne (show (10 * w + 6 : Int) ≠ 10 * w by omega), tf_up_ne (show (10 * w + 7 : Int) ≠ 10 * w by omega), tf_up_ne (show (10 * w + 8 : Int) ≠ 10 * w by omega), tf_up_ne (show (10 * w + 9 : Int) ≠ 10 * w by omega)]; omega
  · rw [e, tf_up_ne (show (10 * w : Int) ≠ 10 * w + 1 by omega), tf_up_at, tf_up_ne (show (10 * w + 2 : Int) ≠ 10 * w + 1 by omega), tf_up_ne (show (10 * w + 3 : Int) ≠ 10 * w + 1 by omega), tf_up_ne (show (10 * w + 4 : Int) ≠ 10 * w + 1 by omega), tf_up_ne (show (10 * w + 5 : Int) ≠ 10 * w + 1 by omega), tf_up_ne (show (10 * w + 6 : Int) ≠ 10 * w + 1 by omega), tf_up_ne (show (10 * w + 7 : Int) ≠ 10 * w + 1 by omega), tf_up_ne (show (10 * w + 8 : Int) ≠ 10 * w + 1 by omega), tf_up_ne (show (10 * w + 9 : Int) ≠ 10 * w + 1 by omega)]; omega
  · rw [e, tf_up_ne (show (10 * w : Int) ≠ 10 * w + 2 by omega), tf_up_ne (show (10 * w + 1 : Int) ≠ 10 * w + 2 by omega), tf_up_at, tf_up_ne (show (10 * w + 3 : Int) ≠ 10 * w + 2 by omega), tf_up_ne (show (10 * w + 4 : Int) ≠ 10 * w + 2 by omega), tf_up_ne (show (10 * w + 5 : Int) ≠ 10 * w + 2 by omega), tf_up_ne (show (10 * w + 6 : Int) ≠ 10 * w + 2 by omega), tf_up_ne (show (10 * w + 7 : Int) ≠ 10 * w + 2 by omega), tf_up_ne (show (10 * w + 8 : Int) ≠ 10 * w + 2 by omega), tf_up_ne (show (10 * w + 9 : Int) ≠ 10 * w + 2 by omega)]; omega
  · rw [e, tf_up_ne (show (10 * w : Int) ≠ 10 * w + 3 by omega), tf_up_ne (show (10 * w + 1 : Int) ≠ 10 * w + 3 by omega), tf_up_ne (show (10 * w + 2 : Int) ≠ 10 * w + 3 by omega), tf_up_at, tf_up_ne (show (10 * w + 4 : Int) ≠ 10 * w + 3 by omega), tf_up_ne (show (10 * w + 5 : Int) ≠ 10 * w + 3 by omega), tf_up_ne (show (10 * w + 6 : Int) ≠ 10 * w + 3 by omega), tf_up_ne (show (10 * w + 7 : Int) ≠ 10 * w + 3 by omega), tf_up_ne (show (10 * w + 8 : Int) ≠ 10 * w + 3 by omega), tf_up_ne (show (10 * w + 9 : Int) ≠ 10 * w + 3 by omega)]; omega
  · rw [e, tf_up_ne (show (10 * w : Int) ≠ 10 * w + 4 by omega), tf_up_ne (show (10 * w + 1 : Int) ≠ 10 * w + 4 by omega), tf_up_ne (show (10 * w + 2 : Int) ≠ 10 * w + 4 by omega), tf_up_ne (show (10 * w + 3 : Int) ≠ 10 * w + 4 by omega), tf_up_at, tf_up_ne (show (10 * w + 5 : Int) ≠ 10 * w + 4 by omega), tf_up_ne (show (10 * w + 6 : Int) ≠ 10 * w + 4 by omega), tf_up_ne (show (10 * w + 7 : Int) ≠ 10 * w + 4 by omega), tf_up_ne (show (10 * w + 8 : Int) ≠ 10 * w + 4 by omega), tf_up_ne (show (10 * w + 9 : Int) ≠ 10 * w + 4 by omega)]; omega
  · rw [e, tf_up_ne (show (10 * w : Int) ≠ 10 * w + 5 by omega), tf_up_ne (show (10 * w + 1 : Int) ≠ 10 * w + 5 by omega), tf_up_ne (show (10 * w + 2 : Int) ≠ 10 * w + 5 by omega), tf_up_ne (show (10 * w + 3 : Int) ≠ 10 * w + 5 by omega), tf_up_ne (show (10 * w + 4 : Int) ≠ 10 * w + 5 by omega), tf_up_at, tf_up_ne (show (10 * w + 6 : Int) ≠ 10 * w + 5 by omega), tf_up_ne (show (10 * w + 7 : Int) ≠ 10 * w + 5 by omega), tf_up_ne (show (10 * w + 8 : Int) ≠ 10 * w + 5 by omega), tf_up_ne (show (10 * w + 9 : Int) ≠ 10 * w + 5 by omega)]; omega
  · rw [e, tf_up_ne (show (10 * w : Int) ≠ 10 * w + 6 by omega), tf_up_ne (show (10 * w + 1 : Int) ≠ 10 * w + 6 by omega), tf_up_ne (show (10 * w + 2 : Int) ≠ 10 * w + 6 by omega), tf_up_ne (show (10 * w + 3 : Int) ≠ 10 * w + 6 by omega), tf_up_ne (show (10 * w + 4 : Int) ≠ 10 * w + 6 by omega), tf_up_ne (show (10 * w + 5 : Int) ≠ 10 * w + 6 by omega), tf_up_at, tf_up_ne (show (10 * w + 7 : Int) ≠ 10 * w + 6 by omega), tf_up_ne (show (10 * w + 8 : Int) ≠ 10 * w + 6 by omega), tf_up_ne (show (10 * w + 9 : Int) ≠ 10 * w + 6 by omega)]; omega
  · rw [e, tf_up_ne (show (10 * w : Int) ≠ 10 * w + 7 by omega), tf_up_ne (show (10 * w + 1 : Int) ≠ 10 * w + 7 by omega), tf_up_ne (show (10 * w + 2 : Int) ≠ 10 * w + 7 by omega), tf_up_ne (show (10 * w + 3 : Int) ≠ 10 * w + 7 by omega), tf_up_ne (show (10 * w + 4 : Int) ≠ 10 * w + 7 by omega), tf_up_ne (show (10 * w + 5 : Int) ≠ 10 * w + 7 by omega), tf_up_ne (show (10 * w + 6 : Int) ≠ 10 * w + 7 by omega), tf_up_at, tf_up_ne (show (10 * w + 8 : Int) ≠ 10 * w + 7 by omega), tf_up_ne (show (10 * w + 9 : Int) ≠ 10 * w + 7 by omega)]; omega
  · rw [e, tf_up_ne (show (10 * w : Int) ≠ 10 * w + 8 by omega), tf_up_ne (show (10 * w + 1 : Int) ≠ 10 * w + 8 by omega), tf_up_ne (show (10 * w + 2 : Int) ≠ 10 * w + 8 by omega), tf_up_ne (show (10 * w + 3 : Int) ≠ 10 * w + 8 by omega), tf_up_ne (show (10 * w + 4 : Int) ≠ 10 * w + 8 by omega), tf_up_ne (show (10 * w + 5 : Int) ≠ 10 * w + 8 by omega), tf_up_ne (show (10 * w + 6 : Int) ≠ 10 * w + 8 by omega), tf_up_ne (show (10 * w + 7 : Int) ≠ 10 * w + 8 by omega), tf_up_at, tf_up_ne (show (10 * w + 9 : Int) ≠ 10 * w + 8 by omega)]; omega
  · rw [e, tf_up_ne (show (10 * w : Int) ≠ 10 * w + 9 by omega), tf_up_ne (show (10 * w + 1 : Int) ≠ 10 * w + 9 by omega), tf_up_ne (show (10 * w + 2 : Int) ≠ 10 * w + 9 by omega), tf_up_ne (show (10 * w + 3 : Int) ≠ 10 * w + 9 by omega), tf_up_ne (show (10 * w + 4 : Int) ≠ 10 * w + 9 by omega), tf_up_ne (show (10 * w + 5 : Int) ≠ 10 * w + 9 by omega), tf_up_ne (show (10 * w + 6 : Int) ≠ 10 * w + 9 by omega), tf_up_ne (show (10 * w + 7 : Int) ≠ 10 * w + 9 by omega), tf_up_ne (show (10 * w + 8 : Int) ≠ 10 * w + 9 by omega), tf_up_at]; omega
theorem tf_S10_out {f : Int → Int} {i x w : Int} (h : i < 10 * w ∨ 10 * w + 10 ≤ i) : tf_S10 (tf_up f i x) w = tf_S10 f w := by
  unfold tf_S10
  rw [tf_up_ne (show (10 * w : Int) ≠ i by omega), tf_up_ne (show (10 * w + 1 : Int) ≠ i by omega), tf_up_ne (show (10 * w + 2 : Int) ≠ i by omega), tf_up_ne (show (10 * w + 3 : Int) ≠ i by omega), tf_up_ne (show (10 * w + 4 : Int) ≠ i by omega), tf_up_ne (show (10 * w + 5 : Int) ≠ i by omega), tf_up_ne (show (10 * w + 6 : Int) ≠ i by omega), tf_up_ne (show (10 * w + 7 : Int) ≠ i by omega), tf_up_ne (show (10 * w + 8 : Int) ≠ i by omega), tf_up_ne (show (10 * w + 9 : Int) ≠ i by omega)]
def tf_WS (gy gw : Int → Int) : Prop := (∀ i, 0 ≤ i → i < 40 → 0 ≤ gy i ∧ gy i ≤ 999) ∧ ∀ w, 0 ≤ w → w < 4 → gw w = tf_S10 gy w
theorem tf_S10_b {gy gw : Int → Int} (h : tf_WS gy gw) {w : Int} (h0 : 0 ≤ w) (h1 : w < 4) : 0 ≤ tf_S10 gy w ∧ tf_S10 gy w ≤ 9990 := by
  unfold tf_S10
  have a0 := h.1 (10 * w) (by omega) (by omega)
  have a1 := h.1 (10 * w + 1) (by omega) (by omega)
  have a2 := h.1 (10 * w + 2) (by omega) (by omega)
  have a3 := h.1 (10 * w + 3) (by omega) (by omega)
  have a4 := h.1 (10 * w + 4) (by omega) (by omega)
  have a5 := h.1 (10 * w + 5) (by omega) (by omega)
  have a6 := h.1 (10 * w + 6) (by omega) (by omega)
  have a7 := h.1 (10 * w + 7) (by omega) (by omega)
  have a8 := h.1 (10 * w + 8) (by omega) (by omega)
  have a9 := h.1 (10 * w + 9) (by omega) (by omega)
  omega
theorem tf_WS_b {gy gw : Int → Int} (h : tf_WS gy gw) {w : Int} (h0 : 0 ≤ w) (h1 : w < 4) : 0 ≤ gw w ∧ gw w ≤ 9990 := by
  rw [h.2 w h0 h1]; exact tf_S10_b h h0 h1
theorem tf_WS_up {gy gw : Int → Int} {w p x was z : Int} (h : tf_WS gy gw) (hw0 : 0 ≤ w) (hw1 : w ≤ 3) (hp0 : 0 ≤ p) (hp1 : p ≤ 9) (hx0 : 0 ≤ x) (hx1 : x ≤ 999) (e1 : gy (w * 10 + p) = was) (e2 : gw w = z) : tf_WS (tf_up gy (w * 10 + p) x) (tf_up gw w (z + (x - was))) := by
  refine ⟨fun i i0 i1 => ?_, fun v v0 v1 => ?_⟩
  · by_cases c : i = w * 10 + p
    · rw [c, tf_up_at]; omega
    · rw [tf_up_ne c]; exact h.1 i i0 i1
  · by_cases c : v = w
    · rw [c, tf_up_at, tf_S10_in (by omega), ← h.2 w hw0 (by omega)]; omega
    · rw [tf_up_ne c, tf_S10_out (by omega)]; exact h.2 v v0 v1
theorem tf_WS_Y {gy gw : Int → Int} (h : tf_WS gy gw) : gw 0 + gw 1 + gw 2 + gw 3 = tf_Y gy := by
  unfold tf_Y
  rw [h.2 0 (by omega) (by omega), h.2 1 (by omega) (by omega), h.2 2 (by omega) (by omega), h.2 3 (by omega) (by omega)]
def tf_SH (x1 x2 x3 z : Int) (gy gy1 : Int → Int) : Prop := ((0 ≤ x1 ∧ x1 ≤ 3 ∧ 0 ≤ x2 ∧ x2 ≤ 9) ∧ z = gy (x1 * 10 + x2) ∧ gy1 = tf_up gy (x1 * 10 + x2) x3) ∨ ((x1 < 0 ∨ 3 < x1 ∨ x2 < 0 ∨ 9 < x2) ∧ z = -1 ∧ gy1 = gy)
def tf_HR (x1 x2 x3 z : Int) (gy gy1 : Int → Int) : Prop := ((0 ≤ x1 ∧ x1 ≤ 3 ∧ 0 ≤ x2 ∧ x2 ≤ 9 ∧ 0 ≤ x3 ∧ x3 ≤ 999) ∧ z = gy (x1 * 10 + x2) ∧ gy1 = tf_up gy (x1 * 10 + x2) x3) ∨ ((x1 < 0 ∨ 3 < x1 ∨ x2 < 0 ∨ 9 < x2 ∨ x3 < 0 ∨ 999 < x3) ∧ z = -1 ∧ gy1 = gy)
theorem tf_HR_of {x1 x2 x3 z z2 : Int} {gy gy1 : Int → Int} (h : tf_SH x1 x2 x3 z gy gy1) (hx : 0 ≤ x1 ∧ x1 ≤ 3 ∧ 0 ≤ x2 ∧ x2 ≤ 9 ∧ 0 ≤ x3 ∧ x3 ≤ 999) (hz : z2 = z) : tf_HR x1 x2 x3 z2 gy gy1 := by
  rcases h with ⟨h1, h2, h3⟩ | ⟨h1, -⟩
  · exact Or.inl ⟨hx, hz.trans h2, h3⟩
  · omega
def tf_HM (x1 x2 x3 z : Int) (rr rr1 : Int → Int) : Prop := ((0 ≤ x1 ∧ x1 ≤ 3 ∧ 0 ≤ x2 ∧ x2 ≤ 9 ∧ 0 ≤ x3 ∧ x3 ≤ 999) ∧ z = rr (341 + 10 * x1 + x2) ∧ rr1 = tf_up rr (341 + 10 * x1 + x2) x3) ∨ ((x1 < 0 ∨ 3 < x1 ∨ x2 < 0 ∨ 9 < x2 ∨ x3 < 0 ∨ 999 < x3) ∧ z = -1 ∧ rr1 = rr)
def tf_LNC (x1 x2 x3 z : Int) (gl gh gl1 gh1 : Int → Int) : Prop := ((1 ≤ x1 ∧ x1 ≤ 3 ∧ x2 = 0 ∧ 0 ≤ x3 ∧ x3 ≤ 99) ∧ z = gl x1 ∧ gl1 = tf_up gl x1 x3 ∧ gh1 = gh) ∨ ((1 ≤ x1 ∧ x1 ≤ 3 ∧ x2 = 1 ∧ 0 ≤ x3 ∧ x3 ≤ 9999) ∧ z = gh x1 ∧ gl1 = gl ∧ gh1 = tf_up gh x1 x3) ∨ ((x1 < 1 ∨ 3 < x1 ∨ x2 < 0 ∨ 1 < x2 ∨ x3 < 0 ∨ 9999 < x3 ∨ (x2 = 0 ∧ 99 < x3)) ∧ z = -1 ∧ gl1 = gl ∧ gh1 = gh)
def tf_LNM (x1 x2 x3 z : Int) (rr rr1 : Int → Int) : Prop := ((1 ≤ x1 ∧ x1 ≤ 3 ∧ 0 ≤ x2 ∧ x2 ≤ 1 ∧ 0 ≤ x3 ∧ x3 ≤ 9999 ∧ (x2 = 0 → x3 ≤ 99)) ∧ z = rr (5 + 2 * (x1 - 1) + x2) ∧ rr1 = tf_up rr (5 + 2 * (x1 - 1) + x2) x3) ∨ ((x1 < 1 ∨ 3 < x1 ∨ x2 < 0 ∨ 1 < x2 ∨ x3 < 0 ∨ 9999 < x3 ∨ (x2 = 0 ∧ 99 < x3)) ∧ z = -1 ∧ rr1 = rr)
def tf_RL (gl gh gy gw rr : Int → Int) : Prop := (∀ i, 1 ≤ i → i ≤ 3 → gl i = rr (5 + 2 * (i - 1) + 0) ∧ gh i = rr (5 + 2 * (i - 1) + 1)) ∧ (∀ i, 0 ≤ i → i < 40 → gy i = rr (341 + i)) ∧ tf_WS gy gw
def tf_kp (r r1 : Int → Int) : Prop := ∀ j, (5 ≤ j ∧ j ≤ 10) ∨ (341 ≤ j ∧ j ≤ 380) → r1 j = r j
theorem tf_kp_rf {r : Int → Int} : tf_kp r r := fun _ _ => rfl
theorem tf_kp_up {r R : Int → Int} {i x : Int} (h : tf_kp r R) (hi : i < 5 ∨ (10 < i ∧ i < 341) ∨ 380 < i) : tf_kp r (tf_up R i x) := fun j hj => by
  rw [tf_up_ne (by omega)]; exact h j hj
theorem tf_kp_tr {r R S : Int → Int} (h : tf_kp r R) (h2 : tf_kp R S) : tf_kp r S := fun j hj => (h2 j hj).trans (h j hj)
theorem tf_kp_ou {r R : Int → Int} {b i : Int} (h : ∀ j, R j = if b ≤ j ∧ j < i then r (j + 4) else r j) (hb : 381 ≤ b) : tf_kp r R := fun j hj => by rw [h j, if_neg (by omega)]
theorem tf_RL_kp {gl gh gy gw rr rr1 : Int → Int} (h : tf_RL gl gh gy gw rr) (k : tf_kp rr rr1) : tf_RL gl gh gy gw rr1 := by
  obtain ⟨h1, h2, h3⟩ := h
  refine ⟨fun i i0 i1 => ?_, fun i i0 i1 => ?_, h3⟩
  · rw [k _ (by omega), k _ (by omega)]; exact h1 i i0 i1
  · rw [k _ (by omega)]; exact h2 i i0 i1
theorem tf_RL_to {gl gh gy gw rr rr1 : Int → Int} (h : tf_RL gl gh gy gw rr) (k : ∀ j, 0 ≤ j → j < 5830 → rr1 j = rr j) : tf_RL gl gh gy gw rr1 := tf_RL_kp h (fun j hj => k j (by omega) (by omega))
theorem tf_line_eq {gl gh gy gw rr gl1 gh1 rr1 : Int → Int} {x1 x2 x3 z z2 : Int} (h : tf_RL gl gh gy gw rr) (hc : tf_LNC x1 x2 x3 z gl gh gl1 gh1) (hm : tf_LNM x1 x2 x3 z2 rr rr1) : z = z2 ∧ tf_RL gl1 gh1 gy gw rr1 := by
  obtain ⟨h1, h2, h3⟩ := h
  rcases hm with ⟨m1, m2, m3⟩ | ⟨m1, m2, m3⟩
  · rcases hc with ⟨c1, c2, c3, c4⟩ | ⟨c1, c2, c3, c4⟩ | ⟨c1, -⟩
    · obtain ⟨-, -, rfl, -⟩ := c1
      refine ⟨by rw [c2, m2]; exact (h1 x1 (by omega) (by omega)).1, fun i i0 i1 => ?_, fun i i0 i1 => ?_, h3⟩
      · rw [c3, c4, m3]
        by_cases e : i = x1
        · subst e
          rw [tf_up_at, tf_up_at, tf_up_ne (by omega)]; exact ⟨rfl, (h1 i i0 i1).2⟩
        · rw [tf_up_ne e, tf_up_ne (by omega), tf_up_ne (by omega)]; exact h1 i i0 i1
      · rw [m3, tf_up_ne (by omega)]; exact h2 i i0 i1
    · obtain ⟨-, -, rfl, -⟩ := c1
      refine ⟨by rw [c2, m2]; exact (h1 x1 (by omega) (by omega)).2, fun i i0 i1 => ?_, fun i i0 i1 => ?_, h3⟩
      · rw [c3, c4, m3]
        by_cases e : i = x1
        · subst e
          rw [tf_up_at, tf_up_at, tf_up_ne (by omega)]; exact ⟨(h1 i i0 i1).1, rfl⟩
        · rw [tf_up_ne e, tf_up_ne (by omega), tf_up_ne (by omega)]; exact h1 i i0 i1
      · rw [m3, tf_up_ne (by omega)]; exact h2 i i0 i1
    · omega
  · rcases hc with ⟨c1, -⟩ | ⟨c1, -⟩ | ⟨c1, c2, c3, c4⟩
    · omega
    · omega
    · subst c3 c4 m3
      exact ⟨by omega, h1, h2, h3⟩
theorem tf_hours_eq {gl gh gy gw rr gy1 gw1 rr1 : Int → Int} {x1 x2 x3 z z2 : Int} (h : tf_RL gl gh gy gw rr) (hw : tf_WS gy1 gw1) (hc : tf_HR x1 x2 x3 z gy gy1) (hm : tf_HM x1 x2 x3 z2 rr rr1) : z = z2 ∧ tf_RL gl gh gy1 gw1 rr1 := by
  obtain ⟨h1, h2, h3⟩ := h
  rcases hm with ⟨m1, m2, m3⟩ | ⟨m1, m2, m3⟩
  · rcases hc with ⟨c1, c2, c3⟩ | ⟨c1, -⟩
    · refine ⟨by rw [c2, m2, h2 _ (by omega) (by omega)]; congr 1; omega, fun i i0 i1 => ?_, fun i i0 i1 => ?_, hw⟩
      · rw [m3, tf_up_ne (by omega), tf_up_ne (by omega)]; exact h1 i i0 i1
      · rw [c3, m3]
        by_cases e : i = x1 * 10 + x2
        · rw [e, tf_up_at, show 341 + (x1 * 10 + x2) = 341 + 10 * x1 + x2 by omega, tf_up_at]
        · rw [tf_up_ne e, tf_up_ne (by omega)]; exact h2 i i0 i1
    · omega
  · rcases hc with ⟨c1, -⟩ | ⟨c1, c2, c3⟩
    · omega
    · subst c3 m3
      exact ⟨by omega, h1, h2, hw⟩
def tf_hv (tp : Int → Int) (i : Int) : Int := if 999 < 256 * tp (2 * i) + tp (2 * i + 1) then 999 else 256 * tp (2 * i) + tp (2 * i + 1)
theorem tf_hv_of {tp : Int → Int} {i a b z : Int} (ea : tp (2 * i) = a) (eb : tp (2 * i + 1) = b) (h : (256 * a + b ≤ 999 ∧ z = 256 * a + b) ∨ (999 ≤ 256 * a + b ∧ z = 999)) : z = tf_hv tp i := by
  unfold tf_hv
  rw [ea, eb]
  by_cases c : 999 < 256 * a + b
  · rw [if_pos c]; omega
  · rw [if_neg c]; omega
def tf_td (t : Int) : Int := if t < 80 then t / 2 else 40
theorem tf_td_eq {t n : Int} (h : (n = 40 ∧ 80 ≤ t) ∨ (n = t / 2 ∧ t < 82)) : n = tf_td t := by
  unfold tf_td
  by_cases c : t < 80
  · rw [if_pos c]; omega
  · rw [if_neg c]; omega
def tf_RWc (gy tp : Int → Int) (n : Int) (R : Int → Int) : Prop := ∀ j, R j = if 0 ≤ j ∧ j < n then tf_hv tp j else gy j
theorem tf_RWc_0 {gy tp : Int → Int} : tf_RWc gy tp 0 gy := fun j => by rw [if_neg (by omega)]
theorem tf_RWc_st {gy tp R R1 : Int → Int} {n a b x z : Int} (h : tf_RWc gy tp n R) (hs : tf_SH a b x z R R1) (hn : a * 10 + b = n) (h0 : 0 ≤ n) (hr : 0 ≤ a ∧ a ≤ 3 ∧ 0 ≤ b ∧ b ≤ 9) (hx : x = tf_hv tp n) : tf_RWc gy tp (n + 1) R1 := by
  rcases hs with ⟨-, -, e⟩ | ⟨h1, -⟩
  · subst e hn
    intro j
    by_cases c : j = a * 10 + b
    · rw [c, tf_up_at, if_pos (by omega), hx]
    · rw [tf_up_ne c, h j]
      by_cases d : 0 ≤ j ∧ j < a * 10 + b
      · rw [if_pos d, if_pos (by omega)]
      · rw [if_neg d, if_neg (by omega)]
  · omega
def tf_RWm (rr tp : Int → Int) (n : Int) (R : Int → Int) : Prop := ∀ j, R j = if 341 ≤ j ∧ j < 341 + n then tf_hv tp (j - 341) else rr j
theorem tf_RWm_0 {rr tp : Int → Int} : tf_RWm rr tp 0 rr := fun j => by rw [if_neg (by omega)]
theorem tf_RWm_st {rr tp R : Int → Int} {n k m x : Int} (h : tf_RWm rr tp n R) (h0 : 0 ≤ n) (hk : k = 341 + n) (hm : m = n + 1) (hx : x = tf_hv tp n) : tf_RWm rr tp m (tf_up R k x) := by
  subst hk hm
  intro j
  by_cases c : j = 341 + n
  · rw [c, tf_up_at, if_pos (by omega), show 341 + n - 341 = n by omega, hx]
  · rw [tf_up_ne c, h j]
    by_cases d : 341 ≤ j ∧ j < 341 + n
    · rw [if_pos d, if_pos (by omega)]
    · rw [if_neg d, if_neg (by omega)]
def tf_RC (t z : Int) (tp gy gy1 : Int → Int) : Prop := (t = 0 ∧ z = -6 ∧ gy1 = gy) ∨ (t ≠ 0 ∧ z = tf_Y gy1 ∧ tf_RWc gy tp (tf_td t) gy1)
def tf_RM (t z : Int) (tp rr rr1 : Int → Int) : Prop := (t = 0 ∧ z = -6 ∧ rr1 = rr) ∨ (t ≠ 0 ∧ z = tf_Y (fun i => rr1 (341 + i)) ∧ tf_RWm rr tp (tf_td t) rr1)
theorem tf_Y_congr {f f2 : Int → Int} (h : ∀ i, 0 ≤ i → i < 40 → f i = f2 i) : tf_Y f = tf_Y f2 := by
  unfold tf_Y tf_S10
  rw [h (10 * 0) (by omega) (by omega), h (10 * 0 + 1) (by omega) (by omega), h (10 * 0 + 2) (by omega) (by omega), h (10 * 0 + 3) (by omega) (by omega), h (10 * 0 + 4) (by omega) (by omega), h (10 * 0 + 5) (by omega) (by omega), h (10 * 0 + 6) (by omega) (by omega), h (10 * 0 + 7) (by omega) (by omega), h (10 * 0 + 8) (by omega) (by omega), h (10 * 0 + 9) (by omega) (by omega)]
  rw [h (10 * 1) (by omega) (by omega), h (10 * 1 + 1) (by omega) (by omega), h (10 * 1 + 2) (by omega) (by omega), h (10 * 1 + 3) (by omega) (by omega), h (10 * 1 + 4) (by omega) (by omega), h (10 * 1 + 5) (by omega) (by omega), h (10 * 1 + 6) (by omega) (by omega), h (10 * 1 + 7) (by omega) (by omega), h (10 * 1 + 8) (by omega) (by omega), h (10 * 1 + 9) (by omega) (by omega)]
  rw [h (10 * 2) (by omega) (by omega), h (10 * 2 + 1) (by omega) (by omega), h (10 * 2 + 2) (by omega) (by omega), h (10 * 2 + 3) (by omega) (by omega), h (10 * 2 + 4) (by omega) (by omega), h (10 * 2 + 5) (by omega) (by omega), h (10 * 2 + 6) (by omega) (by omega), h (10 * 2 + 7) (by omega) (by omega), h (10 * 2 + 8) (by omega) (by omega), h (10 * 2 + 9) (by omega) (by omega)]
  rw [h (10 * 3) (by omega) (by omega), h (10 * 3 + 1) (by omega) (by omega), h (10 * 3 + 2) (by omega) (by omega), h (10 * 3 + 3) (by omega) (by omega), h (10 * 3 + 4) (by omega) (by omega), h (10 * 3 + 5) (by omega) (by omega), h (10 * 3 + 6) (by omega) (by omega), h (10 * 3 + 7) (by omega) (by omega), h (10 * 3 + 8) (by omega) (by omega), h (10 * 3 + 9) (by omega) (by omega)]
theorem tf_row_eq {gl gh gy gw rr gy1 gw1 rr1 tc tm : Int → Int} {t z z2 : Int} (h : tf_RL gl gh gy gw rr) (ht : tc = tm) (h0 : 0 ≤ t) (hw : tf_WS gy1 gw1) (hc : tf_RC t z tc gy gy1) (hm : tf_RM t z2 tm rr rr1) : z = z2 ∧ tf_RL gl gh gy1 gw1 rr1 := by
  obtain ⟨h1, h2, h3⟩ := h
  subst ht
  rcases hm with ⟨m1, m2, m3⟩ | ⟨m1, m2, m3⟩
  · rcases hc with ⟨c1, c2, c3⟩ | ⟨c1, -⟩
    · subst c3 m3
      exact ⟨by omega, h1, h2, hw⟩
    · omega
  · rcases hc with ⟨c1, -⟩ | ⟨c1, c2, c3⟩
    · omega
    · have htd : tf_td t ≤ 40 := by
        unfold tf_td
        by_cases c : t < 80
        · rw [if_pos c]; omega
        · rw [if_neg c]; omega
      have hy : ∀ i, 0 ≤ i → i < 40 → gy1 i = rr1 (341 + i) := fun i i0 i1 => by
        rw [c3 i, m3 (341 + i)]
        by_cases c : i < tf_td t
        · rw [if_pos (by omega), if_pos (by omega), show 341 + i - 341 = i by omega]
        · rw [if_neg (by omega), if_neg (by omega)]; exact h2 i i0 i1
      refine ⟨by rw [c2, m2]; exact tf_Y_congr hy, fun i i0 i1 => ?_, hy, hw⟩
      rw [m3 (5 + 2 * (i - 1) + 0), m3 (5 + 2 * (i - 1) + 1), if_neg (by omega), if_neg (by omega)]
      exact h1 i i0 i1
def tf_ho (f : Int → Int) : Int → Int → Nat → Int
  | _, _, 0 => 0
  | x, k, n + 1 => if x < f k then k else tf_ho f (x - f k) (k + 1) n
theorem tf_ho_lt {f : Int → Int} {x k z : Int} (e : f k = z) (h : x < z) (h0 : 0 ≤ k) (h1 : k < 40) : tf_ho f x k (40 - k).toNat = k := by
  have hn : (40 - k).toNat = (39 - k).toNat + 1 := by omega
  rw [hn]
  show (if x < f k then k else _) = k
  rw [if_pos (by omega)]
theorem tf_ho_ge {f : Int → Int} {x k z : Int} (e : f k = z) (h : z ≤ x) (h0 : 0 ≤ k) (h1 : k < 40) : tf_ho f x k (40 - k).toNat = tf_ho f (x - z) (k + 1) (40 - (k + 1)).toNat := by
  have hn : (40 - k).toNat = (40 - (k + 1)).toNat + 1 := by omega
  rw [hn]
  show (if x < f k then k else tf_ho f (x - f k) (k + 1) (40 - (k + 1)).toNat) = _
  rw [if_neg (by omega), e]
theorem tf_ho_end {f : Int → Int} {x k : Int} (h : 40 ≤ k) : tf_ho f x k (40 - k).toNat = 0 := by
  rw [show (40 - k).toNat = 0 by omega]; rfl
theorem tf_ho_congr {f f2 : Int → Int} (h : ∀ i, 0 ≤ i → i < 40 → f i = f2 i) : ∀ (n : Nat) (x k : Int), 0 ≤ k → k + n ≤ 40 → tf_ho f x k n = tf_ho f2 x k n
  | 0, _, _, _, _ => rfl
  | n + 1, x, k, h0, h1 => by
    show (if x < f k then k else tf_ho f (x - f k) (k + 1) n) = (if x < f2 k then k else tf_ho f2 (x - f2 k) (k + 1) n)
    rw [h k h0 (by omega), tf_ho_congr h n _ _ (by omega) (by omega)]
def tf_it (s : Int) : Nat → Int
  | 0 => s
  | n + 1 => (tf_it s n * 1103 + 12345) % 1000003
theorem tf_it_st {s h y z : Int} (h0 : 0 ≤ h) (e : y = tf_it s h.toNat) (ez : z = (y * 1103 + 12345) % 1000003) : z = tf_it s (h + 1).toNat := by
  rw [show (h + 1).toNat = h.toNat + 1 by omega, ez, e]; rfl
def tf_dr (gy : Int → Int) (all seed h : Int) : Int := tf_ho gy (tf_it seed (h + 1).toNat % all) 0 40
theorem tf_dr_of {gy : Int → Int} {all seed h y x z : Int} (e1 : y = tf_it seed (h + 1).toNat) (e2 : x = y % all) (e3 : z = tf_ho gy x 0 40) : z = tf_dr gy all seed h := by
  unfold tf_dr
  rw [e3, e2, e1]
theorem tf_dr_in {f : Int → Int} {all seed h y x : Int} (e1 : y = tf_it seed (h + 1).toNat) (e2 : x = y % all) : tf_dr f all seed h = tf_ho f x 0 ((40 : Int) - 0).toNat := by
  subst e2
  subst e1
  rfl
def tf_DH (gy : Int → Int) (all seed n : Int) (R : Int → Int) : Prop := ∀ h, 0 ≤ h → h < n → R h = tf_dr gy all seed h
theorem tf_DH_0 {gy R : Int → Int} {all seed : Int} : tf_DH gy all seed 0 R := fun h h0 h1 => by omega
theorem tf_DH_st {gy R : Int → Int} {all seed n z : Int} (h : tf_DH gy all seed n R) (hz : z = tf_dr gy all seed n) : tf_DH gy all seed (n + 1) (tf_up R n z) := fun j j0 j1 => by
  by_cases c : j = n
  · rw [c, tf_up_at, hz]
  · rw [tf_up_ne c]; exact h j j0 (by omega)
def tf_DC (x1 dd dd1 : Int) (gy gd gd1 : Int → Int) : Prop := ((0 ≤ x1 ∧ x1 ≤ 1000000) ∧ tf_Y gy ≠ 0 ∧ dd1 = 1 ∧ tf_DH gy (tf_Y gy) x1 24 gd1) ∨ ((x1 < 0 ∨ 1000000 < x1 ∨ tf_Y gy = 0) ∧ dd1 = dd ∧ gd1 = gd)
theorem tf_day_eq {gl gh gy gw rr gd gd1 gm gm1 : Int → Int} {x1 dd dd1 dd2 : Int} (h : tf_RL gl gh gy gw rr) (hd : ∀ h, 0 ≤ h → h < 24 → gd h = gm h) (hc : tf_DC x1 dd dd1 gy gd gd1) (hm : tf_DC x1 dd dd2 (fun i => rr (341 + i)) gm gm1) : dd1 = dd2 ∧ ∀ h, 0 ≤ h → h < 24 → gd1 h = gm1 h := by
  have hY := tf_Y_congr (f2 := fun i => rr (341 + i)) h.2.1
  rcases hc with ⟨c1, c2, c3, c4⟩ | ⟨c1, c2, c3⟩
  · rcases hm with ⟨m1, m2, m3, m4⟩ | ⟨m1, -⟩
    · refine ⟨by omega, fun j j0 j1 => ?_⟩
      rw [c4 j j0 j1, m4 j j0 j1, hY]
      unfold tf_dr
      exact tf_ho_congr h.2.1 40 _ 0 (by omega) (by omega)
    · omega
  · rcases hm with ⟨m1, m2, -⟩ | ⟨m1, m2, m3⟩
    · omega
    · subst c3 m3
      exact ⟨by omega, hd⟩
def tf_by (x k : Int) : Int := ((Int32.ofInt x >>> (Int32.ofInt k &&& 31)) &&& Int32.ofInt 255).toInt
def tf_f4 (tp : Int → Int) (t x : Int) : Int → Int := tf_up (tf_up (tf_up (tf_up tp t (tf_by x 24)) (t + 1) (tf_by x 16)) (t + 2) (tf_by x 8)) (t + 3) (tf_by x 0)
def tf_f20 (tp : Int → Int) (t a b c d e : Int) : Int → Int := tf_f4 (tf_f4 (tf_f4 (tf_f4 (tf_f4 tp t a) (t + 4) b) (t + 8) c) (t + 12) d) (t + 16) e
theorem tf_f4_of {tp R : Int → Int} {t x i1 i2 i3 : Int} (h : R = tf_up (tf_up (tf_up (tf_up tp t (tf_by x 24)) i1 (tf_by x 16)) i2 (tf_by x 8)) i3 (tf_by x 0)) (h1 : i1 = t + 1) (h2 : i2 = t + 2) (h3 : i3 = t + 3) : R = tf_f4 tp t x := by
  subst h1 h2 h3; exact h
def tf_FD (t : Int) (tp tp1 : Int → Int) (a b c d e : Int) : Prop := (400 < t + 20 ∧ tp1 = tp) ∨ (t + 20 ≤ 400 ∧ tp1 = tf_f20 tp t a b c d e)
theorem tf_feed_eq {tc tm tc1 tm1 : Int → Int} {t a b c d e : Int} (h : tc = tm) (hc : tf_FD t tc tc1 a b c d e) (hm : tf_FD t tm tm1 a b c d e) : tc1 = tm1 := by
  subst h
  rcases hc with ⟨c1, c2⟩ | ⟨c1, c2⟩
  · rcases hm with ⟨m1, m2⟩ | ⟨m1, m2⟩
    · rw [c2, m2]
    · omega
  · rcases hm with ⟨m1, m2⟩ | ⟨m1, m2⟩
    · omega
    · rw [c2, m2]
theorem tf_land255 (n : Nat) : n &&& 255 = n % 256 := Nat.and_two_pow_sub_one_eq_mod n 8
theorem tf_and255 (x : Int32) : (x &&& Int32.ofInt 255).toBitVec.toNat = x.toBitVec.toNat % 256 := by
  rw [Int32.toBitVec_and, BitVec.toNat_and]
  exact tf_land255 _
theorem tf_by_r (x k : Int) : 0 ≤ tf_by x k ∧ tf_by x k ≤ 255 := by
  unfold tf_by
  have h := tf_and255 (Int32.ofInt x >>> (Int32.ofInt k &&& 31))
  have h2 := BitVec.toInt_eq_toNat_of_lt (x := ((Int32.ofInt x >>> (Int32.ofInt k &&& 31)) &&& Int32.ofInt 255).toBitVec) (by omega)
  show 0 ≤ ((Int32.ofInt x >>> (Int32.ofInt k &&& 31)) &&& Int32.ofInt 255).toBitVec.toInt ∧ ((Int32.ofInt x >>> (Int32.ofInt k &&& 31)) &&& Int32.ofInt 255).toBitVec.toInt ≤ 255
  rw [h2, h]
  omega
theorem tf_us_nat (x : Int32) {k : Int} {n : Nat} (hk : ((Int32.ofInt k).toUInt32 &&& Int32.toUInt32 31).toNat = n) (hn : n < 32) : (tf_us x (Int32.ofInt k)).toBitVec.toNat = x.toBitVec.toNat / 2 ^ n := by
  show (x.toUInt32 >>> ((Int32.ofInt k).toUInt32 &&& Int32.toUInt32 31)).toNat = _
  rw [UInt32.toNat_shiftRight, hk, Nat.mod_eq_of_lt hn, Nat.shiftRight_eq_div_pow]
  rfl
theorem tf_ss_int (x : Int32) {k : Int} {n : Nat} (hs : ((Int32.ofInt k &&& 31).toBitVec.smod 32).toNat = n) : (x >>> (Int32.ofInt k &&& 31)).toInt = x.toInt / ((2 ^ n : Nat) : Int) := by
  rw [pk_shr x _ n hs, Int.shiftRight_eq_div_pow]
theorem tf_b32 (x : Int32) : (x.toBitVec.toNat : Int) = x.toInt ∨ (x.toBitVec.toNat : Int) = x.toInt + 4294967296 := by
  show (x.toBitVec.toNat : Int) = x.toBitVec.toInt ∨ (x.toBitVec.toNat : Int) = x.toBitVec.toInt + 4294967296
  rw [BitVec.toInt_eq_toNat_cond]
  by_cases h : 2 * x.toBitVec.toNat < 2 ^ 32
  · rw [if_pos h]; exact Or.inl rfl
  · rw [if_neg h]; right; omega
theorem tf_us_and (x : Int32) {k : Int} (hk : k = 0 ∨ k = 8 ∨ k = 16 ∨ k = 24) : tf_us x (Int32.ofInt k) &&& Int32.ofInt 255 = (x >>> (Int32.ofInt k &&& 31)) &&& Int32.ofInt 255 := by
  apply Int32.toBitVec_inj.mp
  apply BitVec.eq_of_toNat_eq
  rw [tf_and255, tf_and255]
  have hb := tf_b32 x
  have hc := tf_b32 (x >>> (Int32.ofInt k &&& 31))
  rcases hk with rfl | rfl | rfl | rfl
  · have h1 : (tf_us x (Int32.ofInt 0)).toBitVec.toNat = x.toBitVec.toNat / 1 := tf_us_nat x (k := 0) (n := 0) (by decide) (by decide)
    have h2 : (x >>> (Int32.ofInt 0 &&& 31)).toInt = x.toInt / 1 := tf_ss_int x (k := 0) (n := 0) (by decide)
    omega
  · have h1 : (tf_us x (Int32.ofInt 8)).toBitVec.toNat = x.toBitVec.toNat / 256 := tf_us_nat x (k := 8) (n := 8) (by decide) (by decide)
    have h2 : (x >>> (Int32.ofInt 8 &&& 31)).toInt = x.toInt / 256 := tf_ss_int x (k := 8) (n := 8) (by decide)
    omega
  · have h1 : (tf_us x (Int32.ofInt 16)).toBitVec.toNat = x.toBitVec.toNat / 65536 := tf_us_nat x (k := 16) (n := 16) (by decide) (by decide)
    have h2 : (x >>> (Int32.ofInt 16 &&& 31)).toInt = x.toInt / 65536 := tf_ss_int x (k := 16) (n := 16) (by decide)
    omega
  · have h1 : (tf_us x (Int32.ofInt 24)).toBitVec.toNat = x.toBitVec.toNat / 16777216 := tf_us_nat x (k := 24) (n := 24) (by decide) (by decide)
    have h2 : (x >>> (Int32.ofInt 24 &&& 31)).toInt = x.toInt / 16777216 := tf_ss_int x (k := 24) (n := 24) (by decide)
    omega
section TFY
variable {p : Program} {l : Launch} {e : Env} {R : Room} {s : State} {m : MethodId} {args : Array Value} {below : List Frame} {meth : Method} {c : Code} {H : Heap} {locs : List Loc} {cells slots : Nat} {Q : State → Prop}
variable {cc : ByteArray} {pc : Nat} {ls : Array Slot} {rest : List Value}
theorem tf_iand_bys (hexec : p.tables.exec = Jvm.exec) (hb : c.code = cc) {x k z : Int} (hk : k = 0 ∨ k = 8 ∨ k = 16 ∨ k = 24) (ez : Int32.ofInt z = Int32.ofInt x >>> (Int32.ofInt k &&& 31)) (hdg : decode cc pc = .ok (.iand, 1)) (kk : W p l e R s m args below meth c H locs cells slots Q (F0 m (pc + 1) ls (.int (Int32.ofInt (tf_by x k)) :: rest))) : W p l e R s m args below meth c H locs cells slots Q (F0 m pc ls (.int (Int32.ofInt 255) :: .int (Int32.ofInt z) :: rest)) := by
  refine lv_iand hexec hb hdg ?_
  rw [ez]
  unfold tf_by at kk
  rw [Int32.ofInt_toInt] at kk
  exact kk
theorem tf_iand_by (hexec : p.tables.exec = Jvm.exec) (hb : c.code = cc) {x k z : Int} (hk : k = 0 ∨ k = 8 ∨ k = 16 ∨ k = 24) (ez : Int32.ofInt z = tf_us (Int32.ofInt x) (Int32.ofInt k)) (hdg : decode cc pc = .ok (.iand, 1)) (kk : W p l e R s m args below meth c H locs cells slots Q (F0 m (pc + 1) ls (.int (Int32.ofInt (tf_by x k)) :: rest))) : W p l e R s m args below meth c H locs cells slots Q (F0 m pc ls (.int (Int32.ofInt 255) :: .int (Int32.ofInt z) :: rest)) := by
  refine lv_iand hexec hb hdg ?_
  rw [ez, tf_us_and _ hk]
  unfold tf_by at kk
  rw [Int32.ofInt_toInt] at kk
  exact kk
theorem tf_irem_x (hexec : p.tables.exec = Jvm.exec) (hb : c.code = cc) {a b : Int} (ha : tf_r a) (h0 : 0 ≤ a) (hb2 : tf_r b) (h1 : 0 < b) (hdg : decode cc pc = .ok (.irem, 1)) (k : ∀ z : Int, 0 ≤ z ∧ z < b → z = a % b → W p l e R s m args below meth c H locs cells slots Q (F0 m (pc + 1) ls (.int (Int32.ofInt z) :: rest))) : W p l e R s m args below meth c H locs cells slots Q (F0 m pc ls (.int (Int32.ofInt b) :: .int (Int32.ofInt a) :: rest)) :=
  tf_irem hexec hb ha h0 hb2 h1 hdg (k _ ⟨Int.emod_nonneg a (by omega), Int.emod_lt_of_pos a h1⟩ rfl)
end TFY

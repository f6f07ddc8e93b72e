def tf_iv : Option Value → Int
  | some (.int x) => x.toInt
  | _ => 0
def tf_cw (c : Cell) : Int → Int := fun j => if j < 0 then 0 else tf_iv (c.slots[j.toNat]?)
def tf_up (r : Int → Int) (i x : Int) : Int → Int := fun j => if j = i then x else r j
theorem tf_up_at {r : Int → Int} {i x : Int} : tf_up r i x i = x := if_pos rfl
theorem tf_up_ne {r : Int → Int} {i x j : Int} (h : j ≠ i) : tf_up r i x j = r j := if_neg h
def tf_stp (op ar k l : Int) (d : Int → Int) : Prop :=
  (0 ≤ op ∧ op ≤ 9 ∧ d (k + 1) = d k + 1) ∨ (20 ≤ op ∧ op ≤ 26 ∧ 2 ≤ d k ∧ d (k + 1) = d k - 1) ∨ (op = 27 ∧ 1 ≤ d k ∧ d (k + 1) = d k) ∨ (28 ≤ op ∧ op ≤ 29 ∧ 1 ≤ d k ∧ d (k + 1) = d k - 1 ∧ k < ar ∧ ar ≤ l ∧ d ar = d k)
def tf_sg (op ar : Int → Int) (f l : Int) : Prop := 0 ≤ f ∧ f ≤ l ∧ l ≤ 400 ∧ ∃ d : Int → Int, d f = 0 ∧ ∀ k, f ≤ k → k < l → 0 ≤ d k ∧ d k ≤ k ∧ tf_stp (op k) (ar k) k l d
theorem tf_sg_congr {op ar op' ar' : Int → Int} {f l : Int} (h : tf_sg op ar f l) (h1 : ∀ k, 0 ≤ k → k < 400 → op' k = op k) (h2 : ∀ k, 0 ≤ k → k < 400 → ar' k = ar k) : tf_sg op' ar' f l := by
  obtain ⟨a, b, c, d, e, q⟩ := h
  refine ⟨a, b, c, d, e, fun k k1 k2 => ?_⟩
  rw [h1 k (by omega) (by omega), h2 k (by omega) (by omega)]
  exact q k k1 k2
def tf_LW (r : Int → Int) (b : Int) : Prop := 0 ≤ r (b + 1) ∧ r (b + 1) ≤ 12 ∧ ∀ c, 0 ≤ c → c < r (b + 1) → tf_sg (fun k => r (b + 98 + 2 * k)) (fun k => r (b + 98 + 2 * k + 1)) (r (b + 2 + 8 * c + 3)) (r (b + 2 + 8 * c + 4)) ∧ tf_sg (fun k => r (b + 98 + 2 * k)) (fun k => r (b + 98 + 2 * k + 1)) (r (b + 2 + 8 * c + 5)) (r (b + 2 + 8 * c + 6))
theorem tf_LW_congr {r r' : Int → Int} {b : Int} (h : tf_LW r b) (e : ∀ j, b ≤ j → j < b + 900 → r' j = r j) : tf_LW r' b := by
  obtain ⟨h1, h2, h3⟩ := h
  have e1 := e (b + 1) (by omega) (by omega)
  refine ⟨by omega, by omega, fun c c0 c1 => ?_⟩
  rw [e1] at c1
  obtain ⟨q1, q2⟩ := h3 c c0 c1
  rw [e (b + 2 + 8 * c + 3) (by omega) (by omega), e (b + 2 + 8 * c + 4) (by omega) (by omega), e (b + 2 + 8 * c + 5) (by omega) (by omega), e (b + 2 + 8 * c + 6) (by omega) (by omega)]
  exact ⟨tf_sg_congr q1 (fun k _ _ => e _ (by omega) (by omega)) (fun k _ _ => e _ (by omega) (by omega)), tf_sg_congr q2 (fun k _ _ => e _ (by omega) (by omega)) (fun k _ _ => e _ (by omega) (by omega))⟩
def tf_wk (r : Int → Int) (w : Int) : Prop := (r (381 + 4 * w) = 2 → 0 ≤ r (381 + 4 * w + 1) ∧ r (381 + 4 * w + 1) ≤ 6) ∧ (r (381 + 4 * w) ≠ 2 → 0 ≤ r (381 + 4 * w + 1) ∧ r (381 + 4 * w + 1) ≤ 99) ∧ (r (381 + 4 * w) ≠ 0 → r (381 + 4 * w) ≠ 1 → r (381 + 4 * w) ≠ 2 → 0 ≤ r (381 + 4 * w + 2) ∧ r (381 + 4 * w + 2) ≤ 99)
def tf_RO (r : Int → Int) : Prop := (0 ≤ r 0 ∧ r 0 ≤ 6) ∧ (0 ≤ r 1 ∧ r 1 ≤ 6) ∧ (-1 ≤ r 2 ∧ r 2 ≤ 5) ∧ (0 ≤ r 3 ∧ r 3 ≤ 8) ∧ (0 ≤ r 4 ∧ r 4 ≤ 12) ∧ (∀ j, 5 ≤ j → j ≤ 10 → 0 ≤ r j ∧ r j ≤ 9999) ∧ (∀ j, 241 ≤ j → j ≤ 340 → 0 ≤ r j ∧ r j ≤ 3) ∧ (∀ j, 341 ≤ j → j ≤ 380 → 0 ≤ r j ∧ r j ≤ 999) ∧ (∀ w, 0 ≤ w → w < r 3 → tf_wk r w) ∧ ∀ i, 0 ≤ i → i < 6 → tf_LW r (430 + 900 * i)
theorem tf_RO_z {r : Int → Int} (h : ∀ j, r j = 0) : tf_RO r := by
  refine ⟨?_, ?_, ?_, ?_, ?_, fun j _ _ => ?_, fun j _ _ => ?_, fun j _ _ => ?_, fun w h1 h2 => ?_, fun i _ _ => ⟨?_, ?_, fun c h1 h2 => ?_⟩⟩
  · rw [h]; omega
  · rw [h]; omega
  · rw [h]; omega
  · rw [h]; omega
  · rw [h]; omega
  · rw [h]; omega
  · rw [h]; omega
  · rw [h]; omega
  · rw [h] at h2; omega
  · rw [h]; omega
  · rw [h]; omega
  · rw [h] at h2; omega
theorem tf_RO_u {r r' : Int → Int} (hr : tf_RO r) (e : ∀ j, 430 ≤ j → j < 5830 → r' j = r j) (h0 : 0 ≤ r' 0 ∧ r' 0 ≤ 6) (h1 : 0 ≤ r' 1 ∧ r' 1 ≤ 6) (h2 : -1 ≤ r' 2 ∧ r' 2 ≤ 5) (h3 : 0 ≤ r' 3 ∧ r' 3 ≤ 8) (h4 : 0 ≤ r' 4 ∧ r' 4 ≤ 12) (hl : ∀ j, 5 ≤ j → j ≤ 10 → 0 ≤ r' j ∧ r' j ≤ 9999) (h5 : ∀ j, 241 ≤ j → j ≤ 340 → 0 ≤ r' j ∧ r' j ≤ 3) (h6 : ∀ j, 341 ≤ j → j ≤ 380 → 0 ≤ r' j ∧ r' j ≤ 999) (h7 : ∀ w, 0 ≤ w → w < r' 3 → tf_wk r' w) : tf_RO r' :=
  ⟨h0, h1, h2, h3, h4, hl, h5, h6, h7, fun i i0 i1 => tf_LW_congr (hr.2.2.2.2.2.2.2.2.2 i i0 i1) (fun j j0 j1 => e j (by omega) (by omega))⟩
theorem tf_wk_congr {r r' : Int → Int} {w : Int} (h : tf_wk r w) (e : ∀ j, 381 + 4 * w ≤ j → j < 381 + 4 * w + 4 → r' j = r j) : tf_wk r' w := by
  unfold tf_wk at h ⊢
  rw [e _ (by omega) (by omega), e _ (by omega) (by omega), e _ (by omega) (by omega)]
  exact h
theorem tf_RO_any {r : Int → Int} {i x : Int} (hr : tf_RO r) (h1 : (5 ≤ i ∧ i ≤ 10 ∧ 0 ≤ x ∧ x ≤ 9999) ∨ (11 ≤ i ∧ i ≤ 240) ∨ (241 ≤ i ∧ i ≤ 340 ∧ 0 ≤ x ∧ x ≤ 3) ∨ (341 ≤ i ∧ i ≤ 380 ∧ 0 ≤ x ∧ x ≤ 999) ∨ (381 + 4 * r 3 ≤ i ∧ i ≤ 429) ∨ (413 ≤ i ∧ i ≤ 429) ∨ (i = 2 ∧ -1 ≤ x ∧ x ≤ 5) ∨ (i = 0 ∧ 0 ≤ x ∧ x ≤ 6) ∨ (i = 1 ∧ 0 ≤ x ∧ x ≤ 6) ∨ (i = 4 ∧ 0 ≤ x ∧ x ≤ 12)) : tf_RO (tf_up r i x) := by
  obtain ⟨q0, q1, q2, q3, q4, ql, q5, q6, q7, q8⟩ := id hr
  have ni : i ≠ 3 := by omega
  have e3 : tf_up r i x 3 = r 3 := tf_up_ne (by omega)
  refine tf_RO_u hr (fun j hj _ => tf_up_ne (by omega)) ?_ ?_ ?_ (by rw [e3]; exact q3) ?_ (fun j j0 j1 => ?_) (fun j j0 j1 => ?_) (fun j j0 j1 => ?_) (fun w w0 w1 => ?_)
  · by_cases h : (0 : Int) = i
    · subst h; rw [tf_up_at]; omega
    · rw [tf_up_ne h]; exact q0
  · by_cases h : (1 : Int) = i
    · subst h; rw [tf_up_at]; omega
    · rw [tf_up_ne h]; exact q1
  · by_cases h : (2 : Int) = i
    · subst h; rw [tf_up_at]; omega
    · rw [tf_up_ne h]; exact q2
  · by_cases h : (4 : Int) = i
    · subst h; rw [tf_up_at]; omega
    · rw [tf_up_ne h]; exact q4
  · by_cases h : j = i
    · subst h; rw [tf_up_at]; omega
    · rw [tf_up_ne h]; exact ql j j0 j1
  · by_cases h : j = i
    · subst h; rw [tf_up_at]; omega
    · rw [tf_up_ne h]; exact q5 j j0 j1
  · by_cases h : j = i
    · subst h; rw [tf_up_at]; omega
    · rw [tf_up_ne h]; exact q6 j j0 j1
  · rw [e3] at w1
    exact tf_wk_congr (q7 w w0 w1) (fun j j0 j1 => tf_up_ne (by omega))
theorem tf_RO_n3 {r : Int → Int} {x : Int} (hr : tf_RO r) (h0 : 0 ≤ x ∧ x ≤ 8) (hw : ∀ w, 0 ≤ w → w < x → tf_wk r w) : tf_RO (tf_up r 3 x) := by
  obtain ⟨q0, q1, q2, q3, q4, ql, q5, q6, q7, q8⟩ := id hr
  refine tf_RO_u hr (fun j hj _ => tf_up_ne (by omega)) ?_ ?_ ?_ (by rw [tf_up_at]; exact h0) ?_ (fun j j0 j1 => ?_) (fun j j0 j1 => ?_) (fun j j0 j1 => ?_) (fun w w0 w1 => ?_)
  · rw [tf_up_ne (by omega)]; exact q0
  · rw [tf_up_ne (by omega)]; exact q1
  · rw [tf_up_ne (by omega)]; exact q2
  · rw [tf_up_ne (by omega)]; exact q4
  · rw [tf_up_ne (by omega)]; exact ql j j0 j1
  · rw [tf_up_ne (by omega)]; exact q5 j j0 j1
  · rw [tf_up_ne (by omega)]; exact q6 j j0 j1
  · rw [tf_up_at] at w1
    exact tf_wk_congr (hw w w0 w1) (fun j j0 j1 => tf_up_ne (by omega))
theorem tf_RO_work {r : Int → Int} {n s a b c : Int} (hr : tf_RO r) (hn : r 3 = n) (h8 : n < 8) (hs : s = 2 → 0 ≤ a ∧ a ≤ 6) (hs2 : s ≠ 2 → 0 ≤ a ∧ a ≤ 99) (hs3 : s ≠ 0 → s ≠ 1 → s ≠ 2 → 0 ≤ b ∧ b ≤ 99) : tf_RO (tf_up (tf_up (tf_up (tf_up (tf_up r (381 + 4 * n) s) (381 + 4 * n + 1) a) (381 + 4 * n + 2) b) (381 + 4 * n + 3) c) 3 (n + 1)) := by
  have q3 := hr.2.2.2.1
  have a1 := tf_RO_any (i := 381 + 4 * n) (x := s) hr (by omega)
  have a2 := tf_RO_any (i := 381 + 4 * n + 1) (x := a) a1 (by rw [tf_up_ne (by omega)]; omega)
  have a3 := tf_RO_any (i := 381 + 4 * n + 2) (x := b) a2 (by rw [tf_up_ne (by omega), tf_up_ne (by omega)]; omega)
  have a4 := tf_RO_any (i := 381 + 4 * n + 3) (x := c) a3 (by rw [tf_up_ne (by omega), tf_up_ne (by omega), tf_up_ne (by omega)]; omega)
  refine tf_RO_n3 a4 (by omega) (fun w w0 w1 => ?_)
  by_cases h : w = n
  · subst h
    unfold tf_wk
    have e1 : tf_up (tf_up (tf_up (tf_up r (381 + 4 * w) s) (381 + 4 * w + 1) a) (381 + 4 * w + 2) b) (381 + 4 * w + 3) c (381 + 4 * w) = s := by
      rw [tf_up_ne (by omega), tf_up_ne (by omega), tf_up_ne (by omega), tf_up_at]
    have e2 : tf_up (tf_up (tf_up (tf_up r (381 + 4 * w) s) (381 + 4 * w + 1) a) (381 + 4 * w + 2) b) (381 + 4 * w + 3) c (381 + 4 * w + 1) = a := by
      rw [tf_up_ne (by omega), tf_up_ne (by omega), tf_up_at]
    have e3 : tf_up (tf_up (tf_up (tf_up r (381 + 4 * w) s) (381 + 4 * w + 1) a) (381 + 4 * w + 2) b) (381 + 4 * w + 3) c (381 + 4 * w + 2) = b := by
      rw [tf_up_ne (by omega), tf_up_at]
    rw [e1, e2, e3]
    exact ⟨hs, hs2, hs3⟩
  · have e4 : tf_up (tf_up (tf_up (tf_up r (381 + 4 * n) s) (381 + 4 * n + 1) a) (381 + 4 * n + 2) b) (381 + 4 * n + 3) c 3 = n := by
      rw [tf_up_ne (by omega), tf_up_ne (by omega), tf_up_ne (by omega), tf_up_ne (by omega)]; exact hn
    exact a4.2.2.2.2.2.2.2.2.1 w w0 (by rw [e4]; omega)
theorem tf_RO_out {r r' : Int → Int} {w : Int} (hr : tf_RO r) (h0 : 0 ≤ w) (h1 : w < r 3) (e : ∀ j, r' j = if 381 + 4 * w ≤ j ∧ j < 409 then r (j + 4) else r j) : tf_RO (tf_up r' 3 (r 3 - 1)) := by
  obtain ⟨q0, q1, q2, q3, q4, ql, q5, q6, q7, q8⟩ := id hr
  have en : ∀ j, ¬ (381 + 4 * w ≤ j ∧ j < 409) → r' j = r j := fun j h => by rw [e, if_neg h]
  refine tf_RO_u hr (fun j hj _ => by rw [tf_up_ne (by omega)]; exact en j (by omega)) ?_ ?_ ?_ (by rw [tf_up_at]; omega) ?_ (fun j j0 j1 => ?_) (fun j j0 j1 => ?_) (fun j j0 j1 => ?_) (fun v v0 v1 => ?_)
  · rw [tf_up_ne (by omega), en _ (by omega)]; exact q0
  · rw [tf_up_ne (by omega), en _ (by omega)]; exact q1
  · rw [tf_up_ne (by omega), en _ (by omega)]; exact q2
  · rw [tf_up_ne (by omega), en _ (by omega)]; exact q4
  · rw [tf_up_ne (by omega), en _ (by omega)]; exact ql j j0 j1
  · rw [tf_up_ne (by omega), en _ (by omega)]; exact q5 j j0 j1
  · rw [tf_up_ne (by omega), en _ (by omega)]; exact q6 j j0 j1
  · rw [tf_up_at] at v1
    by_cases h : v < w
    · exact tf_wk_congr (q7 v v0 (by omega)) (fun j j0 j1 => by rw [tf_up_ne (by omega)]; exact en j (by omega))
    · have q := q7 (v + 1) (by omega) (by omega)
      unfold tf_wk at q ⊢
      have f : ∀ j, 0 ≤ j → j < 4 → tf_up r' 3 (r 3 - 1) (381 + 4 * v + j) = r (381 + 4 * (v + 1) + j) := fun j j0 j1 => by
        rw [tf_up_ne (by omega), e, if_pos (by omega)]; congr 1; omega
      have f0 := f 0 (by omega) (by omega)
      rw [Int.add_zero, Int.add_zero] at f0
      rw [f0, f 1 (by omega) (by omega), f 2 (by omega) (by omega)]
      exact q
theorem tf_RO_congr {r r' : Int → Int} (hr : tf_RO r) (e : ∀ j, 0 ≤ j → j < 5830 → r' j = r j) : tf_RO r' := by
  obtain ⟨q0, q1, q2, q3, q4, ql, q5, q6, q7, q8⟩ := id hr
  have e3 := e 3 (by omega) (by omega)
  refine tf_RO_u hr (fun j h1 h2 => e j (by omega) h2) (by rw [e _ (by omega) (by omega)]; exact q0) (by rw [e _ (by omega) (by omega)]; exact q1) (by rw [e _ (by omega) (by omega)]; exact q2) (by rw [e3]; exact q3) (by rw [e _ (by omega) (by omega)]; exact q4) (fun j j0 j1 => by rw [e _ (by omega) (by omega)]; exact ql j j0 j1) (fun j j0 j1 => by rw [e _ (by omega) (by omega)]; exact q5 j j0 j1) (fun j j0 j1 => by rw [e _ (by omega) (by omega)]; exact q6 j j0 j1) (fun w w0 w1 => ?_)
  rw [e3] at w1
  exact tf_wk_congr (q7 w w0 w1) (fun j j0 j1 => e j (by omega) (by omega))
def tf_ok (pid : Nat) (w : Int → Int) : Prop := match pid with
  | 1 => tf_RO w
  | 2 => tf_RO w ∧ tf_RO (fun j => w (5830 + j))
  | _ => True
theorem tf_okz {pid : Nat} {w : Int → Int} (h : ∀ j, w j = 0) : tf_ok pid w := by
  unfold tf_ok
  split
  · exact tf_RO_z h
  · exact ⟨tf_RO_z h, tf_RO_z (fun j => h _)⟩
  · trivial

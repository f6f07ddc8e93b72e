def tf_kl (r r1 : Int → Int) : Prop := ∀ j, j = 2 ∨ (5 ≤ j ∧ j ≤ 10) ∨ (341 ≤ j ∧ j ≤ 380) → r1 j = r j
theorem tf_kl_rf {r : Int → Int} : tf_kl r r := fun _ _ => rfl
theorem tf_kl_up1 {r R : Int → Int} {x : Int} (h : tf_kp r R) : tf_kl r (tf_up R 1 x) := fun j hj => by
  rw [tf_up_ne (by omega)]; exact h j (by omega)
theorem tf_RL_kl {gl gh gy gw rr rr1 : Int → Int} (h : tf_RL gl gh gy gw rr) (k : tf_kl rr rr1) : tf_RL gl gh gy gw rr1 := by
  obtain ⟨h1, h2, h3⟩ := h
  refine ⟨fun i i0 i1 => ?_, fun i i0 i1 => ?_, h3⟩
  · rw [k _ (by omega), k _ (by omega)]; exact h1 i i0 i1
  · rw [k _ (by omega)]; exact h2 i i0 i1
def tf_LM (lm fo : Int) (r : Int → Int) : Prop := lm = r 1 ∧ fo = r 2
theorem tf_LM_to {lm fo : Int} {r r1 : Int → Int} (h : tf_LM lm fo r) (e1 : r1 1 = r 1) (e2 : r1 2 = r 2) : tf_LM lm fo r1 := ⟨h.1.trans e1.symm, h.2.trans e2.symm⟩
theorem tf_LM_q {lm fo : Int} {r r1 : Int → Int} (h : tf_LM lm fo r) (k : ∀ j, 0 ≤ j → j < 5830 → r1 j = r j) : tf_LM lm fo r1 := tf_LM_to h (k 1 (by omega) (by omega)) (k 2 (by omega) (by omega))
theorem tf_LM_kp {lm fo : Int} {r r1 : Int → Int} (h : tf_LM lm fo r) (k : tf_kp r r1) : tf_LM lm fo r1 := tf_LM_to h (k 1 (by omega)) (k 2 (by omega))
theorem tf_LM_ln {lm fo x1 x2 x3 z : Int} {r r1 : Int → Int} (h : tf_LM lm fo r) (hm : tf_LNM x1 x2 x3 z r r1) : tf_LM lm fo r1 := by
  rcases hm with ⟨a, -, b⟩ | ⟨-, -, b⟩
  · rw [b]; exact tf_LM_to h (tf_up_ne (by omega)) (tf_up_ne (by omega))
  · rw [b]; exact h
theorem tf_LM_hm {lm fo x1 x2 x3 z : Int} {r r1 : Int → Int} (h : tf_LM lm fo r) (hm : tf_HM x1 x2 x3 z r r1) : tf_LM lm fo r1 := by
  rcases hm with ⟨a, -, b⟩ | ⟨-, -, b⟩
  · rw [b]; exact tf_LM_to h (tf_up_ne (by omega)) (tf_up_ne (by omega))
  · rw [b]; exact h
theorem tf_LM_rm {lm fo t z : Int} {tp r r1 : Int → Int} (h : tf_LM lm fo r) (hm : tf_RM t z tp r r1) : tf_LM lm fo r1 := by
  rcases hm with ⟨-, -, b⟩ | ⟨-, -, b⟩
  · rw [b]; exact h
  · exact tf_LM_to h (by rw [b 1, if_neg (by omega)]) (by rw [b 2, if_neg (by omega)])
def tf_LR (lm lm1 fp fp1 z t0 : Int) (tp ss pp : Int → Int) (mm : Int) : Prop := (lm = 6 ∧ z = -5 ∧ fp1 = fp ∧ lm1 = lm) ∨ (lm < 6 ∧ tf_TOK tp t0 ss pp mm ∧ ((z = lm ∧ lm1 = lm + 1 ∧ tf_FIN ss pp mm 1 fp1) ∨ (z = -6 ∧ lm1 = lm ∧ tf_FIN ss pp mm 0 fp1)))
theorem tf_LR_u {lm lm1 lm2 fp fp1 fp2 z z2 t mm : Int} {tp tq ss pp : Int → Int} (h1 : tf_LR lm lm1 fp fp1 z t tp ss pp mm) (h2 : tf_LR lm lm2 fp fp2 z2 t tq ss pp mm) : z = z2 ∧ lm1 = lm2 ∧ fp1 = fp2 := by
  rcases h1 with ⟨a1, a2, a3, a4⟩ | ⟨a1, -, ⟨a2, a3, a4⟩ | ⟨a2, a3, a4⟩⟩
  · rcases h2 with ⟨b1, b2, b3, b4⟩ | ⟨b1, -⟩
    · omega
    · omega
  · rcases h2 with ⟨b1, -⟩ | ⟨b1, -, ⟨b2, b3, b4⟩ | ⟨b2, b3, b4⟩⟩
    · omega
    · have := tf_FIN_u a4 b4; omega
    · have := (tf_FIN_u a4 b4).1; omega
  · rcases h2 with ⟨b1, -⟩ | ⟨b1, -, ⟨b2, b3, b4⟩ | ⟨b2, b3, b4⟩⟩
    · omega
    · have := (tf_FIN_u a4 b4).1; omega
    · have := tf_FIN_u a4 b4; omega
theorem tf_law_tok {lm lm1 fo fp fp1 z t mm : Int} {tp tq ss pp rr : Int → Int} (hT : tp = tq) (hLM : tf_LM lm fo rr) (h : tf_LR lm lm1 fp fp1 z t tp ss pp mm) : rr 1 < 6 → tf_TOK tq t ss pp mm := fun h6 => by
  have := hLM.1
  rcases h with ⟨a, -⟩ | ⟨-, a, -⟩
  · omega
  · rw [← hT]; exact a
theorem tf_law_eq {lm lm1 fo fp fp1 gx1 z z2 t mm : Int} {tp tq ss pp rr rr1 : Int → Int} (hLM : tf_LM lm fo rr) (hc : tf_LR lm lm1 fp fp1 z t tp ss pp mm) (hm : tf_LR (rr 1) (rr1 1) fp gx1 z2 t tq ss pp mm) (hk : tf_kl rr rr1) : z = z2 ∧ fp1 = gx1 ∧ tf_LM lm1 fo rr1 := by
  obtain ⟨e1, e2⟩ := hLM
  subst e1
  obtain ⟨a, b, c⟩ := tf_LR_u hc hm
  exact ⟨a, c, b, e2.trans (hk 2 (Or.inl rfl)).symm⟩
def tf_FC (lm fo fo1 x z : Int) : Prop := (-1 ≤ x ∧ x < lm ∧ z = fo ∧ fo1 = x) ∨ ((x < -1 ∨ lm ≤ x) ∧ z = -2 ∧ fo1 = fo)
def tf_FM (x z : Int) (r r1 : Int → Int) : Prop := (-1 ≤ x ∧ x < r 1 ∧ z = r 2 ∧ r1 = tf_up r 2 x) ∨ ((x < -1 ∨ r 1 ≤ x) ∧ z = -2 ∧ r1 = r)
theorem tf_force_eq {lm fo fo1 x z z2 : Int} {gl gh gy gw rr rr1 : Int → Int} (hRL : tf_RL gl gh gy gw rr) (hLM : tf_LM lm fo rr) (hc : tf_FC lm fo fo1 x z) (hm : tf_FM x z2 rr rr1) : z = z2 ∧ tf_LM lm fo1 rr1 ∧ tf_RL gl gh gy gw rr1 := by
  obtain ⟨e1, e2⟩ := hLM
  rcases hc with ⟨a1, a2, a3, a4⟩ | ⟨a1, a3, a4⟩
  · rcases hm with ⟨b1, b2, b3, b4⟩ | ⟨b1, -⟩
    · refine ⟨by omega, ?_, ?_⟩
      · rw [b4]
        exact ⟨by rw [tf_up_ne (by omega)]; exact e1, by rw [tf_up_at]; exact a4⟩
      · obtain ⟨h1, h2, h3⟩ := hRL
        rw [b4]
        refine ⟨fun i i0 i1 => ?_, fun i i0 i1 => ?_, h3⟩
        · rw [tf_up_ne (by omega), tf_up_ne (by omega)]; exact h1 i i0 i1
        · rw [tf_up_ne (by omega)]; exact h2 i i0 i1
    · omega
  · rcases hm with ⟨b1, b2, -⟩ | ⟨b1, b3, b4⟩
    · omega
    · rw [b4]
      exact ⟨by omega, ⟨e1, by omega⟩, hRL⟩

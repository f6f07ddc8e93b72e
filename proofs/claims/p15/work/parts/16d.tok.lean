def tf_spl (tp : Int → Int) (n p : Int) (i w : Nat) : Prop := p + w ≤ n ∧ (p + w < n → ¬ (97 ≤ tp (p + w) ∧ tp (p + w) ≤ 122)) ∧ ∀ j : Int, 0 ≤ j → j < w → tp (p + j) = ((tf_sb.getD i []).getD j.toNat 0).toInt
theorem tf_sb_let : ∀ (i : Fin 14) (j : Fin 6), j.val < tf_sl.getD i.val 0 → 97 ≤ ((tf_sb.getD i.val []).getD j.val 0).toInt ∧ ((tf_sb.getD i.val []).getD j.val 0).toInt ≤ 122 := by decide
theorem tf_sl_b : ∀ i : Fin 14, 1 ≤ tf_sl.getD i.val 0 ∧ tf_sl.getD i.val 0 ≤ 6 := by decide
theorem tf_spl_rl {tp : Int → Int} {n p : Int} {i w : Nat} (hi : i < 14) (hw : tf_sl.getD i 0 = w) (h : tf_spl tp n p i w) : tf_rl tp n p w := by
  have hb := tf_sl_b ⟨i, hi⟩
  dsimp only at hb
  rw [hw] at hb
  refine ⟨hb.1, h.1, fun j j0 j1 => ?_, h.2.1⟩
  have hl := tf_sb_let ⟨i, hi⟩ ⟨j.toNat, by omega⟩ (by dsimp only; rw [hw]; omega)
  dsimp only at hl
  rw [h.2.2 j j0 j1]; exact hl
theorem tf_rl_ex {tp : Int → Int} {n p : Int} (hp : p < n) (hl : 97 ≤ tp p ∧ tp p ≤ 122) : ∃ m : Nat, tf_rl tp n p m := by
  have key : ∀ d : Nat, ∀ k : Nat, 1 ≤ k → p + k + d = n → (∀ i : Int, 0 ≤ i → i < k → 97 ≤ tp (p + i) ∧ tp (p + i) ≤ 122) → ∃ m : Nat, tf_rl tp n p m := by
    intro d
    induction d with
    | zero => exact fun k k1 e h => ⟨k, k1, by omega, h, fun q => by omega⟩
    | succ d ih =>
      intro k k1 e h
      by_cases c : 97 ≤ tp (p + k) ∧ tp (p + k) ≤ 122
      · refine ih (k + 1) (by omega) (by omega) (fun i i0 i1 => ?_)
        by_cases q : i = k
        · rw [q]; exact c
        · exact h i i0 (by omega)
      · exact ⟨k, k1, by omega, h, fun _ => c⟩
  refine key (n - p - 1).toNat 1 (Nat.le_refl _) (by omega) (fun i i0 i1 => ?_)
  rw [show p + i = p by omega]; exact hl
theorem tf_spv_0 {tp : Int → Int} {n p : Int} (h : tf_spl tp n p 0 5) : tf_bv tp p 5 = 18523243 := by
  have e0 : tp (p + 0) = 113 := (h.2.2 0 (by omega) (by omega)).trans (by decide)
  have e1 : tp (p + 1) = 117 := (h.2.2 1 (by omega) (by omega)).trans (by decide)
  have e2 : tp (p + 2) = 105 := (h.2.2 2 (by omega) (by omega)).trans (by decide)
  have e3 : tp (p + 3) = 99 := (h.2.2 3 (by omega) (by omega)).trans (by decide)
  have e4 : tp (p + 4) = 107 := (h.2.2 4 (by omega) (by omega)).trans (by decide)
  show ((((((((((0) * 32 + tp (p + (((0 : Nat)) : Int)) - 96)) * 32 + tp (p + (((1 : Nat)) : Int)) - 96)) * 32 + tp (p + (((2 : Nat)) : Int)) - 96)) * 32 + tp (p + (((3 : Nat)) : Int)) - 96)) * 32 + tp (p + (((4 : Nat)) : Int)) - 96) = 18523243
  have f0 : tp (p + ((0 : Nat) : Int)) = 113 := e0; have f1 : tp (p + ((1 : Nat) : Int)) = 117 := e1; have f2 : tp (p + ((2 : Nat) : Int)) = 105 := e2; have f3 : tp (p + ((3 : Nat) : Int)) = 99 := e3; have f4 : tp (p + ((4 : Nat) : Int)) = 107 := e4
  omega
theorem tf_vsp_0 {tp : Int → Int} {n p : Int} {m : Nat} (hr : tf_rl tp n p m) (h : tf_bv tp p m = 18523243) : tf_spl tp n p 0 5 := by
  have l0 := hr.2.2.1
  obtain ⟨m0, a0, b0, c0⟩ := tf_bv_inv (V := 578851) (d := 11) l0 (by omega) (by omega) (by omega) (by omega)
  have l1 : ∀ i : Int, 0 ≤ i → i < m0 → 97 ≤ tp (p + i) ∧ tp (p + i) ≤ 122 := fun i i0 i1 => l0 i i0 (by omega)
  obtain ⟨m1, a1, b1, c1⟩ := tf_bv_inv (V := 18089) (d := 3) l1 (by omega) (by omega) (by omega) (by omega)
  have l2 : ∀ i : Int, 0 ≤ i → i < m1 → 97 ≤ tp (p + i) ∧ tp (p + i) ≤ 122 := fun i i0 i1 => l1 i i0 (by omega)
  obtain ⟨m2, a2, b2, c2⟩ := tf_bv_inv (V := 565) (d := 9) l2 (by omega) (by omega) (by omega) (by omega)
  have l3 : ∀ i : Int, 0 ≤ i → i < m2 → 97 ≤ tp (p + i) ∧ tp (p + i) ≤ 122 := fun i i0 i1 => l2 i i0 (by omega)
  obtain ⟨m3, a3, b3, c3⟩ := tf_bv_inv (V := 17) (d := 21) l3 (by omega) (by omega) (by omega) (by omega)
  have l4 : ∀ i : Int, 0 ≤ i → i < m3 → 97 ≤ tp (p + i) ∧ tp (p + i) ≤ 122 := fun i i0 i1 => l3 i i0 (by omega)
  obtain ⟨m4, a4, b4, c4⟩ := tf_bv_inv (V := 0) (d := 17) l4 (by omega) (by omega) (by omega) (by omega)
  have l5 : ∀ i : Int, 0 ≤ i → i < m4 → 97 ≤ tp (p + i) ∧ tp (p + i) ≤ 122 := fun i i0 i1 => l4 i i0 (by omega)
  have z := tf_bv_0 l5 c4
  have em : m = 5 := by omega
  subst em
  refine ⟨hr.2.1, hr.2.2.2, fun j j0 j1 => ?_⟩
  have y0 : m0 = 4 := by omega
  have y1 : m1 = 3 := by omega
  have y2 : m2 = 2 := by omega
  have y3 : m3 = 1 := by omega
  have y4 : m4 = 0 := by omega
  rw [y0] at b0; rw [y1] at b1; rw [y2] at b2; rw [y3] at b3; rw [y4] at b4
  rcases (show j = 0 ∨ j = 1 ∨ j = 2 ∨ j = 3 ∨ j = 4 by omega) with rfl | rfl | rfl | rfl | rfl
  · exact (show tp (p + ((0 : Nat) : Int)) = 113 by omega).trans (by decide)
  · exact (show tp (p + ((1 : Nat) : Int)) = 117 by omega).trans (by decide)
  · exact (show tp (p + ((2 : Nat) : Int)) = 105 by omega).trans (by decide)
  · exact (show tp (p + ((3 : Nat) : Int)) = 99 by omega).trans (by decide)
  · exact (show tp (p + ((4 : Nat) : Int)) = 107 by omega).trans (by decide)
theorem tf_spv_1 {tp : Int → Int} {n p : Int} (h : tf_spl tp n p 1 2) : tf_bv tp p 2 = 294 := by
  have e0 : tp (p + 0) = 105 := (h.2.2 0 (by omega) (by omega)).trans (by decide)
  have e1 : tp (p + 1) = 102 := (h.2.2 1 (by omega) (by omega)).trans (by decide)
  show ((((0) * 32 + tp (p + (((0 : Nat)) : Int)) - 96)) * 32 + tp (p + (((1 : Nat)) : Int)) - 96) = 294
  have f0 : tp (p + ((0 : Nat) : Int)) = 105 := e0; have f1 : tp (p + ((1 : Nat) : Int)) = 102 := e1
  omega
theorem tf_vsp_1 {tp : Int → Int} {n p : Int} {m : Nat} (hr : tf_rl tp n p m) (h : tf_bv tp p m = 294) : tf_spl tp n p 1 2 := by
  have l0 := hr.2.2.1
  obtain ⟨m0, a0, b0, c0⟩ := tf_bv_inv (V := 9) (d := 6) l0 (by omega) (by omega) (by omega) (by omega)
  have l1 : ∀ i : Int, 0 ≤ i → i < m0 → 97 ≤ tp (p + i) ∧ tp (p + i) ≤ 122 := fun i i0 i1 => l0 i i0 (by omega)
  obtain ⟨m1, a1, b1, c1⟩ := tf_bv_inv (V := 0) (d := 9) l1 (by omega) (by omega) (by omega) (by omega)
  have l2 : ∀ i : Int, 0 ≤ i → i < m1 → 97 ≤ tp (p + i) ∧ tp (p + i) ≤ 122 := fun i i0 i1 => l1 i i0 (by omega)
  have z := tf_bv_0 l2 c1
  have em : m = 2 := by omega
  subst em
  refine ⟨hr.2.1, hr.2.2.2, fun j j0 j1 => ?_⟩
  have y0 : m0 = 1 := by omega
  have y1 : m1 = 0 := by omega
  rw [y0] at b0; rw [y1] at b1
  rcases (show j = 0 ∨ j = 1 by omega) with rfl | rfl
  · exact (show tp (p + ((0 : Nat) : Int)) = 105 by omega).trans (by decide)
  · exact (show tp (p + ((1 : Nat) : Int)) = 102 by omega).trans (by decide)
theorem tf_spv_2 {tp : Int → Int} {n p : Int} (h : tf_spl tp n p 2 2) : tf_bv tp p 2 = 498 := by
  have e0 : tp (p + 0) = 111 := (h.2.2 0 (by omega) (by omega)).trans (by decide)
  have e1 : tp (p + 1) = 114 := (h.2.2 1 (by omega) (by omega)).trans (by decide)
  show ((((0) * 32 + tp (p + (((0 : Nat)) : Int)) - 96)) * 32 + tp (p + (((1 : Nat)) : Int)) - 96) = 498
  have f0 : tp (p + ((0 : Nat) : Int)) = 111 := e0; have f1 : tp (p + ((1 : Nat) : Int)) = 114 := e1
  omega
theorem tf_vsp_2 {tp : Int → Int} {n p : Int} {m : Nat} (hr : tf_rl tp n p m) (h : tf_bv tp p m = 498) : tf_spl tp n p 2 2 := by
  have l0 := hr.2.2.1
  obtain ⟨m0, a0, b0, c0⟩ := tf_bv_inv (V := 15) (d := 18) l0 (by omega) (by omega) (by omega) (by omega)
  have l1 : ∀ i : Int, 0 ≤ i → i < m0 → 97 ≤ tp (p + i) ∧ tp (p + i) ≤ 122 := fun i i0 i1 => l0 i i0 (by omega)
  obtain ⟨m1, a1, b1, c1⟩ := tf_bv_inv (V := 0) (d := 15) l1 (by omega) (by omega) (by omega) (by omega)
  have l2 : ∀ i : Int, 0 ≤ i → i < m1 → 97 ≤ tp (p + i) ∧ tp (p + i) ≤ 122 := fun i i0 i1 => l1 i i0 (by omega)
  have z := tf_bv_0 l2 c1
  have em : m = 2 := by omega
  subst em
  refine ⟨hr.2.1, hr.2.2.2, fun j j0 j1 => ?_⟩
  have y0 : m0 = 1 := by omega
  have y1 : m1 = 0 := by omega
  rw [y0] at b0; rw [y1] at b1
  rcases (show j = 0 ∨ j = 1 by omega) with rfl | rfl
  · exact (show tp (p + ((0 : Nat) : Int)) = 111 by omega).trans (by decide)
  · exact (show tp (p + ((1 : Nat) : Int)) = 114 by omega).trans (by decide)
theorem tf_spv_3 {tp : Int → Int} {n p : Int} (h : tf_spl tp n p 3 3) : tf_bv tp p 3 = 1476 := by
  have e0 : tp (p + 0) = 97 := (h.2.2 0 (by omega) (by omega)).trans (by decide)
  have e1 : tp (p + 1) = 110 := (h.2.2 1 (by omega) (by omega)).trans (by decide)
  have e2 : tp (p + 2) = 100 := (h.2.2 2 (by omega) (by omega)).trans (by decide)
  show ((((((0) * 32 + tp (p + (((0 : Nat)) : Int)) - 96)) * 32 + tp (p + (((1 : Nat)) : Int)) - 96)) * 32 + tp (p + (((2 : Nat)) : Int)) - 96) = 1476
  have f0 : tp (p + ((0 : Nat) : Int)) = 97 := e0; have f1 : tp (p + ((1 : Nat) : Int)) = 110 := e1; have f2 : tp (p + ((2 : Nat) : Int)) = 100 := e2
  omega
theorem tf_vsp_3 {tp : Int → Int} {n p : Int} {m : Nat} (hr : tf_rl tp n p m) (h : tf_bv tp p m = 1476) : tf_spl tp n p 3 3 := by
  have l0 := hr.2.2.1
  obtain ⟨m0, a0, b0, c0⟩ := tf_bv_inv (V := 46) (d := 4) l0 (by omega) (by omega) (by omega) (by omega)
  have l1 : ∀ i : Int, 0 ≤ i → i < m0 → 97 ≤ tp (p + i) ∧ tp (p + i) ≤ 122 := fun i i0 i1 => l0 i i0 (by omega)
  obtain ⟨m1, a1, b1, c1⟩ := tf_bv_inv (V := 1) (d := 14) l1 (by omega) (by omega) (by omega) (by omega)
  have l2 : ∀ i : Int, 0 ≤ i → i < m1 → 97 ≤ tp (p + i) ∧ tp (p + i) ≤ 122 := fun i i0 i1 => l1 i i0 (by omega)
  obtain ⟨m2, a2, b2, c2⟩ := tf_bv_inv (V := 0) (d := 1) l2 (by omega) (by omega) (by omega) (by omega)
  have l3 : ∀ i : Int, 0 ≤ i → i < m2 → 97 ≤ tp (p + i) ∧ tp (p + i) ≤ 122 := fun i i0 i1 => l2 i i0 (by omega)
  have z := tf_bv_0 l3 c2
  have em : m = 3 := by omega
  subst em
  refine ⟨hr.2.1, hr.2.2.2, fun j j0 j1 => ?_⟩
  have y0 : m0 = 2 := by omega
  have y1 : m1 = 1 := by omega
  have y2 : m2 = 0 := by omega
  rw [y0] at b0; rw [y1] at b1; rw [y2] at b2
  rcases (show j = 0 ∨ j = 1 ∨ j = 2 by omega) with rfl | rfl | rfl
  · exact (show tp (p + ((0 : Nat) : Int)) = 97 by omega).trans (by decide)
  · exact (show tp (p + ((1 : Nat) : Int)) = 110 by omega).trans (by decide)
  · exact (show tp (p + ((2 : Nat) : Int)) = 100 by omega).trans (by decide)
theorem tf_spv_4 {tp : Int → Int} {n p : Int} (h : tf_spl tp n p 4 3) : tf_bv tp p 3 = 14836 := by
  have e0 : tp (p + 0) = 110 := (h.2.2 0 (by omega) (by omega)).trans (by decide)
  have e1 : tp (p + 1) = 111 := (h.2.2 1 (by omega) (by omega)).trans (by decide)
  have e2 : tp (p + 2) = 116 := (h.2.2 2 (by omega) (by omega)).trans (by decide)
  show ((((((0) * 32 + tp (p + (((0 : Nat)) : Int)) - 96)) * 32 + tp (p + (((1 : Nat)) : Int)) - 96)) * 32 + tp (p + (((2 : Nat)) : Int)) - 96) = 14836
  have f0 : tp (p + ((0 : Nat) : Int)) = 110 := e0; have f1 : tp (p + ((1 : Nat) : Int)) = 111 := e1; have f2 : tp (p + ((2 : Nat) : Int)) = 116 := e2
  omega
theorem tf_vsp_4 {tp : Int → Int} {n p : Int} {m : Nat} (hr : tf_rl tp n p m) (h : tf_bv tp p m = 14836) : tf_spl tp n p 4 3 := by
  have l0 := hr.2.2.1
  obtain ⟨m0, a0, b0, c0⟩ := tf_bv_inv (V := 463) (d := 20) l0 (by omega) (by omega) (by omega) (by omega)
  have l1 : ∀ i : Int, 0 ≤ i → i < m0 → 97 ≤ tp (p + i) ∧ tp (p + i) ≤ 122 := fun i i0 i1 => l0 i i0 (by omega)
  obtain ⟨m1, a1, b1, c1⟩ := tf_bv_inv (V := 14) (d := 15) l1 (by omega) (by omega) (by omega) (by omega)
  have l2 : ∀ i : Int, 0 ≤ i → i < m1 → 97 ≤ tp (p + i) ∧ tp (p + i) ≤ 122 := fun i i0 i1 => l1 i i0 (by omega)
  obtain ⟨m2, a2, b2, c2⟩ := tf_bv_inv (V := 0) (d := 14) l2 (by omega) (by omega) (by omega) (by omega)
  have l3 : ∀ i : Int, 0 ≤ i → i < m2 → 97 ≤ tp (p + i) ∧ tp (p + i) ≤ 122 := fun i i0 i1 => l2 i i0 (by omega)
  have z := tf_bv_0 l3 c2
  have em : m = 3 := by omega
  subst em
  refine ⟨hr.2.1, hr.2.2.2, fun j j0 j1 => ?_⟩
  have y0 : m0 = 2 := by omega
  have y1 : m1 = 1 := by omega
  have y2 : m2 = 0 := by omega
  rw [y0] at b0; rw [y1] at b1; rw [y2] at b2
  rcases (show j = 0 ∨ j = 1 ∨ j = 2 by omega) with rfl | rfl | rfl
  · exact (show tp (p + ((0 : Nat) : Int)) = 110 by omega).trans (by decide)
  · exact (show tp (p + ((1 : Nat) : Int)) = 111 by omega).trans (by decide)
  · exact (show tp (p + ((2 : Nat) : Int)) = 116 by omega).trans (by decide)
theorem tf_spv_5 {tp : Int → Int} {n p : Int} (h : tf_spl tp n p 5 4) : tf_bv tp p 4 = 370116 := by
  have e0 : tp (p + 0) = 107 := (h.2.2 0 (by omega) (by omega)).trans (by decide)
  have e1 : tp (p + 1) = 105 := (h.2.2 1 (by omega) (by omega)).trans (by decide)
  have e2 : tp (p + 2) = 110 := (h.2.2 2 (by omega) (by omega)).trans (by decide)
  have e3 : tp (p + 3) = 100 := (h.2.2 3 (by omega) (by omega)).trans (by decide)
  show ((((((((0) * 32 + tp (p + (((0 : Nat)) : Int)) - 96)) * 32 + tp (p + (((1 : Nat)) : Int)) - 96)) * 32 + tp (p + (((2 : Nat)) : Int)) - 96)) * 32 + tp (p + (((3 : Nat)) : Int)) - 96) = 370116
  have f0 : tp (p + ((0 : Nat) : Int)) = 107 := e0; have f1 : tp (p + ((1 : Nat) : Int)) = 105 := e1; have f2 : tp (p + ((2 : Nat) : Int)) = 110 := e2; have f3 : tp (p + ((3 : Nat) : Int)) = 100 := e3
  omega
theorem tf_vsp_5 {tp : Int → Int} {n p : Int} {m : Nat} (hr : tf_rl tp n p m) (h : tf_bv tp p m = 370116) : tf_spl tp n p 5 4 := by
  have l0 := hr.2.2.1
  obtain ⟨m0, a0, b0, c0⟩ := tf_bv_inv (V := 11566) (d := 4) l0 (by omega) (by omega) (by omega) (by omega)
  have l1 : ∀ i : Int, 0 ≤ i → i < m0 → 97 ≤ tp (p + i) ∧ tp (p + i) ≤ 122 := fun i i0 i1 => l0 i i0 (by omega)
  obtain ⟨m1, a1, b1, c1⟩ := tf_bv_inv (V := 361) (d := 14) l1 (by omega) (by omega) (by omega) (by omega)
  have l2 : ∀ i : Int, 0 ≤ i → i < m1 → 97 ≤ tp (p + i) ∧ tp (p + i) ≤ 122 := fun i i0 i1 => l1 i i0 (by omega)
  obtain ⟨m2, a2, b2, c2⟩ := tf_bv_inv (V := 11) (d := 9) l2 (by omega) (by omega) (by omega) (by omega)
  have l3 : ∀ i : Int, 0 ≤ i → i < m2 → 97 ≤ tp (p + i) ∧ tp (p + i) ≤ 122 := fun i i0 i1 => l2 i i0 (by omega)
  obtain ⟨m3, a3, b3, c3⟩ := tf_bv_inv (V := 0) (d := 11) l3 (by omega) (by omega) (by omega) (by omega)
  have l4 : ∀ i : Int, 0 ≤ i → i < m3 → 97 ≤ tp (p + i) ∧ tp (p + i) ≤ 122 := fun i i0 i1 => l3 i i0 (by omega)
  have z := tf_bv_0 l4 c3
  have em : m = 4 := by omega
  subst em
  refine ⟨hr.2.1, hr.2.2.2, fun j j0 j1 => ?_⟩
  have y0 : m0 = 3 := by omega
  have y1 : m1 = 2 := by omega
  have y2 : m2 = 1 := by omega
  have y3 : m3 = 0 := by omega
  rw [y0] at b0; rw [y1] at b1; rw [y2] at b2; rw [y3] at b3
  rcases (show j = 0 ∨ j = 1 ∨ j = 2 ∨ j = 3 by omega) with rfl | rfl | rfl | rfl
  · exact (show tp (p + ((0 : Nat) : Int)) = 107 by omega).trans (by decide)
  · exact (show tp (p + ((1 : Nat) : Int)) = 105 by omega).trans (by decide)
  · exact (show tp (p + ((2 : Nat) : Int)) = 110 by omega).trans (by decide)
  · exact (show tp (p + ((3 : Nat) : Int)) = 100 by omega).trans (by decide)
theorem tf_spv_6 {tp : Int → Int} {n p : Int} (h : tf_spl tp n p 6 4) : tf_bv tp p 4 = 599653 := by
  have e0 : tp (p + 0) = 114 := (h.2.2 0 (by omega) (by omega)).trans (by decide)
  have e1 : tp (p + 1) = 105 := (h.2.2 1 (by omega) (by omega)).trans (by decide)
  have e2 : tp (p + 2) = 115 := (h.2.2 2 (by omega) (by omega)).trans (by decide)
  have e3 : tp (p + 3) = 101 := (h.2.2 3 (by omega) (by omega)).trans (by decide)
  show ((((((((0) * 32 + tp (p + (((0 : Nat)) : Int)) - 96)) * 32 + tp (p + (((1 : Nat)) : Int)) - 96)) * 32 + tp (p + (((2 : Nat)) : Int)) - 96)) * 32 + tp (p + (((3 : Nat)) : Int)) - 96) = 599653
  have f0 : tp (p + ((0 : Nat) : Int)) = 114 := e0; have f1 : tp (p + ((1 : Nat) : Int)) = 105 := e1; have f2 : tp (p + ((2 : Nat) : Int)) = 115 := e2; have f3 : tp (p + ((3 : Nat) : Int)) = 101 := e3
  omega
theorem tf_vsp_6 {tp : Int → Int} {n p : Int} {m : Nat} (hr : tf_rl tp n p m) (h : tf_bv tp p m = 599653) : tf_spl tp n p 6 4 := by
  have l0 := hr.2.2.1
  obtain ⟨m0, a0, b0, c0⟩ := tf_bv_inv (V := 18739) (d := 5) l0 (by omega) (by omega) (by omega) (by omega)
  have l1 : ∀ i : Int, 0 ≤ i → i < m0 → 97 ≤ tp (p + i) ∧ tp (p + i) ≤ 122 := fun i i0 i1 => l0 i i0 (by omega)
  obtain ⟨m1, a1, b1, c1⟩ := tf_bv_inv (V := 585) (d := 19) l1 (by omega) (by omega) (by omega) (by omega)
  have l2 : ∀ i : Int, 0 ≤ i → i < m1 → 97 ≤ tp (p + i) ∧ tp (p + i) ≤ 122 := fun i i0 i1 => l1 i i0 (by omega)
  obtain ⟨m2, a2, b2, c2⟩ := tf_bv_inv (V := 18) (d := 9) l2 (by omega) (by omega) (by omega) (by omega)
  have l3 : ∀ i : Int, 0 ≤ i → i < m2 → 97 ≤ tp (p + i) ∧ tp (p + i) ≤ 122 := fun i i0 i1 => l2 i i0 (by omega)
  obtain ⟨m3, a3, b3, c3⟩ := tf_bv_inv (V := 0) (d := 18) l3 (by omega) (by omega) (by omega) (by omega)
  have l4 : ∀ i : Int, 0 ≤ i → i < m3 → 97 ≤ tp (p + i) ∧ tp (p + i) ≤ 122 := fun i i0 i1 => l3 i i0 (by omega)
  have z := tf_bv_0 l4 c3
  have em : m = 4 := by omega
  subst em
  refine ⟨hr.2.1, hr.2.2.2, fun j j0 j1 => ?_⟩
  have y0 : m0 = 3 := by omega
  have y1 : m1 = 2 := by omega
  have y2 : m2 = 1 := by omega
  have y3 : m3 = 0 := by omega
  rw [y0] at b0; rw [y1] at b1; rw [y2] at b2; rw [y3] at b3
  rcases (show j = 0 ∨ j = 1 ∨ j = 2 ∨ j = 3 by omega) with rfl | rfl | rfl | rfl
  · exact (show tp (p + ((0 : Nat) : Int)) = 114 by omega).trans (by decide)
  · exact (show tp (p + ((1 : Nat) : Int)) = 105 by omega).trans (by decide)
  · exact (show tp (p + ((2 : Nat) : Int)) = 115 by omega).trans (by decide)
  · exact (show tp (p + ((3 : Nat) : Int)) = 101 by omega).trans (by decide)
theorem tf_spv_7 {tp : Int → Int} {n p : Int} (h : tf_spl tp n p 7 4) : tf_bv tp p 4 = 271592 := by
  have e0 : tp (p + 0) = 104 := (h.2.2 0 (by omega) (by omega)).trans (by decide)
  have e1 : tp (p + 1) = 105 := (h.2.2 1 (by omega) (by omega)).trans (by decide)
  have e2 : tp (p + 2) = 103 := (h.2.2 2 (by omega) (by omega)).trans (by decide)
  have e3 : tp (p + 3) = 104 := (h.2.2 3 (by omega) (by omega)).trans (by decide)
  show ((((((((0) * 32 + tp (p + (((0 : Nat)) : Int)) - 96)) * 32 + tp (p + (((1 : Nat)) : Int)) - 96)) * 32 + tp (p + (((2 : Nat)) : Int)) - 96)) * 32 + tp (p + (((3 : Nat)) : Int)) - 96) = 271592
  have f0 : tp (p + ((0 : Nat) : Int)) = 104 := e0; have f1 : tp (p + ((1 : Nat) : Int)) = 105 := e1; have f2 : tp (p + ((2 : Nat) : Int)) = 103 := e2; have f3 : tp (p + ((3 : Nat) : Int)) = 104 := e3
  omega
theorem tf_vsp_7 {tp : Int → Int} {n p : Int} {m : Nat} (hr : tf_rl tp n p m) (h : tf_bv tp p m = 271592) : tf_spl tp n p 7 4 := by
  have l0 := hr.2.2.1
  obtain ⟨m0, a0, b0, c0⟩ := tf_bv_inv (V := 8487) (d := 8) l0 (by omega) (by omega) (by omega) (by omega)
  have l1 : ∀ i : Int, 0 ≤ i → i < m0 → 97 ≤ tp (p + i) ∧ tp (p + i) ≤ 122 := fun i i0 i1 => l0 i i0 (by omega)
  obtain ⟨m1, a1, b1, c1⟩ := tf_bv_inv (V := 265) (d := 7) l1 (by omega) (by omega) (by omega) (by omega)
  have l2 : ∀ i : Int, 0 ≤ i → i < m1 → 97 ≤ tp (p + i) ∧ tp (p + i) ≤ 122 := fun i i0 i1 => l1 i i0 (by omega)
  obtain ⟨m2, a2, b2, c2⟩ := tf_bv_inv (V := 8) (d := 9) l2 (by omega) (by omega) (by omega) (by omega)
  have l3 : ∀ i : Int, 0 ≤ i → i < m2 → 97 ≤ tp (p + i) ∧ tp (p + i) ≤ 122 := fun i i0 i1 => l2 i i0 (by omega)
  obtain ⟨m3, a3, b3, c3⟩ := tf_bv_inv (V := 0) (d := 8) l3 (by omega) (by omega) (by omega) (by omega)
  have l4 : ∀ i : Int, 0 ≤ i → i < m3 → 97 ≤ tp (p + i) ∧ tp (p + i) ≤ 122 := fun i i0 i1 => l3 i i0 (by omega)
  have z := tf_bv_0 l4 c3
  have em : m = 4 := by omega
  subst em
  refine ⟨hr.2.1, hr.2.2.2, fun j j0 j1 => ?_⟩
  have y0 : m0 = 3 := by omega
  have y1 : m1 = 2 := by omega
  have y2 : m2 = 1 := by omega
  have y3 : m3 = 0 := by omega
  rw [y0] at b0; rw [y1] at b1; rw [y2] at b2; rw [y3] at b3
  rcases (show j = 0 ∨ j = 1 ∨ j = 2 ∨ j = 3 by omega) with rfl | rfl | rfl | rfl
  · exact (show tp (p + ((0 : Nat) : Int)) = 104 by omega).trans (by decide)
  · exact (show tp (p + ((1 : Nat) : Int)) = 105 by omega).trans (by decide)
  · exact (show tp (p + ((2 : Nat) : Int)) = 103 by omega).trans (by decide)
  · exact (show tp (p + ((3 : Nat) : Int)) = 104 by omega).trans (by decide)
theorem tf_spv_8 {tp : Int → Int} {n p : Int} (h : tf_spl tp n p 8 5) : tf_bv tp p 5 = 21566643 := by
  have e0 : tp (p + 0) = 116 := (h.2.2 0 (by omega) (by omega)).trans (by decide)
  have e1 : tp (p + 1) = 114 := (h.2.2 1 (by omega) (by omega)).trans (by decide)
  have e2 : tp (p + 2) = 101 := (h.2.2 2 (by omega) (by omega)).trans (by decide)
  have e3 : tp (p + 3) = 101 := (h.2.2 3 (by omega) (by omega)).trans (by decide)
  have e4 : tp (p + 4) = 115 := (h.2.2 4 (by omega) (by omega)).trans (by decide)
  show ((((((((((0) * 32 + tp (p + (((0 : Nat)) : Int)) - 96)) * 32 + tp (p + (((1 : Nat)) : Int)) - 96)) * 32 + tp (p + (((2 : Nat)) : Int)) - 96)) * 32 + tp (p + (((3 : Nat)) : Int)) - 96)) * 32 + tp (p + (((4 : Nat)) : Int)) - 96) = 21566643
  have f0 : tp (p + ((0 : Nat) : Int)) = 116 := e0; have f1 : tp (p + ((1 : Nat) : Int)) = 114 := e1; have f2 : tp (p + ((2 : Nat) : Int)) = 101 := e2; have f3 : tp (p + ((3 : Nat) : Int)) = 101 := e3; have f4 : tp (p + ((4 : Nat) : Int)) = 115 := e4
  omega
theorem tf_vsp_8 {tp : Int → Int} {n p : Int} {m : Nat} (hr : tf_rl tp n p m) (h : tf_bv tp p m = 21566643) : tf_spl tp n p 8 5 := by
  have l0 := hr.2.2.1
  obtain ⟨m0, a0, b0, c0⟩ := tf_bv_inv (V := 673957) (d := 19) l0 (by omega) (by omega) (by omega) (by omega)
  have l1 : ∀ i : Int, 0 ≤ i → i < m0 → 97 ≤ tp (p + i) ∧ tp (p + i) ≤ 122 := fun i i0 i1 => l0 i i0 (by omega)
  obtain ⟨m1, a1, b1, c1⟩ := tf_bv_inv (V := 21061) (d := 5) l1 (by omega) (by omega) (by omega) (by omega)
  have l2 : ∀ i : Int, 0 ≤ i → i < m1 → 97 ≤ tp (p + i) ∧ tp (p + i) ≤ 122 := fun i i0 i1 => l1 i i0 (by omega)
  obtain ⟨m2, a2, b2, c2⟩ := tf_bv_inv (V := 658) (d := 5) l2 (by omega) (by omega) (by omega) (by omega)
  have l3 : ∀ i : Int, 0 ≤ i → i < m2 → 97 ≤ tp (p + i) ∧ tp (p + i) ≤ 122 := fun i i0 i1 => l2 i i0 (by omega)
  obtain ⟨m3, a3, b3, c3⟩ := tf_bv_inv (V := 20) (d := 18) l3 (by omega) (by omega) (by omega) (by omega)
  have l4 : ∀ i : Int, 0 ≤ i → i < m3 → 97 ≤ tp (p + i) ∧ tp (p + i) ≤ 122 := fun i i0 i1 => l3 i i0 (by omega)
  obtain ⟨m4, a4, b4, c4⟩ := tf_bv_inv (V := 0) (d := 20) l4 (by omega) (by omega) (by omega) (by omega)
  have l5 : ∀ i : Int, 0 ≤ i → i < m4 → 97 ≤ tp (p + i) ∧ tp (p + i) ≤ 122 := fun i i0 i1 => l4 i i0 (by omega)
  have z := tf_bv_0 l5 c4
  have em : m = 5 := by omega
  subst em
  refine ⟨hr.2.1, hr.2.2.2, fun j j0 j1 => ?_⟩
  have y0 : m0 = 4 := by omega
  have y1 : m1 = 3 := by omega
  have y2 : m2 = 2 := by omega
  have y3 : m3 = 1 := by omega
  have y4 : m4 = 0 := by omega
  rw [y0] at b0; rw [y1] at b1; rw [y2] at b2; rw [y3] at b3; rw [y4] at b4
  rcases (show j = 0 ∨ j = 1 ∨ j = 2 ∨ j = 3 ∨ j = 4 by omega) with rfl | rfl | rfl | rfl | rfl
  · exact (show tp (p + ((0 : Nat) : Int)) = 116 by omega).trans (by decide)
  · exact (show tp (p + ((1 : Nat) : Int)) = 114 by omega).trans (by decide)
  · exact (show tp (p + ((2 : Nat) : Int)) = 101 by omega).trans (by decide)
  · exact (show tp (p + ((3 : Nat) : Int)) = 101 by omega).trans (by decide)
  · exact (show tp (p + ((4 : Nat) : Int)) = 115 by omega).trans (by decide)
theorem tf_spv_9 {tp : Int → Int} {n p : Int} (h : tf_spl tp n p 9 6) : tf_bv tp p 6 = 641275054 := by
  have e0 : tp (p + 0) = 115 := (h.2.2 0 (by omega) (by omega)).trans (by decide)
  have e1 : tp (p + 1) = 99 := (h.2.2 1 (by omega) (by omega)).trans (by decide)
  have e2 : tp (p + 2) = 114 := (h.2.2 2 (by omega) (by omega)).trans (by decide)
  have e3 : tp (p + 3) = 101 := (h.2.2 3 (by omega) (by omega)).trans (by decide)
  have e4 : tp (p + 4) = 101 := (h.2.2 4 (by omega) (by omega)).trans (by decide)
  have e5 : tp (p + 5) = 110 := (h.2.2 5 (by omega) (by omega)).trans (by decide)
  show ((((((((((((0) * 32 + tp (p + (((0 : Nat)) : Int)) - 96)) * 32 + tp (p + (((1 : Nat)) : Int)) - 96)) * 32 + tp (p + (((2 : Nat)) : Int)) - 96)) * 32 + tp (p + (((3 : Nat)) : Int)) - 96)) * 32 + tp (p + (((4 : Nat)) : Int)) - 96)) * 32 + tp (p + (((5 : Nat)) : Int)) - 96) = 641275054
  have f0 : tp (p + ((0 : Nat) : Int)) = 115 := e0; have f1 : tp (p + ((1 : Nat) : Int)) = 99 := e1; have f2 : tp (p + ((2 : Nat) : Int)) = 114 := e2; have f3 : tp (p + ((3 : Nat) : Int)) = 101 := e3; have f4 : tp (p + ((4 : Nat) : Int)) = 101 := e4; have f5 : tp (p + ((5 : Nat) : Int)) = 110 := e5
  omega
theorem tf_vsp_9 {tp : Int → Int} {n p : Int} {m : Nat} (hr : tf_rl tp n p m) (h : tf_bv tp p m = 641275054) : tf_spl tp n p 9 6 := by
  have l0 := hr.2.2.1
  obtain ⟨m0, a0, b0, c0⟩ := tf_bv_inv (V := 20039845) (d := 14) l0 (by omega) (by omega) (by omega) (by omega)
  have l1 : ∀ i : Int, 0 ≤ i → i < m0 → 97 ≤ tp (p + i) ∧ tp (p + i) ≤ 122 := fun i i0 i1 => l0 i i0 (by omega)
  obtain ⟨m1, a1, b1, c1⟩ := tf_bv_inv (V := 626245) (d := 5) l1 (by omega) (by omega) (by omega) (by omega)
  have l2 : ∀ i : Int, 0 ≤ i → i < m1 → 97 ≤ tp (p + i) ∧ tp (p + i) ≤ 122 := fun i i0 i1 => l1 i i0 (by omega)
  obtain ⟨m2, a2, b2, c2⟩ := tf_bv_inv (V := 19570) (d := 5) l2 (by omega) (by omega) (by omega) (by omega)
  have l3 : ∀ i : Int, 0 ≤ i → i < m2 → 97 ≤ tp (p + i) ∧ tp (p + i) ≤ 122 := fun i i0 i1 => l2 i i0 (by omega)
  obtain ⟨m3, a3, b3, c3⟩ := tf_bv_inv (V := 611) (d := 18) l3 (by omega) (by omega) (by omega) (by omega)
  have l4 : ∀ i : Int, 0 ≤ i → i < m3 → 97 ≤ tp (p + i) ∧ tp (p + i) ≤ 122 := fun i i0 i1 => l3 i i0 (by omega)
  obtain ⟨m4, a4, b4, c4⟩ := tf_bv_inv (V := 19) (d := 3) l4 (by omega) (by omega) (by omega) (by omega)
  have l5 : ∀ i : Int, 0 ≤ i → i < m4 → 97 ≤ tp (p + i) ∧ tp (p + i) ≤ 122 := fun i i0 i1 => l4 i i0 (by omega)
  obtain ⟨m5, a5, b5, c5⟩ := tf_bv_inv (V := 0) (d := 19) l5 (by omega) (by omega) (by omega) (by omega)
  have l6 : ∀ i : Int, 0 ≤ i → i < m5 → 97 ≤ tp (p + i) ∧ tp (p + i) ≤ 122 := fun i i0 i1 => l5 i i0 (by omega)
  have z := tf_bv_0 l6 c5
  have em : m = 6 := by omega
  subst em
  refine ⟨hr.2.1, hr.2.2.2, fun j j0 j1 => ?_⟩
  have y0 : m0 = 5 := by omega
  have y1 : m1 = 4 := by omega
  have y2 : m2 = 3 := by omega
  have y3 : m3 = 2 := by omega
  have y4 : m4 = 1 := by omega
  have y5 : m5 = 0 := by omega
  rw [y0] at b0; rw [y1] at b1; rw [y2] at b2; rw [y3] at b3; rw [y4] at b4; rw [y5] at b5
  rcases (show j = 0 ∨ j = 1 ∨ j = 2 ∨ j = 3 ∨ j = 4 ∨ j = 5 by omega) with rfl | rfl | rfl | rfl | rfl | rfl
  · exact (show tp (p + ((0 : Nat) : Int)) = 115 by omega).trans (by decide)
  · exact (show tp (p + ((1 : Nat) : Int)) = 99 by omega).trans (by decide)
  · exact (show tp (p + ((2 : Nat) : Int)) = 114 by omega).trans (by decide)
  · exact (show tp (p + ((3 : Nat) : Int)) = 101 by omega).trans (by decide)
  · exact (show tp (p + ((4 : Nat) : Int)) = 101 by omega).trans (by decide)
  · exact (show tp (p + ((5 : Nat) : Int)) = 110 by omega).trans (by decide)
theorem tf_spv_10 {tp : Int → Int} {n p : Int} (h : tf_spl tp n p 10 3) : tf_bv tp p 3 = 15558 := by
  have e0 : tp (p + 0) = 111 := (h.2.2 0 (by omega) (by omega)).trans (by decide)
  have e1 : tp (p + 1) = 102 := (h.2.2 1 (by omega) (by omega)).trans (by decide)
  have e2 : tp (p + 2) = 102 := (h.2.2 2 (by omega) (by omega)).trans (by decide)
  show ((((((0) * 32 + tp (p + (((0 : Nat)) : Int)) - 96)) * 32 + tp (p + (((1 : Nat)) : Int)) - 96)) * 32 + tp (p + (((2 : Nat)) : Int)) - 96) = 15558
  have f0 : tp (p + ((0 : Nat) : Int)) = 111 := e0; have f1 : tp (p + ((1 : Nat) : Int)) = 102 := e1; have f2 : tp (p + ((2 : Nat) : Int)) = 102 := e2
  omega
theorem tf_vsp_10 {tp : Int → Int} {n p : Int} {m : Nat} (hr : tf_rl tp n p m) (h : tf_bv tp p m = 15558) : tf_spl tp n p 10 3 := by
  have l0 := hr.2.2.1
  obtain ⟨m0, a0, b0, c0⟩ := tf_bv_inv (V := 486) (d := 6) l0 (by omega) (by omega) (by omega) (by omega)
  have l1 : ∀ i : Int, 0 ≤ i → i < m0 → 97 ≤ tp (p + i) ∧ tp (p + i) ≤ 122 := fun i i0 i1 => l0 i i0 (by omega)
  obtain ⟨m1, a1, b1, c1⟩ := tf_bv_inv (V := 15) (d := 6) l1 (by omega) (by omega) (by omega) (by omega)
  have l2 : ∀ i : Int, 0 ≤ i → i < m1 → 97 ≤ tp (p + i) ∧ tp (p + i) ≤ 122 := fun i i0 i1 => l1 i i0 (by omega)
  obtain ⟨m2, a2, b2, c2⟩ := tf_bv_inv (V := 0) (d := 15) l2 (by omega) (by omega) (by omega) (by omega)
  have l3 : ∀ i : Int, 0 ≤ i → i < m2 → 97 ≤ tp (p + i) ∧ tp (p + i) ≤ 122 := fun i i0 i1 => l2 i i0 (by omega)
  have z := tf_bv_0 l3 c2
  have em : m = 3 := by omega
  subst em
  refine ⟨hr.2.1, hr.2.2.2, fun j j0 j1 => ?_⟩
  have y0 : m0 = 2 := by omega
  have y1 : m1 = 1 := by omega
  have y2 : m2 = 0 := by omega
  rw [y0] at b0; rw [y1] at b1; rw [y2] at b2
  rcases (show j = 0 ∨ j = 1 ∨ j = 2 by omega) with rfl | rfl | rfl
  · exact (show tp (p + ((0 : Nat) : Int)) = 111 by omega).trans (by decide)
  · exact (show tp (p + ((1 : Nat) : Int)) = 102 by omega).trans (by decide)
  · exact (show tp (p + ((2 : Nat) : Int)) = 102 by omega).trans (by decide)
theorem tf_spv_11 {tp : Int → Int} {n p : Int} (h : tf_spl tp n p 11 1) : tf_bv tp p 1 = 24 := by
  have e0 : tp (p + 0) = 120 := (h.2.2 0 (by omega) (by omega)).trans (by decide)
  show ((0) * 32 + tp (p + (((0 : Nat)) : Int)) - 96) = 24
  have f0 : tp (p + ((0 : Nat) : Int)) = 120 := e0
  omega
theorem tf_vsp_11 {tp : Int → Int} {n p : Int} {m : Nat} (hr : tf_rl tp n p m) (h : tf_bv tp p m = 24) : tf_spl tp n p 11 1 := by
  have l0 := hr.2.2.1
  obtain ⟨m0, a0, b0, c0⟩ := tf_bv_inv (V := 0) (d := 24) l0 (by omega) (by omega) (by omega) (by omega)
  have l1 : ∀ i : Int, 0 ≤ i → i < m0 → 97 ≤ tp (p + i) ∧ tp (p + i) ≤ 122 := fun i i0 i1 => l0 i i0 (by omega)
  have z := tf_bv_0 l1 c0
  have em : m = 1 := by omega
  subst em
  refine ⟨hr.2.1, hr.2.2.2, fun j j0 j1 => ?_⟩
  have y0 : m0 = 0 := by omega
  rw [y0] at b0
  rcases (show j = 0 by omega) with rfl
  · exact (show tp (p + ((0 : Nat) : Int)) = 120 by omega).trans (by decide)
theorem tf_spv_12 {tp : Int → Int} {n p : Int} (h : tf_spl tp n p 12 1) : tf_bv tp p 1 = 25 := by
  have e0 : tp (p + 0) = 121 := (h.2.2 0 (by omega) (by omega)).trans (by decide)
  show ((0) * 32 + tp (p + (((0 : Nat)) : Int)) - 96) = 25
  have f0 : tp (p + ((0 : Nat) : Int)) = 121 := e0
  omega
theorem tf_vsp_12 {tp : Int → Int} {n p : Int} {m : Nat} (hr : tf_rl tp n p m) (h : tf_bv tp p m = 25) : tf_spl tp n p 12 1 := by
  have l0 := hr.2.2.1
  obtain ⟨m0, a0, b0, c0⟩ := tf_bv_inv (V := 0) (d := 25) l0 (by omega) (by omega) (by omega) (by omega)
  have l1 : ∀ i : Int, 0 ≤ i → i < m0 → 97 ≤ tp (p + i) ∧ tp (p + i) ≤ 122 := fun i i0 i1 => l0 i i0 (by omega)
  have z := tf_bv_0 l1 c0
  have em : m = 1 := by omega
  subst em
  refine ⟨hr.2.1, hr.2.2.2, fun j j0 j1 => ?_⟩
  have y0 : m0 = 0 := by omega
  rw [y0] at b0
  rcases (show j = 0 by omega) with rfl
  · exact (show tp (p + ((0 : Nat) : Int)) = 121 by omega).trans (by decide)
theorem tf_spv_13 {tp : Int → Int} {n p : Int} (h : tf_spl tp n p 13 3) : tf_bv tp p 3 = 23609 := by
  have e0 : tp (p + 0) = 119 := (h.2.2 0 (by omega) (by omega)).trans (by decide)
  have e1 : tp (p + 1) = 97 := (h.2.2 1 (by omega) (by omega)).trans (by decide)
  have e2 : tp (p + 2) = 121 := (h.2.2 2 (by omega) (by omega)).trans (by decide)
  show ((((((0) * 32 + tp (p + (((0 : Nat)) : Int)) - 96)) * 32 + tp (p + (((1 : Nat)) : Int)) - 96)) * 32 + tp (p + (((2 : Nat)) : Int)) - 96) = 23609
  have f0 : tp (p + ((0 : Nat) : Int)) = 119 := e0; have f1 : tp (p + ((1 : Nat) : Int)) = 97 := e1; have f2 : tp (p + ((2 : Nat) : Int)) = 121 := e2
  omega
theorem tf_vsp_13 {tp : Int → Int} {n p : Int} {m : Nat} (hr : tf_rl tp n p m) (h : tf_bv tp p m = 23609) : tf_spl tp n p 13 3 := by
  have l0 := hr.2.2.1
  obtain ⟨m0, a0, b0, c0⟩ := tf_bv_inv (V := 737) (d := 25) l0 (by omega) (by omega) (by omega) (by omega)
  have l1 : ∀ i : Int, 0 ≤ i → i < m0 → 97 ≤ tp (p + i) ∧ tp (p + i) ≤ 122 := fun i i0 i1 => l0 i i0 (by omega)
  obtain ⟨m1, a1, b1, c1⟩ := tf_bv_inv (V := 23) (d := 1) l1 (by omega) (by omega) (by omega) (by omega)
  have l2 : ∀ i : Int, 0 ≤ i → i < m1 → 97 ≤ tp (p + i) ∧ tp (p + i) ≤ 122 := fun i i0 i1 => l1 i i0 (by omega)
  obtain ⟨m2, a2, b2, c2⟩ := tf_bv_inv (V := 0) (d := 23) l2 (by omega) (by omega) (by omega) (by omega)
  have l3 : ∀ i : Int, 0 ≤ i → i < m2 → 97 ≤ tp (p + i) ∧ tp (p + i) ≤ 122 := fun i i0 i1 => l2 i i0 (by omega)
  have z := tf_bv_0 l3 c2
  have em : m = 3 := by omega
  subst em
  refine ⟨hr.2.1, hr.2.2.2, fun j j0 j1 => ?_⟩
  have y0 : m0 = 2 := by omega
  have y1 : m1 = 1 := by omega
  have y2 : m2 = 0 := by omega
  rw [y0] at b0; rw [y1] at b1; rw [y2] at b2
  rcases (show j = 0 ∨ j = 1 ∨ j = 2 by omega) with rfl | rfl | rfl
  · exact (show tp (p + ((0 : Nat) : Int)) = 119 by omega).trans (by decide)
  · exact (show tp (p + ((1 : Nat) : Int)) = 97 by omega).trans (by decide)
  · exact (show tp (p + ((2 : Nat) : Int)) = 121 by omega).trans (by decide)
def tf_SW (tp : Int → Int) (n p t : Int) : Prop := ∃ m : Nat, tf_rl tp n p m ∧ ((m ≤ 10 ∧ tf_WD (tf_bv tp p m) t) ∨ (10 < m ∧ t = 6))
theorem tf_SW_0 {tp : Int → Int} {n p : Int} (h : tf_spl tp n p 0 5) : tf_SW tp n p 1 := ⟨5, tf_spl_rl (by decide) rfl h, Or.inl ⟨by decide, Or.inl ⟨tf_spv_0 h, rfl⟩⟩⟩
theorem tf_SW_1 {tp : Int → Int} {n p : Int} (h : tf_spl tp n p 1 2) : tf_SW tp n p 2 := ⟨2, tf_spl_rl (by decide) rfl h, Or.inl ⟨by decide, Or.inr (Or.inl ⟨tf_spv_1 h, rfl⟩)⟩⟩
theorem tf_SW_2 {tp : Int → Int} {n p : Int} (h : tf_spl tp n p 2 2) : tf_SW tp n p 3 := ⟨2, tf_spl_rl (by decide) rfl h, Or.inl ⟨by decide, Or.inr (Or.inr (Or.inl ⟨tf_spv_2 h, rfl⟩))⟩⟩
theorem tf_SW_3 {tp : Int → Int} {n p : Int} (h : tf_spl tp n p 3 3) : tf_SW tp n p 4 := ⟨3, tf_spl_rl (by decide) rfl h, Or.inl ⟨by decide, Or.inr (Or.inr (Or.inr (Or.inl ⟨tf_spv_3 h, rfl⟩)))⟩⟩
theorem tf_SW_4 {tp : Int → Int} {n p : Int} (h : tf_spl tp n p 4 3) : tf_SW tp n p 5 := ⟨3, tf_spl_rl (by decide) rfl h, Or.inl ⟨by decide, Or.inr (Or.inr (Or.inr (Or.inr (Or.inl ⟨tf_spv_4 h, rfl⟩))))⟩⟩
theorem tf_SW_5 {tp : Int → Int} {n p : Int} (h : tf_spl tp n p 5 4) : tf_SW tp n p 16 := ⟨4, tf_spl_rl (by decide) rfl h, Or.inl ⟨by decide, Or.inr (Or.inr (Or.inr (Or.inr (Or.inr (Or.inl ⟨tf_spv_5 h, rfl⟩)))))⟩⟩
theorem tf_SW_6 {tp : Int → Int} {n p : Int} (h : tf_spl tp n p 6 4) : tf_SW tp n p 17 := ⟨4, tf_spl_rl (by decide) rfl h, Or.inl ⟨by decide, Or.inr (Or.inr (Or.inr (Or.inr (Or.inr (Or.inr (Or.inl ⟨tf_spv_6 h, rfl⟩))))))⟩⟩
theorem tf_SW_7 {tp : Int → Int} {n p : Int} (h : tf_spl tp n p 7 4) : tf_SW tp n p 18 := ⟨4, tf_spl_rl (by decide) rfl h, Or.inl ⟨by decide, Or.inr (Or.inr (Or.inr (Or.inr (Or.inr (Or.inr (Or.inr (Or.inl ⟨tf_spv_7 h, rfl⟩)))))))⟩⟩
theorem tf_SW_8 {tp : Int → Int} {n p : Int} (h : tf_spl tp n p 8 5) : tf_SW tp n p 19 := ⟨5, tf_spl_rl (by decide) rfl h, Or.inl ⟨by decide, Or.inr (Or.inr (Or.inr (Or.inr (Or.inr (Or.inr (Or.inr (Or.inr (Or.inl ⟨tf_spv_8 h, rfl⟩))))))))⟩⟩
theorem tf_SW_9 {tp : Int → Int} {n p : Int} (h : tf_spl tp n p 9 6) : tf_SW tp n p 20 := ⟨6, tf_spl_rl (by decide) rfl h, Or.inl ⟨by decide, Or.inr (Or.inr (Or.inr (Or.inr (Or.inr (Or.inr (Or.inr (Or.inr (Or.inr (Or.inl ⟨tf_spv_9 h, rfl⟩)))))))))⟩⟩
theorem tf_SW_10 {tp : Int → Int} {n p : Int} (h : tf_spl tp n p 10 3) : tf_SW tp n p 21 := ⟨3, tf_spl_rl (by decide) rfl h, Or.inl ⟨by decide, Or.inr (Or.inr (Or.inr (Or.inr (Or.inr (Or.inr (Or.inr (Or.inr (Or.inr (Or.inr (Or.inl ⟨tf_spv_10 h, rfl⟩))))))))))⟩⟩
theorem tf_SW_11 {tp : Int → Int} {n p : Int} (h : tf_spl tp n p 11 1) : tf_SW tp n p 22 := ⟨1, tf_spl_rl (by decide) rfl h, Or.inl ⟨by decide, Or.inr (Or.inr (Or.inr (Or.inr (Or.inr (Or.inr (Or.inr (Or.inr (Or.inr (Or.inr (Or.inr (Or.inl ⟨tf_spv_11 h, rfl⟩)))))))))))⟩⟩
theorem tf_SW_12 {tp : Int → Int} {n p : Int} (h : tf_spl tp n p 12 1) : tf_SW tp n p 23 := ⟨1, tf_spl_rl (by decide) rfl h, Or.inl ⟨by decide, Or.inr (Or.inr (Or.inr (Or.inr (Or.inr (Or.inr (Or.inr (Or.inr (Or.inr (Or.inr (Or.inr (Or.inr (Or.inl ⟨tf_spv_12 h, rfl⟩))))))))))))⟩⟩
theorem tf_SW_13 {tp : Int → Int} {n p : Int} (h : tf_spl tp n p 13 3) : tf_SW tp n p 24 := ⟨3, tf_spl_rl (by decide) rfl h, Or.inl ⟨by decide, Or.inr (Or.inr (Or.inr (Or.inr (Or.inr (Or.inr (Or.inr (Or.inr (Or.inr (Or.inr (Or.inr (Or.inr (Or.inr (Or.inl ⟨tf_spv_13 h, rfl⟩)))))))))))))⟩⟩
theorem tf_SW_no {tp : Int → Int} {n p : Int} (hp : p < n) (hl : 97 ≤ tp p ∧ tp p ≤ 122) (n0 : ¬ tf_spl tp n p 0 5) (n1 : ¬ tf_spl tp n p 1 2) (n2 : ¬ tf_spl tp n p 2 2) (n3 : ¬ tf_spl tp n p 3 3) (n4 : ¬ tf_spl tp n p 4 3) (n5 : ¬ tf_spl tp n p 5 4) (n6 : ¬ tf_spl tp n p 6 4) (n7 : ¬ tf_spl tp n p 7 4) (n8 : ¬ tf_spl tp n p 8 5) (n9 : ¬ tf_spl tp n p 9 6) (n10 : ¬ tf_spl tp n p 10 3) (n11 : ¬ tf_spl tp n p 11 1) (n12 : ¬ tf_spl tp n p 12 1) (n13 : ¬ tf_spl tp n p 13 3) : tf_SW tp n p 6 := by
  obtain ⟨m, hm⟩ := tf_rl_ex hp hl
  by_cases c : m ≤ 10
  · exact ⟨m, hm, Or.inl ⟨c, Or.inr (Or.inr (Or.inr (Or.inr (Or.inr (Or.inr (Or.inr (Or.inr (Or.inr (Or.inr (Or.inr (Or.inr (Or.inr (Or.inr (⟨⟨fun e => n0 (tf_vsp_0 hm e), fun e => n1 (tf_vsp_1 hm e), fun e => n2 (tf_vsp_2 hm e), fun e => n3 (tf_vsp_3 hm e), fun e => n4 (tf_vsp_4 hm e), fun e => n5 (tf_vsp_5 hm e), fun e => n6 (tf_vsp_6 hm e), fun e => n7 (tf_vsp_7 hm e), fun e => n8 (tf_vsp_8 hm e), fun e => n9 (tf_vsp_9 hm e), fun e => n10 (tf_vsp_10 hm e), fun e => n11 (tf_vsp_11 hm e), fun e => n12 (tf_vsp_12 hm e), fun e => n13 (tf_vsp_13 hm e)⟩, rfl⟩))))))))))))))⟩⟩
  · exact ⟨m, hm, Or.inr ⟨by omega, rfl⟩⟩
def tf_DN (tp : Int → Int) (n x L2 L3 : Int) : Prop := L2 = tf_nv tp x (L3 - x).toNat ∧ x ≤ L3 ∧ L3 ≤ n ∧ ∀ i : Int, 0 ≤ i → i < L3 - x → 48 ≤ tp (x + i) ∧ tp (x + i) ≤ 57
theorem tf_DN_0 {tp : Int → Int} {n x : Int} (h : x ≤ n) : tf_DN tp n x 0 x := ⟨by rw [show (x - x).toNat = 0 by omega]; rfl, Int.le_refl _, h, fun i i0 i1 => by omega⟩
theorem tf_DN_st {tp : Int → Int} {n x L2 L3 y z : Int} (h : tf_DN tp n x L2 L3) (e : tp L3 = y) (hd : 48 ≤ y ∧ y ≤ 57) (hn : L3 < n) (hz : (L2 * 10 + y - 48 ≤ 1001 ∧ z = L2 * 10 + y - 48) ∨ (1001 ≤ L2 * 10 + y - 48 ∧ z = 1001)) : tf_DN tp n x z (L3 + 1) := by
  obtain ⟨h1, h2, h3, h4⟩ := h
  have ek : (L3 + 1 - x).toNat = (L3 - x).toNat + 1 := by omega
  have ex : x + (((L3 - x).toNat : Nat) : Int) = L3 := by omega
  refine ⟨?_, by omega, by omega, fun i i0 i1 => ?_⟩
  · rw [ek]
    show z = if 1001 < tf_nv tp x (L3 - x).toNat * 10 + tp (x + (((L3 - x).toNat : Nat) : Int)) - 48 then 1001 else tf_nv tp x (L3 - x).toNat * 10 + tp (x + (((L3 - x).toNat : Nat) : Int)) - 48
    rw [ex, e, ← h1]
    by_cases c : 1001 < L2 * 10 + y - 48
    · rw [if_pos c]; omega
    · rw [if_neg c]; omega
  · by_cases c : i = L3 - x
    · rw [show x + i = L3 by omega, e]; exact hd
    · exact h4 i i0 (by omega)
theorem tf_DN_end {tp : Int → Int} {n x L2 L3 z : Int} (h : tf_DN tp n x L2 L3) (hx : x < L3) (he : L3 < n → ¬ (48 ≤ tp L3 ∧ tp L3 ≤ 57)) (hz : z = 2000 + L2) : ∃ m : Nat, tf_rd tp n x m ∧ z = 2000 + tf_nv tp x m := by
  obtain ⟨h1, h2, h3, h4⟩ := h
  refine ⟨(L3 - x).toNat, ⟨by omega, by omega, fun i i0 i1 => h4 i i0 (by omega), fun q => ?_⟩, by rw [← h1]; exact hz⟩
  rw [show x + (((L3 - x).toNat : Nat) : Int) = L3 by omega]; exact he (by omega)
theorem tf_DN_b {tp : Int → Int} {n x L2 L3 : Int} (h : tf_DN tp n x L2 L3) : 0 ≤ L2 ∧ L2 ≤ 1001 := by
  obtain ⟨h1, h2, h3, h4⟩ := h
  have := tf_nw_rel (tp := tp) (p := x) (m := (L3 - x).toNat) (fun i i0 i1 => h4 i i0 (by omega))
  omega
theorem tf_andid {x z : Int} (h0 : 0 ≤ x) (h1 : x ≤ 255) (hz : tf_r z) (e : Int32.ofInt z = Int32.ofInt x &&& Int32.ofInt 255) : z = x := by
  have h2 := congrArg (fun q : Int32 => q.toBitVec.toNat) e
  have h3 : (Int32.ofInt z).toBitVec.toNat = (Int32.ofInt x).toBitVec.toNat % 256 := h2.trans (tf_and255 _)
  have hx := tf_b32 (Int32.ofInt x)
  have hy := tf_b32 (Int32.ofInt z)
  rw [tf_ti ⟨by omega, by omega⟩] at hx
  rw [tf_ti hz] at hy
  have hb := (Int32.ofInt z).toBitVec.isLt
  omega
theorem tf_spl_end {tp : Int → Int} {p to_ z : Int} {w : Nat} (e : tp to_ = z) (ht : to_ = p + w) (hz : z < 97 ∨ 122 < z) : ¬ (97 ≤ tp (p + (w : Int)) ∧ tp (p + (w : Int)) ≤ 122) := by
  rw [← ht, e]; omega
theorem tf_spl_b {tp : Int → Int} {n p to_ z : Int} {i w : Nat} (e : tp to_ = z) (ht : to_ = p + w) (hn : to_ < n) (hz : 97 ≤ z ∧ z ≤ 122) : ¬ tf_spl tp n p i w := fun h => by
  have h2 := h.2.1 (by omega)
  rw [← ht, e] at h2
  exact h2 hz
theorem tf_spl_c {tp : Int → Int} {n p j z y : Int} {i w : Nat} (e : tp (p + j) = z) (ey : y = ((tf_sb.getD i []).getD j.toNat 0).toInt) (hne : z ≠ y) (h0 : 0 ≤ j) (h1 : j < w) : ¬ tf_spl tp n p i w := fun h => by
  have h2 := h.2.2 j h0 h1
  rw [e, ← ey] at h2
  exact hne h2
theorem tf_spl_st {tp : Int → Int} {p j z y : Int} {i : Nat} (h : ∀ q : Int, 0 ≤ q → q < j → tp (p + q) = ((tf_sb.getD i []).getD q.toNat 0).toInt) (e : tp (p + j) = z) (ey : y = ((tf_sb.getD i []).getD j.toNat 0).toInt) (hne : z = y) : ∀ q : Int, 0 ≤ q → q < j + 1 → tp (p + q) = ((tf_sb.getD i []).getD q.toNat 0).toInt := fun q q0 q1 => by
  by_cases c : q = j
  · rw [c, e, hne]; exact ey
  · exact h q q0 (by omega)
section TFS2
variable {p : Program} {l : Launch} {e : Env} {R : Room} {s : State} {m : MethodId} {args : Array Value} {below : List Frame} {meth : Method} {c : Code} {H : Heap} {locs : List Loc} {cells slots : Nat} {Q : State → Prop}
variable {cc : ByteArray} {pc : Nat} {ls : Array Slot} {rest : List Value} {g : tf_G} {M : List (Nat × Nat)} {T : tf_T}
theorem tf_sbytx {i w : Nat} {z : Int} (hexec : p.tables.exec = Jvm.exec) (hb : c.code = cc) (hk : tf_k g s) (hW : tf_n tf_kt g M T s.heap T H locs) (hi : i < 14) (hw : tf_sl.getD i 0 = w) (hw6 : w ≤ 6) (h0 : 0 ≤ z) (h1 : z < w) (hdg : decode cc pc = .ok (.baload, 1))
    (kk : ∀ y : Int, 97 ≤ y ∧ y ≤ 122 → y = ((tf_sb.getD i []).getD z.toNat 0).toInt → W p l e R s m args below meth c H locs cells slots Q (F0 m (pc + 1) ls (.int (Int32.ofInt y) :: rest))) : W p l e R s m args below meth c H locs cells slots Q (F0 m pc ls (.int (Int32.ofInt z) :: .ref (g.2.2.2 (40 + i)) :: rest)) := by
  have hcl : (Int32.ofInt z).toNatClampNeg = z.toNat := tf_cl ⟨by omega, by omega⟩ h0
  have hl := tf_sb_let ⟨i, hi⟩ ⟨z.toNat, by omega⟩ (by dsimp only; rw [hw]; omega)
  exact va_tb hexec hb (hk.2.2.2.2.2.1.1 i hi).2.2.2 (tf_S hW) (tf_in (by omega) h0 (by omega)) (v := .int (Int32.ofInt ((tf_sb.getD i []).getD z.toNat 0).toInt)) (congrArg Value.int (by rw [hcl, Int32.ofInt_toInt])) hdg (kk _ hl rfl)
theorem tf_i2c_x {x : Int} (hexec : p.tables.exec = Jvm.exec) (hb : c.code = cc) (h0 : 0 ≤ x) (h1 : x ≤ 65535) (hdg : decode cc pc = .ok (.i2c, 1))
    (kk : W p l e R s m args below meth c H locs cells slots Q (F0 m (pc + 1) ls (.int (Int32.ofInt x) :: rest))) : W p l e R s m args below meth c H locs cells slots Q (F0 m pc ls (.int (Int32.ofInt x) :: rest)) := by
  have hx := tf_b32 (Int32.ofInt x)
  rw [tf_ti ⟨by omega, by omega⟩] at hx
  have hlt := (Int32.ofInt x).toBitVec.isLt
  have e : (((Int32.ofInt x).toBitVec.toNat % 65536 : Nat) : Int) = x := by omega
  refine lv_i2c hexec hb hdg (v := Int32.ofInt (((Int32.ofInt x).toBitVec.toNat % 65536 : Nat) : Int)) ((pk_char (Int32.ofInt x)).trans (Int32.ofInt_eq_ofNat (n := (Int32.ofInt x).toBitVec.toNat % 65536)).symm) ?_
  rw [e]
  exact kk
end TFS2

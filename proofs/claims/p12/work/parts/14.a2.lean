theorem lw_n7 : ∀ j : Fin 14, 7 < j.val → Cond.not (Cond.eq (lw_tm 7) (lw_tm j.val)) ∈ lw_fl := by decide +kernel
theorem lw_n8 : ∀ j : Fin 14, 8 < j.val → Cond.not (Cond.eq (lw_tm 8) (lw_tm j.val)) ∈ lw_fl := by decide +kernel
theorem lw_n9 : ∀ j : Fin 14, 9 < j.val → Cond.not (Cond.eq (lw_tm 9) (lw_tm j.val)) ∈ lw_fl := by decide +kernel
theorem lw_n10 : ∀ j : Fin 14, 10 < j.val → Cond.not (Cond.eq (lw_tm 10) (lw_tm j.val)) ∈ lw_fl := by decide +kernel
theorem lw_n11 : ∀ j : Fin 14, 11 < j.val → Cond.not (Cond.eq (lw_tm 11) (lw_tm j.val)) ∈ lw_fl := by decide +kernel
theorem lw_n12 : ∀ j : Fin 14, 12 < j.val → Cond.not (Cond.eq (lw_tm 12) (lw_tm j.val)) ∈ lw_fl := by decide +kernel
theorem lw_nn : ∀ (i j : Nat), i < j → (hj : j < 14) → Cond.not (Cond.eq (lw_tm i) (lw_tm j)) ∈ lw_fl
  | 0, j, h, hj => lw_n0 ⟨j, hj⟩ h
  | 1, j, h, hj => lw_n1 ⟨j, hj⟩ h
  | 2, j, h, hj => lw_n2 ⟨j, hj⟩ h
  | 3, j, h, hj => lw_n3 ⟨j, hj⟩ h
  | 4, j, h, hj => lw_n4 ⟨j, hj⟩ h
  | 5, j, h, hj => lw_n5 ⟨j, hj⟩ h
  | 6, j, h, hj => lw_n6 ⟨j, hj⟩ h
  | 7, j, h, hj => lw_n7 ⟨j, hj⟩ h
  | 8, j, h, hj => lw_n8 ⟨j, hj⟩ h
  | 9, j, h, hj => lw_n9 ⟨j, hj⟩ h
  | 10, j, h, hj => lw_n10 ⟨j, hj⟩ h
  | 11, j, h, hj => lw_n11 ⟨j, hj⟩ h
  | 12, j, h, hj => lw_n12 ⟨j, hj⟩ h
  | (i + 13), j, h, hj => by omega
theorem lw_s7 (i j : Fin 14) (hne : i ≠ j) : Cond.not (Cond.eq (lw_tm i.val) (lw_tm j.val)) ∈ lw_fl ∨ Cond.not (Cond.eq (lw_tm j.val) (lw_tm i.val)) ∈ lw_fl := by
  have h : i.val ≠ j.val := fun e => hne (Fin.ext e)
  rcases (show i.val < j.val ∨ j.val < i.val by omega) with h1 | h1
  · exact Or.inl (lw_nn i.val j.val h1 j.isLt)
  · exact Or.inr (lw_nn j.val i.val h1 i.isLt)

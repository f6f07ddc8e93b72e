theorem lw_n0 : ∀ j : Fin 14, 0 < j.val → Cond.not (Cond.eq (lw_tm 0) (lw_tm j.val)) ∈ lw_fl := by decide +kernel
theorem lw_n1 : ∀ j : Fin 14, 1 < j.val → Cond.not (Cond.eq (lw_tm 1) (lw_tm j.val)) ∈ lw_fl := by decide +kernel
theorem lw_n2 : ∀ j : Fin 14, 2 < j.val → Cond.not (Cond.eq (lw_tm 2) (lw_tm j.val)) ∈ lw_fl := by decide +kernel
theorem lw_n3 : ∀ j : Fin 14, 3 < j.val → Cond.not (Cond.eq (lw_tm 3) (lw_tm j.val)) ∈ lw_fl := by decide +kernel
theorem lw_n4 : ∀ j : Fin 14, 4 < j.val → Cond.not (Cond.eq (lw_tm 4) (lw_tm j.val)) ∈ lw_fl := by decide +kernel
theorem lw_n5 : ∀ j : Fin 14, 5 < j.val → Cond.not (Cond.eq (lw_tm 5) (lw_tm j.val)) ∈ lw_fl := by decide +kernel
theorem lw_n6 : ∀ j : Fin 14, 6 < j.val → Cond.not (Cond.eq (lw_tm 6) (lw_tm j.val)) ∈ lw_fl := by decide +kernel

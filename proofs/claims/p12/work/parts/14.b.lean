theorem lw_arr {A : Array Value} {s : State} {ty : FieldType} (h : (Cond.arrayClass ty).before A s = true) : ∃ c : ClassId, ArrOfT s c ty ∧ s.vm.findClass ("[" ++ ty.toString) = some c := by
  obtain ⟨c, k, comp, h1, h2, h3⟩ := Cond.arrayClass_spec h
  exact ⟨c, fun n z => ⟨fun k h => (by cases h), k, h2, comp, h3⟩, h1⟩
theorem lw_aro {A : Array Value} {s : State} {C : String} (h : (Cond.arrayOver (.object C)).before A s = true) : ∃ c : ClassId, ArrOfT s c (.object C) ∧ va_RA s c (.object C) := by
  obtain ⟨comp, c, k, h1, h2, h3, h4, h5⟩ := Cond.arrayOver_spec h
  exact ⟨c, fun n z => ⟨fun k h => (by cases h), k, h3, comp, h4⟩, k, comp, h3, h4, h1, h5⟩
theorem lw_kn {s : State} {b : Nat} (hts : ∀ w ∈ wsL_law, w.before #[Value.ref b] s = true) : ∃ D : va_G, ∀ (k : Nat) (q : vw_C), vwCl[k]? = some q → u_Kn s q.1 q.2.1 q.2.2 (D.1 k) (D.2 k) := by
  obtain ⟨c0, i0, h0⟩ := u_known (C := RX0) (T := TX0) (N := 4) (n := 4) hts inlX0 (hts _ (tw2 (i := 19) rfl))
  obtain ⟨c1, i1, h1⟩ := u_known (C := RX1) (T := TX1) (N := 2) (n := 2) hts inlX1 (hts _ (tw20 (i := 4) rfl))
  obtain ⟨c2, i2, h2⟩ := u_known (C := RX2) (T := TX2) (N := 8) (n := 8) hts inlX2 (hts _ (tw2 (i := 2) rfl))
  obtain ⟨c3, i3, h3⟩ := u_known (C := RX3) (T := TX3) (N := 12) (n := 12) hts inlX3 (hts _ (tw1 (i := 13) rfl))
  obtain ⟨c4, i4, h4⟩ := u_known (C := RX4) (T := TX4) (N := 5) (n := 5) hts inlX4 (hts _ (tw5 (i := 23) rfl))
  obtain ⟨c5, i5, h5⟩ := u_known (C := RX5) (T := TX5) (N := 5) (n := 5) hts inlX5 (hts _ (tw2 (i := 23) rfl))
  obtain ⟨c6, i6, h6⟩ := u_known (C := RX6) (T := TX6) (N := 11) (n := 11) hts inlX6 (hts _ (tw1 (i := 22) rfl))
  obtain ⟨c7, i7, h7⟩ := u_known (C := RX7) (T := TX7) (N := 6) (n := 6) hts inlX7 (hts _ (tw1 (i := 18) rfl))
  obtain ⟨c8, i8, h8⟩ := u_known (C := RX8) (T := TX8) (N := 5) (n := 5) hts inlX8 (hts _ (tw3 (i := 3) rfl))
  obtain ⟨c9, i9, h9⟩ := u_known (C := RX9) (T := TX9) (N := 14) (n := 14) hts inlX9 (hts _ (tw1 (i := 1) rfl))
  obtain ⟨c10, i10, h10⟩ := u_known (C := RX10) (T := TX10) (N := 50) (n := 50) hts inlX10 (hts _ (tw1 (i := 4) rfl))
  refine ⟨(fun k => [c0, c1, c2, c3, c4, c5, c6, c7, c8, c9, c10].getD k c0, fun k => [i0, i1, i2, i3, i4, i5, i6, i7, i8, i9, i10].getD k i0), fun k q hq => ?_⟩
  match k, hq with
  | 0, hq => cases hq; exact h0
  | 1, hq => cases hq; exact h1
  | 2, hq => cases hq; exact h2
  | 3, hq => cases hq; exact h3
  | 4, hq => cases hq; exact h4
  | 5, hq => cases hq; exact h5
  | 6, hq => cases hq; exact h6
  | 7, hq => cases hq; exact h7
  | 8, hq => cases hq; exact h8
  | 9, hq => cases hq; exact h9
  | 10, hq => cases hq; exact h10
  | (k + 11), hq => simp [vwCl] at hq
theorem lw_ot : ∀ w ∈ tf_nw, w.onTables = true := by decide +kernel
theorem lw_k {s : State} {b : Nat} (htb : ∀ w ∈ lw_tbl, w.before #[Value.ref b] s = true) (hgv : (Jvm.Cond.and given_1 narrow_1).before #[Value.ref b] s = true) : ∃ g : tf_G, tf_k g s ∧ tf_B g = s.heap.size := by
  have hs : ∀ w ∈ lw_fl, w.before #[Value.ref b] s = true := flat_of_before _ hgv
  have hts : ∀ w ∈ wsL_law, w.before #[Value.ref b] s = true := fun w h => htb w (in_all w h)
  have hA : ∀ a : Nat, a < s.heap.size → ¬ (fun q : Nat => s.heap.size ≤ q) a := fun a h => Nat.not_le.mpr h
  obtain ⟨D, hD⟩ := lw_kn hts
  obtain ⟨aI, hI1, hI2⟩ := lw_arr (htb _ lw_t6.1)
  obtain ⟨aJ, hJ1, hJ2⟩ := lw_arr (htb _ lw_t6.2.1)
  obtain ⟨aZ, hZ1, hZ2⟩ := lw_arr (htb _ lw_t6.2.2.1)
  obtain ⟨aB, hB1, hB2⟩ := lw_arr (htb _ lw_t6.2.2.2.1)
  obtain ⟨aL, hL1, hL2⟩ := lw_aro (htb _ lw_t6.2.2.2.2.1)
  obtain ⟨aS, hS1, hS2⟩ := lw_aro (htb _ lw_t6.2.2.2.2.2)
  have hst : ∀ i : Nat, ∃ t : Nat, i < 4 → (Term.static "TowerFoot" (lw_zn i) "[I").eval #[Value.ref b] s none [] s = some (.ref t) ∧ va_T .int t (tf_zl.getD i 0) (fun j => .int ((tf_zb.getD i []).getD j 0)) (fun q : Nat => s.heap.size ≤ q) s s.heap := by
    intro i
    by_cases hi : i < 4
    · have h7 := tf_zl7 hi
      obtain ⟨t, h1, h2⟩ := va_Tof (args := #[Value.ref b]) (s := s) (tm := Term.static "TowerFoot" (lw_zn i) "[I") (ty := .int) (N := tf_zl.getD i 0) (f := fun j => .int ((tf_zb.getD i []).getD j 0)) (A := fun q : Nat => s.heap.size ≤ q) (by omega) (hs _ (lw_z1 ⟨i, hi⟩)) (va_eqt (hs _ (lw_z2 ⟨i, hi⟩))) (fun j hj => va_eqt (hs _ (lw_z3 ⟨i, hi⟩ ⟨j, by omega⟩ hj))) hA
      exact ⟨t, fun _ => ⟨h1, h2⟩⟩
    · exact ⟨0, fun h => absurd h hi⟩
  obtain ⟨zt, hzt⟩ := Classical.axiomOfChoice hst
  obtain ⟨adK, adV, hS, hSe⟩ := vk_Sof (args := #[Value.ref b]) (s := s) (N := 14) (tm := lw_tm) (len := tf_sl) (byt := tf_sb) (A := fun q : Nat => s.heap.size ≤ q) (fun i hi => by have := lw_s6 ⟨i, hi⟩; have : tf_sl.getD i 0 ≤ 6 := this; omega) (fun i hi => hs _ (lw_s1 ⟨i, hi⟩)) (fun i hi => hs _ (lw_s2 ⟨i, hi⟩)) (fun i hi => hs _ (lw_s3 ⟨i, hi⟩)) (fun i hi => hs _ (lw_s4 ⟨i, hi⟩))
    (fun i hi j hj => by have h6 : tf_sl.getD i 0 ≤ 6 := lw_s6 ⟨i, hi⟩; exact hs _ (lw_s5 ⟨i, hi⟩ ⟨j, by omega⟩ hj))
    (fun i j hi hj hne => (lw_s7 ⟨i, hi⟩ ⟨j, hj⟩ (fun e => hne (Fin.mk.inj e))).imp (hs _) (hs _)) hA
  have hcs := va_Zof (A := fun q : Nat => s.heap.size ≤ q) (htb _ lw_t1) (htb _ lw_t3.1) (va_eqt (hs _ lw_c1)) hA
  have hsf := va_Zqof (A := fun q : Nat => s.heap.size ≤ q) (htb _ lw_t2) (htb _ lw_t3.2.1) (hs _ lw_c2) hA
  refine ⟨(D, fun k => [aI, aJ, aZ, aB, aL, aS].getD k aI, s.heap.size, fun k => if k < 4 then zt k else if k < 40 then adK (k - 10) else adV (k - 40)), ⟨⟨hD, ?_⟩, ?_, ?_, va_AO.of (htb _ lw_t6.2.2.2.2.1), va_AO.of (htb _ lw_t6.2.2.2.2.2), ?_, ?_, hcs, hsf, ?_⟩, rfl⟩
  · intro k q hq
    match k, hq with
    | 0, hq => cases hq; exact ⟨hI1, hI2⟩
    | 1, hq => cases hq; exact ⟨hJ1, hJ2⟩
    | 2, hq => cases hq; exact ⟨hZ1, hZ2⟩
    | 3, hq => cases hq; exact ⟨hB1, hB2⟩
    | 4, hq => cases hq; exact ⟨hL1, hL2⟩
    | 5, hq => cases hq; exact ⟨hS1, hS2⟩
    | (k + 6), hq => simp [tf_tys] at hq
  · intro w hw
    exact va_Nw.of (lw_ot w hw) (htb w (lw_t5 w hw))
  · intro z hz
    simp only [tf_zs, List.mem_cons, List.not_mem_nil, or_false] at hz
    rcases hz with rfl | rfl | rfl | rfl
    · exact va_Zref (htb _ (lw_z4 0)) (htb _ lw_t3.2.2) (hzt 0 (by decide)).1 hA
    · exact va_Zref (htb _ (lw_z4 1)) (htb _ lw_t3.2.2) (hzt 1 (by decide)).1 hA
    · exact va_Zref (htb _ (lw_z4 2)) (htb _ lw_t3.2.2) (hzt 2 (by decide)).1 hA
    · exact va_Zref (htb _ (lw_z4 3)) (htb _ lw_t3.2.2) (hzt 3 (by decide)).1 hA
  · refine ⟨fun i hi => ?_, fun i j hi hj e => ?_⟩
    · have h1 := hS.1 i hi
      show va_O _ (if 10 + i < 4 then zt (10 + i) else if 10 + i < 40 then adK (10 + i - 10) else adV (10 + i - 40)) _ _ _ ∧ va_OF _ _ _ _ (if 10 + i < 4 then zt (10 + i) else if 10 + i < 40 then adK (10 + i - 10) else adV (10 + i - 40)) _ _ _ ∧ va_OF _ _ _ (.ref (if 40 + i < 4 then zt (40 + i) else if 40 + i < 40 then adK (40 + i - 10) else adV (40 + i - 40))) (if 10 + i < 4 then zt (10 + i) else if 10 + i < 40 then adK (10 + i - 10) else adV (10 + i - 40)) _ _ _ ∧ va_T _ (if 40 + i < 4 then zt (40 + i) else if 40 + i < 40 then adK (40 + i - 10) else adV (40 + i - 40)) _ _ _ _ _
      rw [if_neg (by omega), if_pos (by omega), if_neg (by omega), if_neg (by omega), Nat.add_sub_cancel_left, Nat.add_sub_cancel_left]
      exact h1
    · apply hS.2 i j hi hj
      have e2 : (if 10 + i < 4 then zt (10 + i) else if 10 + i < 40 then adK (10 + i - 10) else adV (10 + i - 40)) = (if 10 + j < 4 then zt (10 + j) else if 10 + j < 40 then adK (10 + j - 10) else adV (10 + j - 40)) := e
      rw [if_neg (by omega), if_pos (by omega), if_neg (by omega), if_pos (by omega), Nat.add_sub_cancel_left, Nat.add_sub_cancel_left] at e2
      exact e2
  · intro i x hx
    have hi : i < 14 := (List.getElem?_eq_some_iff.mp hx).1
    have hd : tf_sx.getD i (0, "") = x := by rw [List.getD_eq_getElem?_getD, hx]; rfl
    have h1 := lw_t4 ⟨i, hi⟩
    have h2 := hSe i hi
    unfold lw_tm at h2
    dsimp only at h1
    rw [hd] at h1 h2
    show vk_R RX4 x.1 x.2 (if 10 + i < 4 then zt (10 + i) else if 10 + i < 40 then adK (10 + i - 10) else adV (10 + i - 40)) s
    rw [if_neg (by omega), if_pos (by omega), Nat.add_sub_cancel_left]
    exact vk_R.of (htb _ h1) h2
  · intro i hi
    show va_T .int (if i < 4 then zt i else if i < 40 then adK (i - 10) else adV (i - 40)) _ _ _ _ _
    rw [if_pos hi]
    exact (hzt i hi).2

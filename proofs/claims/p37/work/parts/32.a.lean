def tf_qk (q : Int → Int) (k : Int) : Int → Int := fun j => q (5830 * k + j)
def tf_IS1 (g : tf_G) (T : tf_T) (H : Heap) (im : Nat) (kept : Int) (q : Int → Int) : Prop := (kept = 0 ∧ tf_s H im 0 = some .null) ∨ (kept = 1 ∧ ∃ (ss lp lh yr wh : Nat), T ss = some (32, 0) ∧ T lp = some (16, 4) ∧ T lh = some (17, 4) ∧ T yr = some (18, 40) ∧ T wh = some (19, 4) ∧ tf_s H im 0 = some (.ref ss) ∧ tf_s H ss (g.1.2 3 3) = some (.ref lp) ∧ tf_s H ss (g.1.2 3 4) = some (.ref lh) ∧ tf_s H ss (g.1.2 3 5) = some (.ref yr) ∧ tf_s H ss (g.1.2 3 6) = some (.ref wh) ∧ tf_RL (tf_rw H lp) (tf_rw H lh) (tf_rw H yr) (tf_rw H wh) q)
theorem tf_IS1_slot {g : tf_G} {T : tf_T} {H : Heap} {im : Nat} {kept : Int} {q : Int → Int} {H' : Heap} {M : List (Nat × Nat)} {v : Value} (hF : tf_f tf_kt g M T H H') (hv : tf_s H im 0 = some v) (hw : tf_s H' im 0 = some v) (hM : ∀ x ∈ ([(32, 3), (32, 4), (32, 5), (32, 6), (16, 0), (17, 0), (18, 0), (19, 0)] : List (Nat × Nat)), x ∉ M) (h : tf_IS1 g T H im kept q) : tf_IS1 g T H' im kept q := by
  rcases h with ⟨h1, h2⟩ | ⟨h1, ss, lp, lh, yr, wh, a1, a2, a3, a4, a5, b1, b2, b3, b4, b5, hR⟩
  · exact Or.inl ⟨h1, by rw [hw, ← hv, h2]⟩
  · have hs1 : tf_s H' im 0 = some (.ref ss) := by rw [hw, ← hv, b1]
    have c1 : tf_rw H' lp = tf_rw H lp := tf_keepC hF a2 rfl (hM _ (by decide)) rfl
    have c2 : tf_rw H' lh = tf_rw H lh := tf_keepC hF a3 rfl (hM _ (by decide)) rfl
    have c3 : tf_rw H' yr = tf_rw H yr := tf_keepC hF a4 rfl (hM _ (by decide)) rfl
    have c4 : tf_rw H' wh = tf_rw H wh := tf_keepC hF a5 rfl (hM _ (by decide)) rfl
    exact Or.inr ⟨h1, ss, lp, lh, yr, wh, a1, a2, a3, a4, a5, hs1, tf_keepF hF a1 rfl rfl (hM _ (by decide)) b2, tf_keepF hF a1 rfl rfl (hM _ (by decide)) b3, tf_keepF hF a1 rfl rfl (hM _ (by decide)) b4, tf_keepF hF a1 rfl rfl (hM _ (by decide)) b5, by rw [c1, c2, c3, c4]; exact hR⟩
theorem tf_IS1_v {g : tf_G} {T : tf_T} {H : Heap} {im : Nat} {kept : Int} {q : Int → Int} (h : tf_IS1 g T H im kept q) : ∃ v, tf_s H im 0 = some v := by
  rcases h with ⟨h1, h2⟩ | ⟨h1, ss, lp, lh, yr, wh, a1, a2, a3, a4, a5, b1, b2, b3, b4, b5, hR⟩
  · exact ⟨_, h2⟩
  · exact ⟨_, b1⟩
theorem tf_IS1_keep {g : tf_G} {T : tf_T} {H : Heap} {im : Nat} {kept : Int} {q : Int → Int} {H' : Heap} {M : List (Nat × Nat)} (hF : tf_f tf_kt g M T H H') (him : T im = some (15, 2)) (hI : (15, 0) ∉ M) (hM : ∀ x ∈ ([(32, 3), (32, 4), (32, 5), (32, 6), (16, 0), (17, 0), (18, 0), (19, 0)] : List (Nat × Nat)), x ∉ M) (h : tf_IS1 g T H im kept q) : tf_IS1 g T H' im kept q := by
  obtain ⟨v, hv⟩ := tf_IS1_v h
  exact tf_IS1_slot hF hv (tf_keepS hF him rfl hI hv) hM h
theorem tf_IS1_mono {g : tf_G} {T : tf_T} {H : Heap} {im : Nat} {kept : Int} {q : Int → Int} {T' : tf_T} (hE : ∀ b x, T b = some x → T' b = some x) (h : tf_IS1 g T H im kept q) : tf_IS1 g T' H im kept q := by
  rcases h with h | ⟨h1, ss, lp, lh, yr, wh, a1, a2, a3, a4, a5, b1, b2, b3, b4, b5, hR⟩
  · exact Or.inl h
  · exact Or.inr ⟨h1, ss, lp, lh, yr, wh, hE _ _ a1, hE _ _ a2, hE _ _ a3, hE _ _ a4, hE _ _ a5, b1, b2, b3, b4, b5, hR⟩
theorem tf_IS1_to {g : tf_G} {T : tf_T} {H : Heap} {im : Nat} {kept : Int} {q : Int → Int} {kept2 : Int} {q2 : Int → Int} (h : tf_IS1 g T H im kept q) (hk : kept2 = kept) (hq : ∀ j, 0 ≤ j → j < 5830 → q2 j = q j) : tf_IS1 g T H im kept2 q2 := by
  subst hk
  rcases h with h | ⟨h1, ss, lp, lh, yr, wh, a1, a2, a3, a4, a5, b1, b2, b3, b4, b5, hR⟩
  · exact Or.inl h
  · exact Or.inr ⟨h1, ss, lp, lh, yr, wh, a1, a2, a3, a4, a5, b1, b2, b3, b4, b5, tf_RL_to hR hq⟩

def tf_IS2 (g : tf_G) (T : tf_T) (H : Heap) (im : Nat) (kept : Int) (q : Int → Int) : Prop := (kept = 0 ∧ tf_s H im 1 = some .null) ∨ (kept = 1 ∧ ∃ (ss lp lh yr wh : Nat), T ss = some (33, 0) ∧ T lp = some (20, 4) ∧ T lh = some (21, 4) ∧ T yr = some (22, 40) ∧ T wh = some (23, 4) ∧ tf_s H im 1 = some (.ref ss) ∧ tf_s H ss (g.1.2 3 3) = some (.ref lp) ∧ tf_s H ss (g.1.2 3 4) = some (.ref lh) ∧ tf_s H ss (g.1.2 3 5) = some (.ref yr) ∧ tf_s H ss (g.1.2 3 6) = some (.ref wh) ∧ tf_RL (tf_rw H lp) (tf_rw H lh) (tf_rw H yr) (tf_rw H wh) q)
theorem tf_IS2_slot {g : tf_G} {T : tf_T} {H : Heap} {im : Nat} {kept : Int} {q : Int → Int} {H' : Heap} {M : List (Nat × Nat)} {v : Value} (hF : tf_f tf_kt g M T H H') (hv : tf_s H im 1 = some v) (hw : tf_s H' im 1 = some v) (hM : ∀ x ∈ ([(33, 3), (33, 4), (33, 5), (33, 6), (20, 0), (21, 0), (22, 0), (23, 0)] : List (Nat × Nat)), x ∉ M) (h : tf_IS2 g T H im kept q) : tf_IS2 g T H' im kept q := by
  rcases h with ⟨h1, h2⟩ | ⟨h1, ss, lp, lh, yr, wh, a1, a2, a3, a4, a5, b1, b2, b3, b4, b5, hR⟩
  · exact Or.inl ⟨h1, by rw [hw, ← hv, h2]⟩
  · have hs1 : tf_s H' im 1 = some (.ref ss) := by rw [hw, ← hv, b1]
    have c1 : tf_rw H' lp = tf_rw H lp := tf_keepC hF a2 rfl (hM _ (by decide)) rfl
    have c2 : tf_rw H' lh = tf_rw H lh := tf_keepC hF a3 rfl (hM _ (by decide)) rfl
    have c3 : tf_rw H' yr = tf_rw H yr := tf_keepC hF a4 rfl (hM _ (by decide)) rfl
    have c4 : tf_rw H' wh = tf_rw H wh := tf_keepC hF a5 rfl (hM _ (by decide)) rfl
    exact Or.inr ⟨h1, ss, lp, lh, yr, wh, a1, a2, a3, a4, a5, hs1, tf_keepF hF a1 rfl rfl (hM _ (by decide)) b2, tf_keepF hF a1 rfl rfl (hM _ (by decide)) b3, tf_keepF hF a1 rfl rfl (hM _ (by decide)) b4, tf_keepF hF a1 rfl rfl (hM _ (by decide)) b5, by rw [c1, c2, c3, c4]; exact hR⟩
theorem tf_IS2_v {g : tf_G} {T : tf_T} {H : Heap} {im : Nat} {kept : Int} {q : Int → Int} (h : tf_IS2 g T H im kept q) : ∃ v, tf_s H im 1 = some v := by
  rcases h with ⟨h1, h2⟩ | ⟨h1, ss, lp, lh, yr, wh, a1, a2, a3, a4, a5, b1, b2, b3, b4, b5, hR⟩
  · exact ⟨_, h2⟩
  · exact ⟨_, b1⟩
theorem tf_IS2_keep {g : tf_G} {T : tf_T} {H : Heap} {im : Nat} {kept : Int} {q : Int → Int} {H' : Heap} {M : List (Nat × Nat)} (hF : tf_f tf_kt g M T H H') (him : T im = some (15, 2)) (hI : (15, 0) ∉ M) (hM : ∀ x ∈ ([(33, 3), (33, 4), (33, 5), (33, 6), (20, 0), (21, 0), (22, 0), (23, 0)] : List (Nat × Nat)), x ∉ M) (h : tf_IS2 g T H im kept q) : tf_IS2 g T H' im kept q := by
  obtain ⟨v, hv⟩ := tf_IS2_v h
  exact tf_IS2_slot hF hv (tf_keepS hF him rfl hI hv) hM h
theorem tf_IS2_mono {g : tf_G} {T : tf_T} {H : Heap} {im : Nat} {kept : Int} {q : Int → Int} {T' : tf_T} (hE : ∀ b x, T b = some x → T' b = some x) (h : tf_IS2 g T H im kept q) : tf_IS2 g T' H im kept q := by
  rcases h with h | ⟨h1, ss, lp, lh, yr, wh, a1, a2, a3, a4, a5, b1, b2, b3, b4, b5, hR⟩
  · exact Or.inl h
  · exact Or.inr ⟨h1, ss, lp, lh, yr, wh, hE _ _ a1, hE _ _ a2, hE _ _ a3, hE _ _ a4, hE _ _ a5, b1, b2, b3, b4, b5, hR⟩
theorem tf_IS2_to {g : tf_G} {T : tf_T} {H : Heap} {im : Nat} {kept : Int} {q : Int → Int} {kept2 : Int} {q2 : Int → Int} (h : tf_IS2 g T H im kept q) (hk : kept2 = kept) (hq : ∀ j, 0 ≤ j → j < 5830 → q2 j = q j) : tf_IS2 g T H im kept2 q2 := by
  subst hk
  rcases h with h | ⟨h1, ss, lp, lh, yr, wh, a1, a2, a3, a4, a5, b1, b2, b3, b4, b5, hR⟩
  · exact Or.inl h
  · exact Or.inr ⟨h1, ss, lp, lh, yr, wh, a1, a2, a3, a4, a5, b1, b2, b3, b4, b5, tf_RL_to hR hq⟩

theorem tf_im_at {q r q1 : Int → Int} {v k : Int} (h : tf_im q r v 5830 q1) (hv : v = k) : ∀ j, 0 ≤ j → j < 5830 → tf_qk q1 k j = r j := fun j j0 j1 => by
  subst hv
  unfold tf_qk
  rw [h, if_pos (by omega), show 5830 * v + j - 5830 * v = j by omega]
theorem tf_im_ne {q r q1 : Int → Int} {v k k2 : Int} (h : tf_im q r v 5830 q1) (hv : v = k) (hk : (k = 0 ∧ k2 = 1) ∨ (k = 1 ∧ k2 = 0)) : ∀ j, 0 ≤ j → j < 5830 → tf_qk q1 k2 j = tf_qk q k2 j := fun j j0 j1 => by
  subst hv
  unfold tf_qk
  rw [h, if_neg (by omega)]
theorem tf_bk_at {q r r1 : Int → Int} {v k : Int} (h : tf_bk r q v 5830 r1) (hv : v = k) : ∀ j, 0 ≤ j → j < 5830 → r1 j = tf_qk q k j := fun j j0 j1 => by
  subst hv
  unfold tf_qk
  rw [h, if_pos (by omega)]
theorem tf_S10_0 (w : Int) : tf_S10 (fun _ => 0) w = 0 := rfl
theorem tf_RL_0 {gl gh gy gw rr : Int → Int} (h1 : gl 1 = 99 ∧ gl 2 = 99 ∧ gl 3 = 99) (h2 : gh = fun _ => 0) (h3 : gy = fun _ => 0) (h4 : gw = fun _ => 0) (h5 : rr 5 = 99 ∧ rr 7 = 99 ∧ rr 9 = 99 ∧ ∀ j, j ≠ 2 → j ≠ 5 → j ≠ 7 → j ≠ 9 → rr j = 0) : tf_RL gl gh gy gw rr := by
  subst h2 h3 h4
  obtain ⟨a, b, c, d⟩ := h5
  refine ⟨fun i i0 i1 => ?_, fun i i0 i1 => ?_, fun i i0 i1 => ?_, fun w w0 w1 => ?_⟩
  · rw [d (5 + 2 * (i - 1) + 1) (by omega) (by omega) (by omega) (by omega)]
    refine ⟨?_, rfl⟩
    rcases (show i = 1 ∨ i = 2 ∨ i = 3 by omega) with rfl | rfl | rfl
    · exact h1.1.trans a.symm
    · exact h1.2.1.trans b.symm
    · exact h1.2.2.trans c.symm
  · exact (d _ (by omega) (by omega) (by omega) (by omega)).symm
  · show (0 : Int) ≤ 0 ∧ (0 : Int) ≤ 999
    omega
  · exact (tf_S10_0 w).symm


abbrev M_law : List (Nat × Nat) := [(0, 0), (1, 0), (2, 0), (3, 0), (4, 0), (5, 0), (6, 0), (7, 0), (8, 0), (9, 0), (10, 0), (11, 0), (12, 0), (13, 0), (14, 0), (15, 0), (16, 0), (17, 0), (18, 0), (19, 0), (20, 0), (21, 0), (22, 0), (23, 0), (24, 0), (25, 0), (30, 1), (30, 4), (30, 5), (30, 6), (30, 7), (31, 8), (31, 9), (31, 11), (32, 8), (32, 9), (32, 11), (33, 8), (33, 9), (33, 11), (34, 2), (34, 3), (34, 4), (35, 4), (36, 2), (36, 3), (36, 4), (36, 5), (36, 6), (36, 7), (36, 8), (36, 9), (36, 10), (37, 5), (38, 4), (39, 7), (39, 8), (39, 9), (39, 11), (39, 13), (40, 0), (41, 0), (42, 0), (43, 0), (44, 0), (45, 0), (46, 0), (47, 0), (48, 0), (49, 0), (50, 0), (51, 0), (52, 0), (53, 0), (54, 0), (55, 0), (56, 0), (57, 0), (58, 0), (59, 0), (60, 0), (61, 0), (62, 0), (63, 0), (63, 1), (63, 6), (63, 8), (63, 9), (63, 10), (63, 11), (63, 12), (63, 13), (63, 14), (63, 15), (63, 17), (63, 20), (63, 23), (63, 24), (63, 26), (63, 29), (63, 30), (63, 31), (63, 37), (63, 38), (63, 39), (63, 40), (63, 41), (63, 42), (63, 48), (63, 49), (64, 0), (64, 1), (64, 2), (64, 3), (65, 0), (65, 1), (66, 0), (66, 1), (66, 2), (66, 3), (66, 4), (66, 5), (66, 6), (66, 7), (67, 0), (67, 1), (67, 2), (67, 3), (67, 4), (67, 5), (67, 6), (67, 7), (67, 8), (67, 9), (67, 10), (67, 11), (68, 0), (68, 1), (68, 2), (68, 3), (68, 4), (69, 0), (69, 1), (69, 2), (69, 3), (69, 4), (70, 0), (70, 1), (70, 2), (70, 3), (70, 4), (70, 5), (70, 6), (70, 7), (70, 8), (70, 9), (70, 10), (71, 0), (71, 1), (71, 2), (71, 3), (71, 4), (71, 5), (72, 0), (72, 1), (72, 2), (72, 3), (72, 4), (73, 0), (73, 1), (73, 2), (73, 3), (73, 4), (73, 5), (73, 6), (73, 7), (73, 8), (73, 9), (73, 10), (73, 11), (73, 12), (73, 13), (74, 2), (74, 3), (74, 4), (74, 5), (74, 7), (74, 13), (74, 16), (74, 18), (74, 19), (74, 21), (74, 22), (74, 25), (74, 27), (74, 28), (74, 32), (74, 33), (74, 34), (74, 35), (74, 36), (74, 43), (74, 44), (74, 45), (74, 46), (74, 47)]
def lw_I (g : tf_G) (T : tf_T) (H : Heap) (ax am : Nat) : Prop := ∃ (sq im ta dh lp lh yr wh ro iz kp tm dw : Nat) (tt uu dd : Int) (gl gh gy gw tp gd rr qq rk tq gm : Int → Int), T sq = some (31, 0) ∧ T im = some (15, 2) ∧ T ta = some (3, 400) ∧ T dh = some (12, 24) ∧ T lp = some (5, 4) ∧ T lh = some (6, 4) ∧ T yr = some (7, 40) ∧ T wh = some (8, 4) ∧ T ro = some (41, 5830) ∧ T iz = some (42, 11660) ∧ T kp = some (43, 2) ∧ T tm = some (44, 400) ∧ T dw = some (62, 24) ∧ (0 ≤ tt ∧ tt ≤ 400) ∧ ((-2147483648) ≤ uu ∧ uu ≤ 2147483647) ∧ (0 ≤ dd ∧ dd ≤ 1) ∧ tf_s H ax (g.1.2 9 0) = some (.ref sq) ∧ tf_s H ax (g.1.2 9 1) = some (.ref im) ∧ tf_s H ax (g.1.2 9 6) = some (.ref ta) ∧ tf_s H ax (g.1.2 9 7) = some (.int (Int32.ofInt tt)) ∧ tf_s H ax (g.1.2 9 8) = some (.int (Int32.ofInt uu)) ∧ tf_s H ax (g.1.2 9 10) = some (.ref dh) ∧ tf_s H ax (g.1.2 9 11) = some (.int (Int32.ofInt dd)) ∧ tf_s H sq (g.1.2 3 3) = some (.ref lp) ∧ tf_s H sq (g.1.2 3 4) = some (.ref lh) ∧ tf_s H sq (g.1.2 3 5) = some (.ref yr) ∧ tf_s H sq (g.1.2 3 6) = some (.ref wh) ∧ tf_rw H lp = gl ∧ tf_rw H lh = gh ∧ tf_rw H yr = gy ∧ tf_rw H wh = gw ∧ tf_rw H ta = tp ∧ tf_rw H dh = gd ∧ tf_s H am (g.1.2 10 3) = some (.ref ro) ∧ tf_s H am (g.1.2 10 4) = some (.ref iz) ∧ tf_s H am (g.1.2 10 5) = some (.ref kp) ∧ tf_s H am (g.1.2 10 6) = some (.int (Int32.ofInt uu)) ∧ tf_s H am (g.1.2 10 7) = some (.ref tm) ∧ tf_s H am (g.1.2 10 8) = some (.int (Int32.ofInt tt)) ∧ tf_s H am (g.1.2 10 47) = some (.ref dw) ∧ tf_s H am (g.1.2 10 48) = some (.int (Int32.ofInt dd)) ∧ tf_rw H ro = rr ∧ tf_rw H iz = qq ∧ tf_rw H kp = rk ∧ tf_rw H tm = tq ∧ tf_rw H dw = gm ∧ (tf_RL gl gh gy gw rr) ∧ (∀ h, 0 ≤ h → h < 24 → gd h = gm h) ∧ (tp = tq) ∧ (tf_IS1 g T H im (rk 0) (tf_qk qq 0)) ∧ (tf_IS2 g T H im (rk 1) (tf_qk qq 1))
theorem lw_R1 : 2048 ≤ room_1.frames := by decide
theorem lw_R2 : 84000 ≤ room_1.locals := by decide
theorem lw_R3 : 600000 ≤ room_1.cells := by decide
theorem lw_R4 : 7302250 ≤ room_1.slots := by decide
def lw_E (p : Program) (s : State) (m : MethodId) (c : Code) (b L : Nat) (g : tf_G) (sx : Int → Int) : Prop := p.tables.exec = Jvm.exec ∧ c.code = code ∧ c.maxLocals = 4 ∧ s.vm.findClass RL = some m.cls ∧ (∀ w ∈ wsL_law, w.before #[Value.ref b] s = true) ∧ b < s.heap.size ∧ tf_k g s ∧ tf_B g = s.heap.size ∧ (∀ j : Int, tf_r (sx j)) ∧ va_X b L (fun j => Int32.ofInt (sx (j : Int))) s s.heap ∧ L ≤ 3072
section LWR
variable {p : Program} {l : Launch} {e : Env} {R : Room} {s : State} {m : MethodId} {args : Array Value} {below : List Frame} {meth : Method} {c : Code} {H : Heap} {locs : List Loc} {cells slots : Nat} {Q : State → Prop}
variable {cc : ByteArray} {pc : Nat} {ls : Array Slot} {rest : List Value} {g : tf_G} {M : List (Nat × Nat)} {T0 T : tf_T}
theorem lw_S (hW : tf_n tf_kt g M T0 s.heap T H locs) : va_S (fun q => tf_B g ≤ q) s.heap H locs := ⟨hW.2.2.1.1, fun q h1 h2 => hW.2.2.1.2.1 q h1 (Or.inl (Nat.not_le.mp h2)), hW.2.2.2.1⟩
theorem lw_sld (hexec : p.tables.exec = Jvm.exec) (hb : c.code = cc) {b L : Nat} {sx : Int → Int} (hX : va_X b L (fun j => Int32.ofInt (sx (j : Int))) s s.heap) (hbl : b < s.heap.size) (hB : tf_B g = s.heap.size) (hL : L ≤ 3072) (hW : tf_n tf_kt g M T0 s.heap T H locs) {i : Int} (h0 : 0 ≤ i) (h1 : i < L) (hdg : decode cc pc = .ok (.iaload, 1))
    (kk : W p l e R s m args below meth c H locs cells slots Q (F0 m (pc + 1) ls (.int (Int32.ofInt (sx i)) :: rest))) : W p l e R s m args below meth c H locs cells slots Q (F0 m pc ls (.int (Int32.ofInt i) :: .ref b :: rest)) := by
  have hcl : (Int32.ofInt i).toNatClampNeg = i.toNat := tf_cl ⟨by omega, by omega⟩ h0
  refine va_sld hexec hb hX hbl (A := fun q => tf_B g ≤ q) (by show ¬ tf_B g ≤ b; omega) (lw_S hW) (tf_in (by omega) h0 h1) hdg ?_
  rw [hcl, show ((i.toNat : Nat) : Int) = i by omega]
  exact kk
theorem lw_sln (hexec : p.tables.exec = Jvm.exec) (hb : c.code = cc) {b L : Nat} {xs : Nat → Int32} (hX : va_X b L xs s s.heap) (hbl : b < s.heap.size) (hB : tf_B g = s.heap.size) (hW : tf_n tf_kt g M T0 s.heap T H locs) (hdg : decode cc pc = .ok (.arraylength, 1))
    (kk : W p l e R s m args below meth c H locs cells slots Q (F0 m (pc + 1) ls (.int (Int32.ofInt (L : Int)) :: rest))) : W p l e R s m args below meth c H locs cells slots Q (F0 m pc ls (.ref b :: rest)) := by
  refine va_slen hexec hb hX hbl (A := fun q => tf_B g ≤ q) (by show ¬ tf_B g ≤ b; omega) (lw_S hW) hdg ?_
  rw [← Int32.ofInt_eq_ofNat]
  exact kk
theorem tf_newD (hexec : p.tables.exec = Jvm.exec) (hb : c.code = cc) {own C : String} {Tb : u_T} {N ci index : Nat} {Ts : List Cond} {H0 : Heap} {cl : List vw_C} {tys : List (ClassId × FieldType)} (hts : ∀ w ∈ Ts, w.before args s = true) (hin : ∀ w ∈ u_ws C Tb N, w ∈ Ts) (ty : Nat → FieldType) (hty : ∀ k, k < N → parseFieldDescriptor (Tb k).2.2.1 = some (ty k)) (hown : s.vm.findClass own = some m.cls) (hcl : (Cond.classLink own index C).before args s = true) (hinst : (Cond.instantiable C N).before args s = true) (hini : (Cond.initialized C).before args s = true)
    (hK : va_K g.1 cl tys s) (hc : cl[ci]? = some (C, Tb, N)) (hW : tf_n tf_kt g M T0 H0 T H locs) {kr : Nat} {fr : List tf_F} (hkr : tf_kt[kr]? = some (false, ci, fr, false)) (hfr : fr.length = N ∧ ∀ f ∈ fr, f.1 = 6) (hcells : cells + 1 ≤ R.cells) (hslots : slots + N ≤ R.slots) (hdg : decode cc pc = .ok (.new index, 3))
    (kk : ∀ (q : Nat) (H' : Heap) (T' : tf_T), H.size = q → T' = tf_set T q (kr, 0) → T' q = some (kr, 0) → (∀ b x, T b = some x → T' b = some x) → tf_n tf_kt g M T0 H0 T' H' locs → (∀ b x, T b = some x → H'[b]? = H[b]?) → (∀ j, j < N → tf_s H' q (g.1.2 ci j) = some (defaultValue (ty j))) → W p l e R s m args below meth c H' locs (cells + 1) (slots + N) Q (F0 m (pc + 3) ls (.ref q :: rest))) : W p l e R s m args below meth c H locs cells slots Q (F0 m pc ls rest) := by
  have hKn := hK.1 ci _ hc
  refine W.newcK hexec hb hown hcl hinst hini rfl hdg hcells hslots hKn.2.1 rfl fun H1 kC hkC e1 z1 o1 => ?_
  have hT := hW.1.none
  obtain ⟨cell, b1, b2, b3, b4⟩ := u_born ty hts hin hKn hkC e1 hty
  refine kk H.size H1 _ rfl rfl tf_set_at (fun b x h => by rw [tf_set_ne (by rintro rfl; rw [hT] at h; cases h)]; exact h) (hW.grow e1 z1 o1 ?_) (fun b x h => o1 b (hW.1.lt h)) (fun j hj => by unfold tf_s; rw [b1]; exact b4 j hj)
  cases e1.symm.trans b1
  refine ⟨_, hkr, b3, fun h => (by cases h), fun _ => ⟨b2, fun j f hj => ?_⟩⟩
  have hj2 : j < N := by rw [← hfr.1]; exact (List.getElem?_eq_some_iff.mp hj).1
  refine ⟨_, b4 j hj2, ?_⟩
  have h6 := hfr.2 f (List.mem_of_getElem? hj)
  obtain ⟨tag, k, mm, lo, hi⟩ := f
  dsimp only at h6
  subst h6
  exact trivial
end LWR
theorem lw_d0 : some (defaultValue .int) = some (Value.int (Int32.ofInt 0)) := by show some (Value.int 0) = _; rw [tf_0]
theorem lw_dz : some (defaultValue .boolean) = some (Value.int (Int32.ofInt 0)) := by show some (Value.int 0) = _; rw [tf_0]
theorem lw_dl : some (defaultValue .long) = some (Value.long (Int64.ofInt 0)) := by show some (Value.long 0) = _; rw [tf_0L]
def lw_nx (p : Program) (l : Launch) (e : Env) (s : State) (m : MethodId) (below : List Frame) (meth : Method) (c : Code) (b : Nat) (g : tf_G) (ax am jj : Nat) (ii : Int) (Q : State → Prop) : Prop := ∀ (T : tf_T) (H : Heap) (locs : List Loc), tf_n tf_kt g M_law (fun _ => none) s.heap T H locs → T ax = some (39, 0) → T am = some (63, 0) → lw_I g T H ax am → ∀ ls, lv_has ls 4 [(3, .int (Int32.ofInt ii)), (2, .ref am), (1, .ref ax), (0, .ref b)] → W p l e room_1 s m #[Value.ref b] below meth c H locs (130 + 30 * jj) (31200 + 1200 * jj) Q (F0 m 1498 ls [])

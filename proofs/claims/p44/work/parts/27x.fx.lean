theorem cf_get {o : Nat → Int} {lv : ex_L} {cs : ex_C} {fc : ab_F} {y : ab_Y} {lo hi z : Int} {d : Option (Nat × Int)} (h : ab_cf o lv cs fc) (hm : (y, lo, hi, d) ∈ fc) (hz : ab_kv o lv cs y = some z) : lo ≤ z ∧ z ≤ hi := by
  obtain ⟨x, hx, hb, hc, -⟩ := h _ hm
  rw [hz] at hx
  cases hx
  exact ⟨hb, hc⟩
theorem cf_fin {o : Nat → Int} {lv : ex_L} {cs : ex_C} {fc : ab_F} {k j : Nat} {lo hi : Int} {d : Option (Nat × Int)} (h : ab_cf o lv cs fc) (hm : ((1, k, j), lo, hi, d) ∈ fc) : ∃ z, ab_ri cs k j = some z ∧ lo ≤ z ∧ z ≤ hi ∧ ∀ e, d = some e → z = o e.1 + e.2 := h _ hm
theorem oo_v {av : ex_V} {cs : ex_C} {i : Nat} {x : Int32} (hi : i < 1000) (h : av[i]? = some (.int x)) : ab_oo (av.map some) cs i = x.toInt := by
  unfold ab_oo
  rw [if_pos hi, ab_avli h]
  rfl
theorem oo_c {lv : ex_L} {cs : ex_C} {i k j : Nat} {z : Int} (hi : 1000 ≤ i) (hk : (i - 1000) / 1000 = k) (hj : (i - 1000) % 1000 = j) (h : ab_ri cs k j = some z) : ab_oo lv cs i = z := by
  unfold ab_oo
  rw [if_neg (by omega), hk, hj, h]
  rfl
theorem fr_ri {W : ab_W} {cs cs' : ex_C} {k j : Nat} {z : Option Int} (h : ab_fr W cs cs') (hc : ab_cov W k j = false) (hz : ab_ri cs k j = z) : ab_ri cs' k j = z := by
  rw [← hz]
  unfold ab_ri
  rw [h k j hc]
theorem fx_X9_tell {c0 : ab_C} {a x : Int32} {m0 : Int} {cs cs' : ex_C} (hc : bc_X9_tell = [c0]) (h : ab_post ab_hd c0 [.ref 0, .int a] cs (some (.int x)) cs') (e0 : ab_ri cs 0 7 = some m0) : ∃ m0' : Int, ab_ri cs' 0 7 = some m0' ∧ ((24 ≤ m0 ∧ m0 ≤ 24 ∧ (-1000000004) ≤ x.toInt ∧ x.toInt ≤ (-1000000004) ∧ 24 ≤ m0' ∧ m0' ≤ 24 ∧ m0' = m0 + 0) ∨ (0 ≤ m0 ∧ m0 ≤ 23 ∧ 1 ≤ x.toInt ∧ x.toInt ≤ 24 ∧ x.toInt = m0 + 1 ∧ 1 ≤ m0' ∧ m0' ≤ 24 ∧ m0' = m0 + 1)) := by
  have hc2 : [(([.inl 0, .inr ((-2147483648), 2147483647)], [], [(0, some 7), (74, none), (75, some 4)], [(some ((-1000000004), (-1000000004), none), [((8, 1007, 0), 24, 24, none)], [((1, 0, 7), 24, 24, some (1007, 0))]), (some (1, 24, some (1007, 1)), [((8, 1007, 0), 0, 23, none)], [((1, 0, 7), 1, 24, some (1007, 1))])]) : ab_C)] = [c0] := hc
  cases hc2
  obtain ⟨-, hfr, k, hk, h3, h4, h5⟩ := h
  dsimp only at hfr
  simp only [List.mem_cons, List.not_mem_nil, or_false] at hk
  rcases hk with rfl | rfl
  · obtain ⟨y, ey, l1, l2⟩ := h3
    cases ey
    have o1007 := oo_c (lv := List.map some [.ref 0, .int a]) (i := 1007) (by decide) rfl rfl e0
    dsimp only at l1
    have g0 := cf_get h4 (y := (8, 1007, 0)) (lo := 24) (hi := 24) (d := none) (by simp) rfl
    obtain ⟨m0', u0, w0a, w0b, w0c⟩ := cf_fin h5 (k := 0) (j := 7) (lo := 24) (hi := 24) (d := some (1007, 0)) (by simp)
    have w0d := w0c _ rfl
    dsimp only at w0d
    refine ⟨m0', u0, ?_⟩
    omega
  · obtain ⟨y, ey, l1, l2⟩ := h3
    cases ey
    have o1007 := oo_c (lv := List.map some [.ref 0, .int a]) (i := 1007) (by decide) rfl rfl e0
    have lr := l2 _ rfl
    dsimp only at lr
    dsimp only at l1
    have g0 := cf_get h4 (y := (8, 1007, 0)) (lo := 0) (hi := 23) (d := none) (by simp) rfl
    obtain ⟨m0', u0, w0a, w0b, w0c⟩ := cf_fin h5 (k := 0) (j := 7) (lo := 1) (hi := 24) (d := some (1007, 1)) (by simp)
    have w0d := w0c _ rfl
    dsimp only at w0d
    refine ⟨m0', u0, ?_⟩
    omega
theorem fx_X9_check {c0 : ab_C} {a b x : Int32} {m0 : Int} {cs cs' : ex_C} (hc : bc_X9_check = [c0]) (h : ab_post ab_hd c0 [.ref 0, .int a, .int b] cs (some (.int x)) cs') (e0 : ab_ri cs 0 7 = some m0) : ∃ m0' : Int, ab_ri cs' 0 7 = some m0' ∧ (((-2147483648) ≤ x.toInt ∧ x.toInt ≤ 2147483647 ∧ 0 ≤ m0' ∧ m0' ≤ 0)) := by
  have hc2 : [(([.inl 0, .inr ((-2147483648), 2147483647), .inr ((-2147483648), 2147483647)], [], [(0, some 7), (35, some 6), (36, some 6), (36, some 7), (37, none), (38, none), (39, none), (40, none), (41, none), (42, none), (43, some 6), (44, none), (45, none), (46, none), (47, none), (48, none), (49, none), (50, some 11), (50, some 12), (50, some 13), (50, some 14), (51, none), (52, none), (53, none), (54, none), (55, none), (56, none), (57, none), (58, none), (59, none), (60, none), (61, none), (62, some 0), (62, some 1), (62, some 2), (62, some 3), (62, some 4), (62, some 5), (63, some 0), (63, some 1), (63, some 2), (63, some 3), (63, some 4), (63, some 5), (63, some 6), (75, some 1)], [(some ((-2147483648), 2147483647, none), [], [((1, 0, 7), 0, 0, none)])]) : ab_C)] = [c0] := hc
  cases hc2
  obtain ⟨-, hfr, k, hk, h3, h4, h5⟩ := h
  dsimp only at hfr
  simp only [List.mem_cons, List.not_mem_nil, or_false] at hk
  rcases hk with rfl
  · obtain ⟨y, ey, l1, l2⟩ := h3
    cases ey
    dsimp only at l1
    obtain ⟨m0', u0, w0a, w0b, w0c⟩ := cf_fin h5 (k := 0) (j := 7) (lo := 0) (hi := 0) (d := none) (by simp)
    refine ⟨m0', u0, ?_⟩
    omega
theorem fx_X10_tell {c0 : ab_C} {a x : Int32} {m0 : Int} {cs cs' : ex_C} (hc : bc_X10_tell = [c0]) (h : ab_post ab_hd c0 [.ref 76, .int a] cs (some (.int x)) cs') (e0 : ab_ri cs 76 52 = some m0) : ∃ m0' : Int, ab_ri cs' 76 52 = some m0' ∧ ((24 ≤ m0 ∧ m0 ≤ 24 ∧ (-1000000004) ≤ x.toInt ∧ x.toInt ≤ (-1000000004) ∧ 24 ≤ m0' ∧ m0' ≤ 24 ∧ m0' = m0 + 0) ∨ (0 ≤ m0 ∧ m0 ≤ 23 ∧ 1 ≤ x.toInt ∧ x.toInt ≤ 24 ∧ x.toInt = m0 + 1 ∧ 1 ≤ m0' ∧ m0' ≤ 24 ∧ m0' = m0 + 1)) := by
  have hc2 : [(([.inl 76, .inr ((-2147483648), 2147483647)], [], [(76, some 52), (113, none), (114, some 4)], [(some ((-1000000004), (-1000000004), none), [((8, 77052, 0), 24, 24, none)], [((1, 76, 52), 24, 24, some (77052, 0))]), (some (1, 24, some (77052, 1)), [((8, 77052, 0), 0, 23, none)], [((1, 76, 52), 1, 24, some (77052, 1))])]) : ab_C)] = [c0] := hc
  cases hc2
  obtain ⟨-, hfr, k, hk, h3, h4, h5⟩ := h
  dsimp only at hfr
  simp only [List.mem_cons, List.not_mem_nil, or_false] at hk
  rcases hk with rfl | rfl
  · obtain ⟨y, ey, l1, l2⟩ := h3
    cases ey
    have o77052 := oo_c (lv := List.map some [.ref 76, .int a]) (i := 77052) (by decide) rfl rfl e0
    dsimp only at l1
    have g0 := cf_get h4 (y := (8, 77052, 0)) (lo := 24) (hi := 24) (d := none) (by simp) rfl
    obtain ⟨m0', u0, w0a, w0b, w0c⟩ := cf_fin h5 (k := 76) (j := 52) (lo := 24) (hi := 24) (d := some (77052, 0)) (by simp)
    have w0d := w0c _ rfl
    dsimp only at w0d
    refine ⟨m0', u0, ?_⟩
    omega
  · obtain ⟨y, ey, l1, l2⟩ := h3
    cases ey
    have o77052 := oo_c (lv := List.map some [.ref 76, .int a]) (i := 77052) (by decide) rfl rfl e0
    have lr := l2 _ rfl
    dsimp only at lr
    dsimp only at l1
    have g0 := cf_get h4 (y := (8, 77052, 0)) (lo := 0) (hi := 23) (d := none) (by simp) rfl
    obtain ⟨m0', u0, w0a, w0b, w0c⟩ := cf_fin h5 (k := 76) (j := 52) (lo := 1) (hi := 24) (d := some (77052, 1)) (by simp)
    have w0d := w0c _ rfl
    dsimp only at w0d
    refine ⟨m0', u0, ?_⟩
    omega
theorem fx_X10_check {c0 : ab_C} {a b x : Int32} {m0 : Int} {cs cs' : ex_C} (hc : bc_X10_check = [c0]) (h : ab_post ab_hd c0 [.ref 76, .int a, .int b] cs (some (.int x)) cs') (e0 : ab_ri cs 76 52 = some m0) : ∃ m0' : Int, ab_ri cs' 76 52 = some m0' ∧ (((-2147483648) ≤ x.toInt ∧ x.toInt ≤ 2147483647 ∧ 0 ≤ m0' ∧ m0' ≤ 0)) := by
  have hc2 : [(([.inl 76, .inr ((-2147483648), 2147483647), .inr ((-2147483648), 2147483647)], [], [(76, some 52), (76, some 56), (77, none), (78, none), (82, none), (83, none), (84, none), (85, none), (86, none), (87, none), (88, none), (89, none), (96, none), (97, none), (98, none), (99, none), (100, none), (101, none), (114, some 1), (115, none)], [(some ((-2147483648), 2147483647, none), [], [((1, 76, 52), 0, 0, none)])]) : ab_C)] = [c0] := hc
  cases hc2
  obtain ⟨-, hfr, k, hk, h3, h4, h5⟩ := h
  dsimp only at hfr
  simp only [List.mem_cons, List.not_mem_nil, or_false] at hk
  rcases hk with rfl
  · obtain ⟨y, ey, l1, l2⟩ := h3
    cases ey
    dsimp only at l1
    obtain ⟨m0', u0, w0a, w0b, w0c⟩ := cf_fin h5 (k := 76) (j := 52) (lo := 0) (hi := 0) (d := none) (by simp)
    refine ⟨m0', u0, ?_⟩
    omega
/-- what of the two states is the same -/
def rel_R (cs : ex_C) : Prop := ∃ m0 : Int, ab_ri cs 0 7 = some m0 ∧ ab_ri cs 76 52 = some m0
theorem rel_keep {W1 W2 : ab_W} {cs cs1 cs2 : ex_C} (h1 : ab_fr W1 cs cs1) (h2 : ab_fr W2 cs1 cs2) (hW1 : ([(0, 7), (76, 52)] : List (Nat × Nat)).all (fun q => !ab_cov W1 q.1 q.2) = true) (hW2 : ([(0, 7), (76, 52)] : List (Nat × Nat)).all (fun q => !ab_cov W2 q.1 q.2) = true) (h : rel_R cs) : rel_R cs2 := by
  have a1 : ∀ q ∈ ([(0, 7), (76, 52)] : List (Nat × Nat)), ab_cov W1 q.1 q.2 = false := fun q hq => by simpa using List.all_eq_true.mp hW1 q hq
  have a2 : ∀ q ∈ ([(0, 7), (76, 52)] : List (Nat × Nat)), ab_cov W2 q.1 q.2 = false := fun q hq => by simpa using List.all_eq_true.mp hW2 q hq
  obtain ⟨m0, e0, f0⟩ := h
  exact ⟨m0, fr_ri h2 (a2 (0, 7) (by simp)) (fr_ri h1 (a1 (0, 7) (by simp)) e0), fr_ri h2 (a2 (76, 52) (by simp)) (fr_ri h1 (a1 (76, 52) (by simp)) f0)⟩
theorem step_check {c0 c1 : ab_C} {a b x y : Int32} {cs cs1 cs2 : ex_C} (hc : bc_X9_check = [c0]) (hc' : bc_X10_check = [c1]) (h : ab_post ab_hd c0 [.ref 0, .int a, .int b] cs (some (.int x)) cs1) (h' : ab_post ab_hd c1 [.ref 76, .int a, .int b] cs1 (some (.int y)) cs2) (hR : rel_R cs) : rel_R cs2 := by
  obtain ⟨m0, e0, f0⟩ := hR
  have wX9 : ab_fr [(0, some 7), (35, some 6), (36, some 6), (36, some 7), (37, none), (38, none), (39, none), (40, none), (41, none), (42, none), (43, some 6), (44, none), (45, none), (46, none), (47, none), (48, none), (49, none), (50, some 11), (50, some 12), (50, some 13), (50, some 14), (51, none), (52, none), (53, none), (54, none), (55, none), (56, none), (57, none), (58, none), (59, none), (60, none), (61, none), (62, some 0), (62, some 1), (62, some 2), (62, some 3), (62, some 4), (62, some 5), (63, some 0), (63, some 1), (63, some 2), (63, some 3), (63, some 4), (63, some 5), (63, some 6), (75, some 1)] cs cs1 := by
    have q : [(([.inl 0, .inr ((-2147483648), 2147483647), .inr ((-2147483648), 2147483647)], [], [(0, some 7), (35, some 6), (36, some 6), (36, some 7), (37, none), (38, none), (39, none), (40, none), (41, none), (42, none), (43, some 6), (44, none), (45, none), (46, none), (47, none), (48, none), (49, none), (50, some 11), (50, some 12), (50, some 13), (50, some 14), (51, none), (52, none), (53, none), (54, none), (55, none), (56, none), (57, none), (58, none), (59, none), (60, none), (61, none), (62, some 0), (62, some 1), (62, some 2), (62, some 3), (62, some 4), (62, some 5), (63, some 0), (63, some 1), (63, some 2), (63, some 3), (63, some 4), (63, some 5), (63, some 6), (75, some 1)], [(some ((-2147483648), 2147483647, none), [], [((1, 0, 7), 0, 0, none)])]) : ab_C)] = [c0] := hc
    cases q
    exact h.2.1
  have wX10 : ab_fr [(76, some 52), (76, some 56), (77, none), (78, none), (82, none), (83, none), (84, none), (85, none), (86, none), (87, none), (88, none), (89, none), (96, none), (97, none), (98, none), (99, none), (100, none), (101, none), (114, some 1), (115, none)] cs1 cs2 := by
    have q : [(([.inl 76, .inr ((-2147483648), 2147483647), .inr ((-2147483648), 2147483647)], [], [(76, some 52), (76, some 56), (77, none), (78, none), (82, none), (83, none), (84, none), (85, none), (86, none), (87, none), (88, none), (89, none), (96, none), (97, none), (98, none), (99, none), (100, none), (101, none), (114, some 1), (115, none)], [(some ((-2147483648), 2147483647, none), [], [((1, 76, 52), 0, 0, none)])]) : ab_C)] = [c1] := hc'
    cases q
    exact h'.2.1
  obtain ⟨p0, r0, cx⟩ := fx_X9_check hc h e0
  obtain ⟨q0, t0, cy⟩ := fx_X10_check hc' h' (fr_ri wX9 (by decide) f0)
  have key : p0 = q0 := by
    omega
  exact ⟨p0, fr_ri wX10 (by decide) r0, (by rw [key]; exact t0)⟩
theorem step_tell {c0 c1 : ab_C} {a x y : Int32} {cs cs1 cs2 : ex_C} (hc : bc_X9_tell = [c0]) (hc' : bc_X10_tell = [c1]) (h : ab_post ab_hd c0 [.ref 0, .int a] cs (some (.int x)) cs1) (h' : ab_post ab_hd c1 [.ref 76, .int a] cs1 (some (.int y)) cs2) (hR : rel_R cs) : x = y ∧ rel_R cs2 := by
  obtain ⟨m0, e0, f0⟩ := hR
  have wX9 : ab_fr [(0, some 7), (74, none), (75, some 4)] cs cs1 := by
    have q : [(([.inl 0, .inr ((-2147483648), 2147483647)], [], [(0, some 7), (74, none), (75, some 4)], [(some ((-1000000004), (-1000000004), none), [((8, 1007, 0), 24, 24, none)], [((1, 0, 7), 24, 24, some (1007, 0))]), (some (1, 24, some (1007, 1)), [((8, 1007, 0), 0, 23, none)], [((1, 0, 7), 1, 24, some (1007, 1))])]) : ab_C)] = [c0] := hc
    cases q
    exact h.2.1
  have wX10 : ab_fr [(76, some 52), (113, none), (114, some 4)] cs1 cs2 := by
    have q : [(([.inl 76, .inr ((-2147483648), 2147483647)], [], [(76, some 52), (113, none), (114, some 4)], [(some ((-1000000004), (-1000000004), none), [((8, 77052, 0), 24, 24, none)], [((1, 76, 52), 24, 24, some (77052, 0))]), (some (1, 24, some (77052, 1)), [((8, 77052, 0), 0, 23, none)], [((1, 76, 52), 1, 24, some (77052, 1))])]) : ab_C)] = [c1] := hc'
    cases q
    exact h'.2.1
  obtain ⟨p0, r0, cx⟩ := fx_X9_tell hc h e0
  obtain ⟨q0, t0, cy⟩ := fx_X10_tell hc' h' (fr_ri wX9 (by decide) f0)
  have key : p0 = q0 ∧ x.toInt = y.toInt := by
    skip
    rcases cx with cx | cx <;> omega
  exact ⟨Int32.toInt_inj.mp key.2, ⟨p0, fr_ri wX10 (by decide) r0, (by rw [key.1]; exact t0)⟩⟩
theorem ini_R : rel_R ini_cs := ⟨0, (by first | rfl | decide), (by first | rfl | decide)⟩

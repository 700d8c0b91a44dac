theorem cf_get {o : Nat → Int} {lv : ex_L} {cs : ex_C} {fc : ab_F} {y : ab_Y} {lo hi z : Int} {d : Option (Nat × Int)} (h : ab_cf o lv cs fc) (hm : (y, lo, hi, d) ∈ fc) (hz : ab_kv o lv cs y = some z) : lo ≤ z ∧ z ≤ hi := by
  obtain ⟨x, hx, hb, hc, -⟩ := h _ hm
  rw [hz] at hx
  cases hx
  exact ⟨hb, hc⟩
theorem cf_fin {o : Nat → Int} {lv : ex_L} {cs : ex_C} {fc : ab_F} {k j : Nat} {lo hi : Int} {d : Option (Nat × Int)} (h : ab_cf o lv cs fc) (hm : ((1, k, j), lo, hi, d) ∈ fc) : ∃ z, ab_ri cs k j = some z ∧ lo ≤ z ∧ z ≤ hi ∧ ∀ e, d = some e → z = o e.1 + e.2 := h _ hm
theorem oo_v {av : ex_V} {cs : ex_C} {i : Nat} {x : Int32} (hi : i < 1000) (h : av[i]? = some (.int x)) : ab_oo (av.map some) cs i = x.toInt := by
  unfold ab_oo
  rw [if_pos hi, ab_avli h]
  rfl
theorem oo_c {lv : ex_L} {cs : ex_C} {i k j : Nat} {z : Int} (hi : 1000 ≤ i) (hk : (i - 1000) / 1000 = k) (hj : (i - 1000) % 1000 = j) (h : ab_ri cs k j = some z) : ab_oo lv cs i = z := by
  unfold ab_oo
  rw [if_neg (by omega), hk, hj, h]
  rfl
theorem fr_ri {W : ab_W} {cs cs' : ex_C} {k j : Nat} {z : Option Int} (h : ab_fr W cs cs') (hc : ab_cov W k j = false) (hz : ab_ri cs k j = z) : ab_ri cs' k j = z := by
  rw [← hz]
  unfold ab_ri
  rw [h k j hc]
theorem fx_X9_module {c0 : ab_C} { x : Int32} {m0 m1 : Int} {cs cs' : ex_C} (hc : bc_X9_module = [c0]) (h : ab_post ab_hd c0 [.ref 0] cs (some (.int x)) cs') (e0 : ab_ri cs 7 6 = some m0) (e1 : ab_ri cs 14 6 = some m1) : ∃ m0' : Int, ∃ m1' : Int, ab_ri cs' 7 6 = some m0' ∧ ab_ri cs' 14 6 = some m1' ∧ m1' = m1 ∧ ((0 ≤ m0 ∧ m0 ≤ 5 ∧ (-2147483648) ≤ x.toInt ∧ x.toInt ≤ 2147483647 ∧ x.toInt = m0 + 0 ∧ 1 ≤ m0' ∧ m0' ≤ 6 ∧ m0' = m0 + 1) ∨ (6 ≤ m0 ∧ m0 ≤ 6 ∧ (-1000000004) ≤ x.toInt ∧ x.toInt ≤ (-1000000004) ∧ 6 ≤ m0' ∧ m0' ≤ 6 ∧ m0' = m0 + 0)) := by
  have hc2 : [(([.inl 0], [], [(7, some 6), (75, none)], [(some ((-2147483648), 2147483647, some (8006, 0)), [((8, 8006, 0), 0, 5, none)], [((1, 7, 6), 1, 6, some (8006, 1))]), (some ((-1000000004), (-1000000004), none), [((8, 8006, 0), 6, 6, none)], [((1, 7, 6), 6, 6, some (8006, 0))])]) : ab_C)] = [c0] := hc
  cases hc2
  obtain ⟨-, hfr, k, hk, h3, h4, h5⟩ := h
  dsimp only at hfr
  simp only [List.mem_cons, List.not_mem_nil, or_false] at hk
  have u1 := fr_ri hfr (by decide) e1
  rcases hk with rfl | rfl
  · obtain ⟨y, ey, l1, l2⟩ := h3
    cases ey
    have o8006 := oo_c (lv := List.map some [.ref 0]) (i := 8006) (by decide) rfl rfl e0
    have lr := l2 _ rfl
    dsimp only at lr
    dsimp only at l1
    have g0 := cf_get h4 (y := (8, 8006, 0)) (lo := 0) (hi := 5) (d := none) (by simp) rfl
    obtain ⟨m0', u0, w0a, w0b, w0c⟩ := cf_fin h5 (k := 7) (j := 6) (lo := 1) (hi := 6) (d := some (8006, 1)) (by simp)
    have w0d := w0c _ rfl
    dsimp only at w0d
    refine ⟨m0', m1, u0, u1, rfl, ?_⟩
    omega
  · obtain ⟨y, ey, l1, l2⟩ := h3
    cases ey
    have o8006 := oo_c (lv := List.map some [.ref 0]) (i := 8006) (by decide) rfl rfl e0
    dsimp only at l1
    have g0 := cf_get h4 (y := (8, 8006, 0)) (lo := 6) (hi := 6) (d := none) (by simp) rfl
    obtain ⟨m0', u0, w0a, w0b, w0c⟩ := cf_fin h5 (k := 7) (j := 6) (lo := 6) (hi := 6) (d := some (8006, 0)) (by simp)
    have w0d := w0c _ rfl
    dsimp only at w0d
    refine ⟨m0', m1, u0, u1, rfl, ?_⟩
    omega
theorem fx_X9_person {c0 : ab_C} {a x : Int32} {m0 m1 : Int} {cs cs' : ex_C} (hc : bc_X9_person = [c0]) (h : ab_post ab_hd c0 [.ref 0, .int a] cs (some (.int x)) cs') (e0 : ab_ri cs 7 6 = some m0) (e1 : ab_ri cs 14 6 = some m1) : ∃ m0' : Int, ∃ m1' : Int, ab_ri cs' 7 6 = some m0' ∧ ab_ri cs' 14 6 = some m1' ∧ m0' = m0 ∧ (((-2147483648) ≤ a.toInt ∧ a.toInt ≤ (-1) ∧ (-1000000001) ≤ x.toInt ∧ x.toInt ≤ (-1000000001) ∧ 0 ≤ m1' ∧ m1' ≤ 6 ∧ m1' = m1 + 0) ∨ (0 ≤ a.toInt ∧ a.toInt ≤ 2147483647 ∧ 0 ≤ m0 ∧ m0 ≤ 6 ∧ 0 ≤ (a.toInt - m0) ∧ (a.toInt - m0) ≤ 4294967296 ∧ (-1000000001) ≤ x.toInt ∧ x.toInt ≤ (-1000000001) ∧ 0 ≤ m1' ∧ m1' ≤ 6 ∧ m1' = m1 + 0) ∨ (0 ≤ a.toInt ∧ a.toInt ≤ 5 ∧ 0 ≤ m1 ∧ m1 ≤ 5 ∧ 1 ≤ m0 ∧ m0 ≤ 6 ∧ (-4294967296) ≤ (a.toInt - m0) ∧ (a.toInt - m0) ≤ (-1) ∧ (-2147483648) ≤ x.toInt ∧ x.toInt ≤ 2147483647 ∧ x.toInt = m1 + 0 ∧ 1 ≤ m1' ∧ m1' ≤ 6 ∧ m1' = m1 + 1) ∨ (0 ≤ a.toInt ∧ a.toInt ≤ 5 ∧ 6 ≤ m1 ∧ m1 ≤ 6 ∧ 1 ≤ m0 ∧ m0 ≤ 6 ∧ (-4294967296) ≤ (a.toInt - m0) ∧ (a.toInt - m0) ≤ (-1) ∧ (-1000000004) ≤ x.toInt ∧ x.toInt ≤ (-1000000004) ∧ 6 ≤ m1' ∧ m1' ≤ 6 ∧ m1' = m1 + 0)) := by
  have hc2 : [(([.inl 0, .inr ((-2147483648), 2147483647)], [], [(14, some 6), (15, none), (17, none), (75, none)], [(some ((-1000000001), (-1000000001), none), [((0, 1, 0), (-2147483648), (-1), none)], [((1, 14, 6), 0, 6, some (15006, 0))]), (some ((-1000000001), (-1000000001), none), [((0, 1, 0), 0, 2147483647, none), ((8, 8006, 0), 0, 6, none), ((9, 1, 8006), 0, 4294967296, none)], [((1, 14, 6), 0, 6, some (15006, 0))]), (some ((-2147483648), 2147483647, some (15006, 0)), [((0, 1, 0), 0, 5, none), ((8, 15006, 0), 0, 5, none), ((8, 8006, 0), 1, 6, none), ((9, 1, 8006), (-4294967296), (-1), none)], [((1, 14, 6), 1, 6, some (15006, 1))]), (some ((-1000000004), (-1000000004), none), [((0, 1, 0), 0, 5, none), ((8, 15006, 0), 6, 6, none), ((8, 8006, 0), 1, 6, none), ((9, 1, 8006), (-4294967296), (-1), none)], [((1, 14, 6), 6, 6, some (15006, 0))])]) : ab_C)] = [c0] := hc
  cases hc2
  obtain ⟨-, hfr, k, hk, h3, h4, h5⟩ := h
  dsimp only at hfr
  simp only [List.mem_cons, List.not_mem_nil, or_false] at hk
  have u0 := fr_ri hfr (by decide) e0
  rcases hk with rfl | rfl | rfl | rfl
  · obtain ⟨y, ey, l1, l2⟩ := h3
    cases ey
    have o15006 := oo_c (lv := List.map some [.ref 0, .int a]) (i := 15006) (by decide) rfl rfl e1
    dsimp only at l1
    have g0 := cf_get h4 (y := (0, 1, 0)) (lo := (-2147483648)) (hi := (-1)) (d := none) (by simp) (show ab_kv _ _ _ (0, 1, 0) = some a.toInt from rfl)
    obtain ⟨m1', u1, w1a, w1b, w1c⟩ := cf_fin h5 (k := 14) (j := 6) (lo := 0) (hi := 6) (d := some (15006, 0)) (by simp)
    have w1d := w1c _ rfl
    dsimp only at w1d
    refine ⟨m0, m1', u0, u1, rfl, ?_⟩
    omega
  · obtain ⟨y, ey, l1, l2⟩ := h3
    cases ey
    have o1 := oo_v (av := [.ref 0, .int a]) (cs := cs) (i := 1) (by decide) rfl
    have o8006 := oo_c (lv := List.map some [.ref 0, .int a]) (i := 8006) (by decide) rfl rfl e0
    have o15006 := oo_c (lv := List.map some [.ref 0, .int a]) (i := 15006) (by decide) rfl rfl e1
    dsimp only at l1
    have g0 := cf_get h4 (y := (0, 1, 0)) (lo := 0) (hi := 2147483647) (d := none) (by simp) (show ab_kv _ _ _ (0, 1, 0) = some a.toInt from rfl)
    have g1 := cf_get h4 (y := (8, 8006, 0)) (lo := 0) (hi := 6) (d := none) (by simp) rfl
    have g2 := cf_get h4 (y := (9, 1, 8006)) (lo := 0) (hi := 4294967296) (d := none) (by simp) rfl
    obtain ⟨m1', u1, w1a, w1b, w1c⟩ := cf_fin h5 (k := 14) (j := 6) (lo := 0) (hi := 6) (d := some (15006, 0)) (by simp)
    have w1d := w1c _ rfl
    dsimp only at w1d
    refine ⟨m0, m1', u0, u1, rfl, ?_⟩
    omega
  · obtain ⟨y, ey, l1, l2⟩ := h3
    cases ey
    have o1 := oo_v (av := [.ref 0, .int a]) (cs := cs) (i := 1) (by decide) rfl
    have o8006 := oo_c (lv := List.map some [.ref 0, .int a]) (i := 8006) (by decide) rfl rfl e0
    have o15006 := oo_c (lv := List.map some [.ref 0, .int a]) (i := 15006) (by decide) rfl rfl e1
    have lr := l2 _ rfl
    dsimp only at lr
    dsimp only at l1
    have g0 := cf_get h4 (y := (0, 1, 0)) (lo := 0) (hi := 5) (d := none) (by simp) (show ab_kv _ _ _ (0, 1, 0) = some a.toInt from rfl)
    have g1 := cf_get h4 (y := (8, 15006, 0)) (lo := 0) (hi := 5) (d := none) (by simp) rfl
    have g2 := cf_get h4 (y := (8, 8006, 0)) (lo := 1) (hi := 6) (d := none) (by simp) rfl
    have g3 := cf_get h4 (y := (9, 1, 8006)) (lo := (-4294967296)) (hi := (-1)) (d := none) (by simp) rfl
    obtain ⟨m1', u1, w1a, w1b, w1c⟩ := cf_fin h5 (k := 14) (j := 6) (lo := 1) (hi := 6) (d := some (15006, 1)) (by simp)
    have w1d := w1c _ rfl
    dsimp only at w1d
    refine ⟨m0, m1', u0, u1, rfl, ?_⟩
    omega
  · obtain ⟨y, ey, l1, l2⟩ := h3
    cases ey
    have o1 := oo_v (av := [.ref 0, .int a]) (cs := cs) (i := 1) (by decide) rfl
    have o8006 := oo_c (lv := List.map some [.ref 0, .int a]) (i := 8006) (by decide) rfl rfl e0
    have o15006 := oo_c (lv := List.map some [.ref 0, .int a]) (i := 15006) (by decide) rfl rfl e1
    dsimp only at l1
    have g0 := cf_get h4 (y := (0, 1, 0)) (lo := 0) (hi := 5) (d := none) (by simp) (show ab_kv _ _ _ (0, 1, 0) = some a.toInt from rfl)
    have g1 := cf_get h4 (y := (8, 15006, 0)) (lo := 6) (hi := 6) (d := none) (by simp) rfl
    have g2 := cf_get h4 (y := (8, 8006, 0)) (lo := 1) (hi := 6) (d := none) (by simp) rfl
    have g3 := cf_get h4 (y := (9, 1, 8006)) (lo := (-4294967296)) (hi := (-1)) (d := none) (by simp) rfl
    obtain ⟨m1', u1, w1a, w1b, w1c⟩ := cf_fin h5 (k := 14) (j := 6) (lo := 6) (hi := 6) (d := some (15006, 0)) (by simp)
    have w1d := w1c _ rfl
    dsimp only at w1d
    refine ⟨m0, m1', u0, u1, rfl, ?_⟩
    omega
theorem fx_X10_module {c0 : ab_C} { x : Int32} {m0 m1 : Int} {cs cs' : ex_C} (hc : bc_X10_module = [c0]) (h : ab_post ab_hd c0 [.ref 76] cs (some (.int x)) cs') (e0 : ab_ri cs 76 0 = some m0) (e1 : ab_ri cs 76 9 = some m1) : ∃ m0' : Int, ∃ m1' : Int, ab_ri cs' 76 0 = some m0' ∧ ab_ri cs' 76 9 = some m1' ∧ m1' = m1 ∧ ((6 ≤ m0 ∧ m0 ≤ 6 ∧ (-1000000004) ≤ x.toInt ∧ x.toInt ≤ (-1000000004) ∧ 6 ≤ m0' ∧ m0' ≤ 6 ∧ m0' = m0 + 0) ∨ (0 ≤ m0 ∧ m0 ≤ 5 ∧ 0 ≤ x.toInt ∧ x.toInt ≤ 5 ∧ x.toInt = m0 + 0 ∧ 1 ≤ m0' ∧ m0' ≤ 6 ∧ m0' = m0 + 1)) := by
  have hc2 : [(([.inl 76], [], [(76, some 0), (114, some 4)], [(some ((-1000000004), (-1000000004), none), [((8, 77000, 0), 6, 6, none)], [((1, 76, 0), 6, 6, some (77000, 0))]), (some (0, 5, some (77000, 0)), [((8, 77000, 0), 0, 5, none)], [((1, 76, 0), 1, 6, some (77000, 1))])]) : ab_C)] = [c0] := hc
  cases hc2
  obtain ⟨-, hfr, k, hk, h3, h4, h5⟩ := h
  dsimp only at hfr
  simp only [List.mem_cons, List.not_mem_nil, or_false] at hk
  have u1 := fr_ri hfr (by decide) e1
  rcases hk with rfl | rfl
  · obtain ⟨y, ey, l1, l2⟩ := h3
    cases ey
    have o77000 := oo_c (lv := List.map some [.ref 76]) (i := 77000) (by decide) rfl rfl e0
    dsimp only at l1
    have g0 := cf_get h4 (y := (8, 77000, 0)) (lo := 6) (hi := 6) (d := none) (by simp) rfl
    obtain ⟨m0', u0, w0a, w0b, w0c⟩ := cf_fin h5 (k := 76) (j := 0) (lo := 6) (hi := 6) (d := some (77000, 0)) (by simp)
    have w0d := w0c _ rfl
    dsimp only at w0d
    refine ⟨m0', m1, u0, u1, rfl, ?_⟩
    omega
  · obtain ⟨y, ey, l1, l2⟩ := h3
    cases ey
    have o77000 := oo_c (lv := List.map some [.ref 76]) (i := 77000) (by decide) rfl rfl e0
    have lr := l2 _ rfl
    dsimp only at lr
    dsimp only at l1
    have g0 := cf_get h4 (y := (8, 77000, 0)) (lo := 0) (hi := 5) (d := none) (by simp) rfl
    obtain ⟨m0', u0, w0a, w0b, w0c⟩ := cf_fin h5 (k := 76) (j := 0) (lo := 1) (hi := 6) (d := some (77000, 1)) (by simp)
    have w0d := w0c _ rfl
    dsimp only at w0d
    refine ⟨m0', m1, u0, u1, rfl, ?_⟩
    omega
theorem fx_X10_person {c0 : ab_C} {a x : Int32} {m0 m1 : Int} {cs cs' : ex_C} (hc : bc_X10_person = [c0]) (h : ab_post ab_hd c0 [.ref 76, .int a] cs (some (.int x)) cs') (e0 : ab_ri cs 76 0 = some m0) (e1 : ab_ri cs 76 9 = some m1) : ∃ m0' : Int, ∃ m1' : Int, ab_ri cs' 76 0 = some m0' ∧ ab_ri cs' 76 9 = some m1' ∧ m0' = m0 ∧ (((-2147483648) ≤ a.toInt ∧ a.toInt ≤ (-1) ∧ (-1000000001) ≤ x.toInt ∧ x.toInt ≤ (-1000000001) ∧ 0 ≤ m1' ∧ m1' ≤ 6 ∧ m1' = m1 + 0) ∨ (0 ≤ a.toInt ∧ a.toInt ≤ 2147483647 ∧ 0 ≤ m0 ∧ m0 ≤ 6 ∧ 0 ≤ (a.toInt - m0) ∧ (a.toInt - m0) ≤ 4294967296 ∧ (-1000000001) ≤ x.toInt ∧ x.toInt ≤ (-1000000001) ∧ 0 ≤ m1' ∧ m1' ≤ 6 ∧ m1' = m1 + 0) ∨ (0 ≤ a.toInt ∧ a.toInt ≤ 5 ∧ 6 ≤ m1 ∧ m1 ≤ 6 ∧ 1 ≤ m0 ∧ m0 ≤ 6 ∧ (-4294967296) ≤ (a.toInt - m0) ∧ (a.toInt - m0) ≤ (-1) ∧ (-1000000004) ≤ x.toInt ∧ x.toInt ≤ (-1000000004) ∧ 6 ≤ m1' ∧ m1' ≤ 6 ∧ m1' = m1 + 0) ∨ (0 ≤ a.toInt ∧ a.toInt ≤ 5 ∧ 0 ≤ m1 ∧ m1 ≤ 5 ∧ 1 ≤ m0 ∧ m0 ≤ 6 ∧ (-4294967296) ≤ (a.toInt - m0) ∧ (a.toInt - m0) ≤ (-1) ∧ 0 ≤ x.toInt ∧ x.toInt ≤ 5 ∧ x.toInt = m1 + 0 ∧ 1 ≤ m1' ∧ m1' ≤ 6 ∧ m1' = m1 + 1)) := by
  have hc2 : [(([.inl 76, .inr ((-2147483648), 2147483647)], [], [(76, some 9), (84, none), (86, none), (114, some 1), (114, some 4)], [(some ((-1000000001), (-1000000001), none), [((0, 1, 0), (-2147483648), (-1), none)], [((1, 76, 9), 0, 6, some (77009, 0))]), (some ((-1000000001), (-1000000001), none), [((0, 1, 0), 0, 2147483647, none), ((8, 77000, 0), 0, 6, none), ((9, 1, 77000), 0, 4294967296, none)], [((1, 76, 9), 0, 6, some (77009, 0))]), (some ((-1000000004), (-1000000004), none), [((0, 1, 0), 0, 5, none), ((8, 77009, 0), 6, 6, none), ((8, 77000, 0), 1, 6, none), ((9, 1, 77000), (-4294967296), (-1), none)], [((1, 76, 9), 6, 6, some (77009, 0))]), (some (0, 5, some (77009, 0)), [((0, 1, 0), 0, 5, none), ((8, 77009, 0), 0, 5, none), ((8, 77000, 0), 1, 6, none), ((9, 1, 77000), (-4294967296), (-1), none)], [((1, 76, 9), 1, 6, some (77009, 1))])]) : ab_C)] = [c0] := hc
  cases hc2
  obtain ⟨-, hfr, k, hk, h3, h4, h5⟩ := h
  dsimp only at hfr
  simp only [List.mem_cons, List.not_mem_nil, or_false] at hk
  have u0 := fr_ri hfr (by decide) e0
  rcases hk with rfl | rfl | rfl | rfl
  · obtain ⟨y, ey, l1, l2⟩ := h3
    cases ey
    have o77009 := oo_c (lv := List.map some [.ref 76, .int a]) (i := 77009) (by decide) rfl rfl e1
    dsimp only at l1
    have g0 := cf_get h4 (y := (0, 1, 0)) (lo := (-2147483648)) (hi := (-1)) (d := none) (by simp) (show ab_kv _ _ _ (0, 1, 0) = some a.toInt from rfl)
    obtain ⟨m1', u1, w1a, w1b, w1c⟩ := cf_fin h5 (k := 76) (j := 9) (lo := 0) (hi := 6) (d := some (77009, 0)) (by simp)
    have w1d := w1c _ rfl
    dsimp only at w1d
    refine ⟨m0, m1', u0, u1, rfl, ?_⟩
    omega
  · obtain ⟨y, ey, l1, l2⟩ := h3
    cases ey
    have o1 := oo_v (av := [.ref 76, .int a]) (cs := cs) (i := 1) (by decide) rfl
    have o77000 := oo_c (lv := List.map some [.ref 76, .int a]) (i := 77000) (by decide) rfl rfl e0
    have o77009 := oo_c (lv := List.map some [.ref 76, .int a]) (i := 77009) (by decide) rfl rfl e1
    dsimp only at l1
    have g0 := cf_get h4 (y := (0, 1, 0)) (lo := 0) (hi := 2147483647) (d := none) (by simp) (show ab_kv _ _ _ (0, 1, 0) = some a.toInt from rfl)
    have g1 := cf_get h4 (y := (8, 77000, 0)) (lo := 0) (hi := 6) (d := none) (by simp) rfl
    have g2 := cf_get h4 (y := (9, 1, 77000)) (lo := 0) (hi := 4294967296) (d := none) (by simp) rfl
    obtain ⟨m1', u1, w1a, w1b, w1c⟩ := cf_fin h5 (k := 76) (j := 9) (lo := 0) (hi := 6) (d := some (77009, 0)) (by simp)
    have w1d := w1c _ rfl
    dsimp only at w1d
    refine ⟨m0, m1', u0, u1, rfl, ?_⟩
    omega
  · obtain ⟨y, ey, l1, l2⟩ := h3
    cases ey
    have o1 := oo_v (av := [.ref 76, .int a]) (cs := cs) (i := 1) (by decide) rfl
    have o77000 := oo_c (lv := List.map some [.ref 76, .int a]) (i := 77000) (by decide) rfl rfl e0
    have o77009 := oo_c (lv := List.map some [.ref 76, .int a]) (i := 77009) (by decide) rfl rfl e1
    dsimp only at l1
    have g0 := cf_get h4 (y := (0, 1, 0)) (lo := 0) (hi := 5) (d := none) (by simp) (show ab_kv _ _ _ (0, 1, 0) = some a.toInt from rfl)
    have g1 := cf_get h4 (y := (8, 77009, 0)) (lo := 6) (hi := 6) (d := none) (by simp) rfl
    have g2 := cf_get h4 (y := (8, 77000, 0)) (lo := 1) (hi := 6) (d := none) (by simp) rfl
    have g3 := cf_get h4 (y := (9, 1, 77000)) (lo := (-4294967296)) (hi := (-1)) (d := none) (by simp) rfl
    obtain ⟨m1', u1, w1a, w1b, w1c⟩ := cf_fin h5 (k := 76) (j := 9) (lo := 6) (hi := 6) (d := some (77009, 0)) (by simp)
    have w1d := w1c _ rfl
    dsimp only at w1d
    refine ⟨m0, m1', u0, u1, rfl, ?_⟩
    omega
  · obtain ⟨y, ey, l1, l2⟩ := h3
    cases ey
    have o1 := oo_v (av := [.ref 76, .int a]) (cs := cs) (i := 1) (by decide) rfl
    have o77000 := oo_c (lv := List.map some [.ref 76, .int a]) (i := 77000) (by decide) rfl rfl e0
    have o77009 := oo_c (lv := List.map some [.ref 76, .int a]) (i := 77009) (by decide) rfl rfl e1
    have lr := l2 _ rfl
    dsimp only at lr
    dsimp only at l1
    have g0 := cf_get h4 (y := (0, 1, 0)) (lo := 0) (hi := 5) (d := none) (by simp) (show ab_kv _ _ _ (0, 1, 0) = some a.toInt from rfl)
    have g1 := cf_get h4 (y := (8, 77009, 0)) (lo := 0) (hi := 5) (d := none) (by simp) rfl
    have g2 := cf_get h4 (y := (8, 77000, 0)) (lo := 1) (hi := 6) (d := none) (by simp) rfl
    have g3 := cf_get h4 (y := (9, 1, 77000)) (lo := (-4294967296)) (hi := (-1)) (d := none) (by simp) rfl
    obtain ⟨m1', u1, w1a, w1b, w1c⟩ := cf_fin h5 (k := 76) (j := 9) (lo := 1) (hi := 6) (d := some (77009, 1)) (by simp)
    have w1d := w1c _ rfl
    dsimp only at w1d
    refine ⟨m0, m1', u0, u1, rfl, ?_⟩
    omega
/-- what of the two states is the same -/
def rel_R (cs : ex_C) : Prop := ∃ m0 m1 : Int, ab_ri cs 7 6 = some m0 ∧ ab_ri cs 76 0 = some m0 ∧ ab_ri cs 14 6 = some m1 ∧ ab_ri cs 76 9 = some m1
theorem rel_keep {W1 W2 : ab_W} {cs cs1 cs2 : ex_C} (h1 : ab_fr W1 cs cs1) (h2 : ab_fr W2 cs1 cs2) (hW1 : ([(7, 6), (76, 0), (14, 6), (76, 9)] : List (Nat × Nat)).all (fun q => !ab_cov W1 q.1 q.2) = true) (hW2 : ([(7, 6), (76, 0), (14, 6), (76, 9)] : List (Nat × Nat)).all (fun q => !ab_cov W2 q.1 q.2) = true) (h : rel_R cs) : rel_R cs2 := by
  have a1 : ∀ q ∈ ([(7, 6), (76, 0), (14, 6), (76, 9)] : List (Nat × Nat)), ab_cov W1 q.1 q.2 = false := fun q hq => by simpa using List.all_eq_true.mp hW1 q hq
  have a2 : ∀ q ∈ ([(7, 6), (76, 0), (14, 6), (76, 9)] : List (Nat × Nat)), ab_cov W2 q.1 q.2 = false := fun q hq => by simpa using List.all_eq_true.mp hW2 q hq
  obtain ⟨m0, m1, e0, f0, e1, f1⟩ := h
  exact ⟨m0, m1, fr_ri h2 (a2 (7, 6) (by simp)) (fr_ri h1 (a1 (7, 6) (by simp)) e0), fr_ri h2 (a2 (76, 0) (by simp)) (fr_ri h1 (a1 (76, 0) (by simp)) f0), fr_ri h2 (a2 (14, 6) (by simp)) (fr_ri h1 (a1 (14, 6) (by simp)) e1), fr_ri h2 (a2 (76, 9) (by simp)) (fr_ri h1 (a1 (76, 9) (by simp)) f1)⟩
theorem step_module {c0 c1 : ab_C} { x y : Int32} {cs cs1 cs2 : ex_C} (hc : bc_X9_module = [c0]) (hc' : bc_X10_module = [c1]) (h : ab_post ab_hd c0 [.ref 0] cs (some (.int x)) cs1) (h' : ab_post ab_hd c1 [.ref 76] cs1 (some (.int y)) cs2) (hR : rel_R cs) : rel_R cs2 := by
  obtain ⟨m0, m1, e0, f0, e1, f1⟩ := hR
  have wX9 : ab_fr [(7, some 6), (75, none)] cs cs1 := by
    have q : [(([.inl 0], [], [(7, some 6), (75, none)], [(some ((-2147483648), 2147483647, some (8006, 0)), [((8, 8006, 0), 0, 5, none)], [((1, 7, 6), 1, 6, some (8006, 1))]), (some ((-1000000004), (-1000000004), none), [((8, 8006, 0), 6, 6, none)], [((1, 7, 6), 6, 6, some (8006, 0))])]) : ab_C)] = [c0] := hc
    cases q
    exact h.2.1
  have wX10 : ab_fr [(76, some 0), (114, some 4)] cs1 cs2 := by
    have q : [(([.inl 76], [], [(76, some 0), (114, some 4)], [(some ((-1000000004), (-1000000004), none), [((8, 77000, 0), 6, 6, none)], [((1, 76, 0), 6, 6, some (77000, 0))]), (some (0, 5, some (77000, 0)), [((8, 77000, 0), 0, 5, none)], [((1, 76, 0), 1, 6, some (77000, 1))])]) : ab_C)] = [c1] := hc'
    cases q
    exact h'.2.1
  obtain ⟨p0, p1, r0, r1, cx⟩ := fx_X9_module hc h e0 e1
  obtain ⟨q0, q1, t0, t1, cy⟩ := fx_X10_module hc' h' (fr_ri wX9 (by decide) f0) (fr_ri wX9 (by decide) f1)
  have key : p0 = q0 ∧ p1 = q1 := by
    obtain ⟨j0, cx⟩ := cx
    rcases cx with cx | cx <;> omega
  exact ⟨p0, p1, fr_ri wX10 (by decide) r0, (by rw [key.1]; exact t0), fr_ri wX10 (by decide) r1, (by rw [key.2]; exact t1)⟩
theorem step_person {c0 c1 : ab_C} {a x y : Int32} {cs cs1 cs2 : ex_C} (hc : bc_X9_person = [c0]) (hc' : bc_X10_person = [c1]) (h : ab_post ab_hd c0 [.ref 0, .int a] cs (some (.int x)) cs1) (h' : ab_post ab_hd c1 [.ref 76, .int a] cs1 (some (.int y)) cs2) (hR : rel_R cs) : x = y ∧ rel_R cs2 := by
  obtain ⟨m0, m1, e0, f0, e1, f1⟩ := hR
  have wX9 : ab_fr [(14, some 6), (15, none), (17, none), (75, none)] cs cs1 := by
    have q : [(([.inl 0, .inr ((-2147483648), 2147483647)], [], [(14, some 6), (15, none), (17, none), (75, none)], [(some ((-1000000001), (-1000000001), none), [((0, 1, 0), (-2147483648), (-1), none)], [((1, 14, 6), 0, 6, some (15006, 0))]), (some ((-1000000001), (-1000000001), none), [((0, 1, 0), 0, 2147483647, none), ((8, 8006, 0), 0, 6, none), ((9, 1, 8006), 0, 4294967296, none)], [((1, 14, 6), 0, 6, some (15006, 0))]), (some ((-2147483648), 2147483647, some (15006, 0)), [((0, 1, 0), 0, 5, none), ((8, 15006, 0), 0, 5, none), ((8, 8006, 0), 1, 6, none), ((9, 1, 8006), (-4294967296), (-1), none)], [((1, 14, 6), 1, 6, some (15006, 1))]), (some ((-1000000004), (-1000000004), none), [((0, 1, 0), 0, 5, none), ((8, 15006, 0), 6, 6, none), ((8, 8006, 0), 1, 6, none), ((9, 1, 8006), (-4294967296), (-1), none)], [((1, 14, 6), 6, 6, some (15006, 0))])]) : ab_C)] = [c0] := hc
    cases q
    exact h.2.1
  have wX10 : ab_fr [(76, some 9), (84, none), (86, none), (114, some 1), (114, some 4)] cs1 cs2 := by
    have q : [(([.inl 76, .inr ((-2147483648), 2147483647)], [], [(76, some 9), (84, none), (86, none), (114, some 1), (114, some 4)], [(some ((-1000000001), (-1000000001), none), [((0, 1, 0), (-2147483648), (-1), none)], [((1, 76, 9), 0, 6, some (77009, 0))]), (some ((-1000000001), (-1000000001), none), [((0, 1, 0), 0, 2147483647, none), ((8, 77000, 0), 0, 6, none), ((9, 1, 77000), 0, 4294967296, none)], [((1, 76, 9), 0, 6, some (77009, 0))]), (some ((-1000000004), (-1000000004), none), [((0, 1, 0), 0, 5, none), ((8, 77009, 0), 6, 6, none), ((8, 77000, 0), 1, 6, none), ((9, 1, 77000), (-4294967296), (-1), none)], [((1, 76, 9), 6, 6, some (77009, 0))]), (some (0, 5, some (77009, 0)), [((0, 1, 0), 0, 5, none), ((8, 77009, 0), 0, 5, none), ((8, 77000, 0), 1, 6, none), ((9, 1, 77000), (-4294967296), (-1), none)], [((1, 76, 9), 1, 6, some (77009, 1))])]) : ab_C)] = [c1] := hc'
    cases q
    exact h'.2.1
  obtain ⟨p0, p1, r0, r1, cx⟩ := fx_X9_person hc h e0 e1
  obtain ⟨q0, q1, t0, t1, cy⟩ := fx_X10_person hc' h' (fr_ri wX9 (by decide) f0) (fr_ri wX9 (by decide) f1)
  have key : p0 = q0 ∧ p1 = q1 ∧ x.toInt = y.toInt := by
    obtain ⟨j0, cx⟩ := cx
    rcases cx with cx | cx | cx | cx <;> omega
  exact ⟨Int32.toInt_inj.mp key.2.2, ⟨p0, p1, fr_ri wX10 (by decide) r0, (by rw [key.1]; exact t0), fr_ri wX10 (by decide) r1, (by rw [key.2.1]; exact t1)⟩⟩
theorem ini_R : rel_R ini_cs := ⟨0, 0, (by first | rfl | decide), (by first | rfl | decide), (by first | rfl | decide), (by first | rfl | decide)⟩

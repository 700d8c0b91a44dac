theorem cf_get {o : Nat → Int} {lv : ex_L} {cs : ex_C} {fc : ab_F} {y : ab_Y} {lo hi z : Int} {d : Option (Nat × Int)} (h : ab_cf o lv cs fc) (hm : (y, lo, hi, d) ∈ fc) (hz : ab_kv o lv cs y = some z) : lo ≤ z ∧ z ≤ hi := by
  obtain ⟨x, hx, hb, hc, -⟩ := h _ hm
  rw [hz] at hx
  cases hx
  exact ⟨hb, hc⟩
theorem cf_fin {o : Nat → Int} {lv : ex_L} {cs : ex_C} {fc : ab_F} {k j : Nat} {lo hi : Int} {d : Option (Nat × Int)} (h : ab_cf o lv cs fc) (hm : ((1, k, j), lo, hi, d) ∈ fc) : ∃ z, ab_ri cs k j = some z ∧ lo ≤ z ∧ z ≤ hi ∧ ∀ e, d = some e → z = o e.1 + e.2 := h _ hm
theorem oo_v {av : ex_V} {cs : ex_C} {i : Nat} {x : Int32} (hi : i < 1000) (h : av[i]? = some (.int x)) : ab_oo (av.map some) cs i = x.toInt := by
  unfold ab_oo
  rw [if_pos hi, ab_avli h]
  rfl
theorem oo_c {lv : ex_L} {cs : ex_C} {i k j : Nat} {z : Int} (hi : 1000 ≤ i) (hk : (i - 1000) / 1000 = k) (hj : (i - 1000) % 1000 = j) (h : ab_ri cs k j = some z) : ab_oo lv cs i = z := by
  unfold ab_oo
  rw [if_neg (by omega), hk, hj, h]
  rfl
theorem fr_ri {W : ab_W} {cs cs' : ex_C} {k j : Nat} {z : Option Int} (h : ab_fr W cs cs') (hc : ab_cov W k j = false) (hz : ab_ri cs k j = z) : ab_ri cs' k j = z := by
  rw [← hz]
  unfold ab_ri
  rw [h k j hc]
theorem fx_X9_module {c0 : ab_C} { x : Int32} {m0 : Int} {cs cs' : ex_C} (hc : bc_X9_module = [c0]) (h : ab_post ab_hd c0 [.ref 0] cs (some (.int x)) cs') (e0 : ab_ri cs 7 6 = some m0) : ∃ m0' : Int, ab_ri cs' 7 6 = some m0' ∧ ((0 ≤ m0 ∧ m0 ≤ 5 ∧ (-2147483648) ≤ x.toInt ∧ x.toInt ≤ 2147483647 ∧ x.toInt = m0 + 0 ∧ 1 ≤ m0' ∧ m0' ≤ 6 ∧ m0' = m0 + 1) ∨ (6 ≤ m0 ∧ m0 ≤ 6 ∧ (-1000000004) ≤ x.toInt ∧ x.toInt ≤ (-1000000004) ∧ 6 ≤ m0' ∧ m0' ≤ 6 ∧ m0' = m0 + 0)) := by
  have hc2 : [(([.inl 0], [], [(7, some 6), (75, none)], [(some ((-2147483648), 2147483647, some (8006, 0)), [((8, 8006, 0), 0, 5, none)], [((1, 7, 6), 1, 6, some (8006, 1))]), (some ((-1000000004), (-1000000004), none), [((8, 8006, 0), 6, 6, none)], [((1, 7, 6), 6, 6, some (8006, 0))])]) : ab_C)] = [c0] := hc
  cases hc2
  obtain ⟨-, hfr, k, hk, h3, h4, h5⟩ := h
  dsimp only at hfr
  simp only [List.mem_cons, List.not_mem_nil, or_false] at hk
  rcases hk with rfl | rfl
  · obtain ⟨y, ey, l1, l2⟩ := h3
    cases ey
    have o8006 := oo_c (lv := List.map some [.ref 0]) (i := 8006) (by decide) rfl rfl e0
    have lr := l2 _ rfl
    dsimp only at lr
    dsimp only at l1
    have g0 := cf_get h4 (y := (8, 8006, 0)) (lo := 0) (hi := 5) (d := none) (by simp) rfl
    obtain ⟨m0', u0, w0a, w0b, w0c⟩ := cf_fin h5 (k := 7) (j := 6) (lo := 1) (hi := 6) (d := some (8006, 1)) (by simp)
    have w0d := w0c _ rfl
    dsimp only at w0d
    refine ⟨m0', u0, ?_⟩
    omega
  · obtain ⟨y, ey, l1, l2⟩ := h3
    cases ey
    have o8006 := oo_c (lv := List.map some [.ref 0]) (i := 8006) (by decide) rfl rfl e0
    dsimp only at l1
    have g0 := cf_get h4 (y := (8, 8006, 0)) (lo := 6) (hi := 6) (d := none) (by simp) rfl
    obtain ⟨m0', u0, w0a, w0b, w0c⟩ := cf_fin h5 (k := 7) (j := 6) (lo := 6) (hi := 6) (d := some (8006, 0)) (by simp)
    have w0d := w0c _ rfl
    dsimp only at w0d
    refine ⟨m0', u0, ?_⟩
    omega
theorem fx_X9_hunt {c0 : ab_C} { x : Int32} {m0 : Int} {cs cs' : ex_C} (hc : bc_X9_hunt = [c0]) (h : ab_post ab_hd c0 [.ref 0] cs (some (.int x)) cs') (e0 : ab_ri cs 7 6 = some m0) : ∃ m0' : Int, ab_ri cs' 7 6 = some m0' ∧ m0' = m0 ∧ ((0 ≤ x.toInt ∧ x.toInt ≤ 6 ∧ x.toInt = m0 + 0)) := by
  have hc2 : [(([.inl 0], [], [(64, some 1)], [(some (0, 6, some (8006, 0)), [], [])]) : ab_C)] = [c0] := hc
  cases hc2
  obtain ⟨-, hfr, k, hk, h3, h4, h5⟩ := h
  dsimp only at hfr
  simp only [List.mem_cons, List.not_mem_nil, or_false] at hk
  have u0 := fr_ri hfr (by decide) e0
  rcases hk with rfl
  · obtain ⟨y, ey, l1, l2⟩ := h3
    cases ey
    have o8006 := oo_c (lv := List.map some [.ref 0]) (i := 8006) (by decide) rfl rfl e0
    have lr := l2 _ rfl
    dsimp only at lr
    dsimp only at l1
    refine ⟨m0, u0, rfl, ?_⟩
    omega
theorem fx_X10_module {c0 : ab_C} { x : Int32} {m0 : Int} {cs cs' : ex_C} (hc : bc_X10_module = [c0]) (h : ab_post ab_hd c0 [.ref 76] cs (some (.int x)) cs') (e0 : ab_ri cs 76 0 = some m0) : ∃ m0' : Int, ab_ri cs' 76 0 = some m0' ∧ ((6 ≤ m0 ∧ m0 ≤ 6 ∧ (-1000000004) ≤ x.toInt ∧ x.toInt ≤ (-1000000004) ∧ 6 ≤ m0' ∧ m0' ≤ 6 ∧ m0' = m0 + 0) ∨ (0 ≤ m0 ∧ m0 ≤ 5 ∧ 0 ≤ x.toInt ∧ x.toInt ≤ 5 ∧ x.toInt = m0 + 0 ∧ 1 ≤ m0' ∧ m0' ≤ 6 ∧ m0' = m0 + 1)) := by
  have hc2 : [(([.inl 76], [], [(76, some 0), (114, some 4)], [(some ((-1000000004), (-1000000004), none), [((8, 77000, 0), 6, 6, none)], [((1, 76, 0), 6, 6, some (77000, 0))]), (some (0, 5, some (77000, 0)), [((8, 77000, 0), 0, 5, none)], [((1, 76, 0), 1, 6, some (77000, 1))])]) : ab_C)] = [c0] := hc
  cases hc2
  obtain ⟨-, hfr, k, hk, h3, h4, h5⟩ := h
  dsimp only at hfr
  simp only [List.mem_cons, List.not_mem_nil, or_false] at hk
  rcases hk with rfl | rfl
  · obtain ⟨y, ey, l1, l2⟩ := h3
    cases ey
    have o77000 := oo_c (lv := List.map some [.ref 76]) (i := 77000) (by decide) rfl rfl e0
    dsimp only at l1
    have g0 := cf_get h4 (y := (8, 77000, 0)) (lo := 6) (hi := 6) (d := none) (by simp) rfl
    obtain ⟨m0', u0, w0a, w0b, w0c⟩ := cf_fin h5 (k := 76) (j := 0) (lo := 6) (hi := 6) (d := some (77000, 0)) (by simp)
    have w0d := w0c _ rfl
    dsimp only at w0d
    refine ⟨m0', u0, ?_⟩
    omega
  · obtain ⟨y, ey, l1, l2⟩ := h3
    cases ey
    have o77000 := oo_c (lv := List.map some [.ref 76]) (i := 77000) (by decide) rfl rfl e0
    have lr := l2 _ rfl
    dsimp only at lr
    dsimp only at l1
    have g0 := cf_get h4 (y := (8, 77000, 0)) (lo := 0) (hi := 5) (d := none) (by simp) rfl
    obtain ⟨m0', u0, w0a, w0b, w0c⟩ := cf_fin h5 (k := 76) (j := 0) (lo := 1) (hi := 6) (d := some (77000, 1)) (by simp)
    have w0d := w0c _ rfl
    dsimp only at w0d
    refine ⟨m0', u0, ?_⟩
    omega
theorem fx_X10_hunt {c0 : ab_C} { x : Int32} {m0 : Int} {cs cs' : ex_C} (hc : bc_X10_hunt = [c0]) (h : ab_post ab_hd c0 [.ref 76] cs (some (.int x)) cs') (e0 : ab_ri cs 76 0 = some m0) : ∃ m0' : Int, ab_ri cs' 76 0 = some m0' ∧ m0' = m0 ∧ ((0 ≤ x.toInt ∧ x.toInt ≤ 6 ∧ x.toInt = m0 + 0)) := by
  have hc2 : [(([.inl 76], [], [(76, some 39)], [(some (0, 6, some (77000, 0)), [], [])]) : ab_C)] = [c0] := hc
  cases hc2
  obtain ⟨-, hfr, k, hk, h3, h4, h5⟩ := h
  dsimp only at hfr
  simp only [List.mem_cons, List.not_mem_nil, or_false] at hk
  have u0 := fr_ri hfr (by decide) e0
  rcases hk with rfl
  · obtain ⟨y, ey, l1, l2⟩ := h3
    cases ey
    have o77000 := oo_c (lv := List.map some [.ref 76]) (i := 77000) (by decide) rfl rfl e0
    have lr := l2 _ rfl
    dsimp only at lr
    dsimp only at l1
    refine ⟨m0, u0, rfl, ?_⟩
    omega
/-- what of the two states is the same -/
def rel_R (cs : ex_C) : Prop := ∃ m0 : Int, ab_ri cs 7 6 = some m0 ∧ ab_ri cs 76 0 = some m0
theorem rel_keep {W1 W2 : ab_W} {cs cs1 cs2 : ex_C} (h1 : ab_fr W1 cs cs1) (h2 : ab_fr W2 cs1 cs2) (hW1 : ([(7, 6), (76, 0)] : List (Nat × Nat)).all (fun q => !ab_cov W1 q.1 q.2) = true) (hW2 : ([(7, 6), (76, 0)] : List (Nat × Nat)).all (fun q => !ab_cov W2 q.1 q.2) = true) (h : rel_R cs) : rel_R cs2 := by
  have a1 : ∀ q ∈ ([(7, 6), (76, 0)] : List (Nat × Nat)), ab_cov W1 q.1 q.2 = false := fun q hq => by simpa using List.all_eq_true.mp hW1 q hq
  have a2 : ∀ q ∈ ([(7, 6), (76, 0)] : List (Nat × Nat)), ab_cov W2 q.1 q.2 = false := fun q hq => by simpa using List.all_eq_true.mp hW2 q hq
  obtain ⟨m0, e0, f0⟩ := h
  exact ⟨m0, fr_ri h2 (a2 (7, 6) (by simp)) (fr_ri h1 (a1 (7, 6) (by simp)) e0), fr_ri h2 (a2 (76, 0) (by simp)) (fr_ri h1 (a1 (76, 0) (by simp)) f0)⟩
theorem step_hunt {c0 c1 : ab_C} { x y : Int32} {cs cs1 cs2 : ex_C} (hc : bc_X9_hunt = [c0]) (hc' : bc_X10_hunt = [c1]) (h : ab_post ab_hd c0 [.ref 0] cs (some (.int x)) cs1) (h' : ab_post ab_hd c1 [.ref 76] cs1 (some (.int y)) cs2) (hR : rel_R cs) : x = y ∧ rel_R cs2 := by
  obtain ⟨m0, e0, f0⟩ := hR
  have wX9 : ab_fr [(64, some 1)] cs cs1 := by
    have q : [(([.inl 0], [], [(64, some 1)], [(some (0, 6, some (8006, 0)), [], [])]) : ab_C)] = [c0] := hc
    cases q
    exact h.2.1
  have wX10 : ab_fr [(76, some 39)] cs1 cs2 := by
    have q : [(([.inl 76], [], [(76, some 39)], [(some (0, 6, some (77000, 0)), [], [])]) : ab_C)] = [c1] := hc'
    cases q
    exact h'.2.1
  obtain ⟨p0, r0, cx⟩ := fx_X9_hunt hc h e0
  obtain ⟨q0, t0, cy⟩ := fx_X10_hunt hc' h' (fr_ri wX9 (by decide) f0)
  have key : p0 = q0 ∧ x.toInt = y.toInt := by
    omega
  exact ⟨Int32.toInt_inj.mp key.2, ⟨p0, fr_ri wX10 (by decide) r0, (by rw [key.1]; exact t0)⟩⟩
theorem step_module {c0 c1 : ab_C} { x y : Int32} {cs cs1 cs2 : ex_C} (hc : bc_X9_module = [c0]) (hc' : bc_X10_module = [c1]) (h : ab_post ab_hd c0 [.ref 0] cs (some (.int x)) cs1) (h' : ab_post ab_hd c1 [.ref 76] cs1 (some (.int y)) cs2) (hR : rel_R cs) : rel_R cs2 := by
  obtain ⟨m0, e0, f0⟩ := hR
  have wX9 : ab_fr [(7, some 6), (75, none)] cs cs1 := by
    have q : [(([.inl 0], [], [(7, some 6), (75, none)], [(some ((-2147483648), 2147483647, some (8006, 0)), [((8, 8006, 0), 0, 5, none)], [((1, 7, 6), 1, 6, some (8006, 1))]), (some ((-1000000004), (-1000000004), none), [((8, 8006, 0), 6, 6, none)], [((1, 7, 6), 6, 6, some (8006, 0))])]) : ab_C)] = [c0] := hc
    cases q
    exact h.2.1
  have wX10 : ab_fr [(76, some 0), (114, some 4)] cs1 cs2 := by
    have q : [(([.inl 76], [], [(76, some 0), (114, some 4)], [(some ((-1000000004), (-1000000004), none), [((8, 77000, 0), 6, 6, none)], [((1, 76, 0), 6, 6, some (77000, 0))]), (some (0, 5, some (77000, 0)), [((8, 77000, 0), 0, 5, none)], [((1, 76, 0), 1, 6, some (77000, 1))])]) : ab_C)] = [c1] := hc'
    cases q
    exact h'.2.1
  obtain ⟨p0, r0, cx⟩ := fx_X9_module hc h e0
  obtain ⟨q0, t0, cy⟩ := fx_X10_module hc' h' (fr_ri wX9 (by decide) f0)
  have key : p0 = q0 := by
    skip
    rcases cx with cx | cx <;> omega
  exact ⟨p0, fr_ri wX10 (by decide) r0, (by rw [key]; exact t0)⟩
theorem ini_R : rel_R ini_cs := ⟨0, (by first | rfl | decide), (by first | rfl | decide)⟩

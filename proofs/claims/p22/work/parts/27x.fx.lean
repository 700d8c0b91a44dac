theorem cf_get {lv : ex_L} {cs : ex_C} {fc : ab_F} {y : ab_Y} {lo hi z : Int} (h : ab_cf lv cs fc) (hm : (y, lo, hi) ∈ fc) (hz : ab_kv lv cs y = some z) : lo ≤ z ∧ z ≤ hi := by
  obtain ⟨x, hx, hb⟩ := h _ hm
  rw [hz] at hx
  cases hx
  exact hb
theorem fx_X9_bounds {c0 : ab_C} {a b c x : Int32} {cs cs' : ex_C} (hc : bc_X9_bounds = [c0]) (h : ab_post ab_hd c0 [.ref 0, .int a, .int b, .int c] cs (some (.int x)) cs') : (0 ≤ a.toInt ∧ a.toInt ≤ 100000 ∧ 0 ≤ b.toInt ∧ b.toInt ≤ 100000 ∧ 0 ≤ c.toInt ∧ c.toInt ≤ 100000 ∧ 1 ≤ x.toInt ∧ x.toInt ≤ 1) ∨ (0 ≤ a.toInt ∧ a.toInt ≤ 100000 ∧ 0 ≤ b.toInt ∧ b.toInt ≤ 100000 ∧ 100001 ≤ c.toInt ∧ c.toInt ≤ 2147483647 ∧ (-1000000001) ≤ x.toInt ∧ x.toInt ≤ (-1000000001)) ∨ (0 ≤ a.toInt ∧ a.toInt ≤ 100000 ∧ 0 ≤ b.toInt ∧ b.toInt ≤ 100000 ∧ (-2147483648) ≤ c.toInt ∧ c.toInt ≤ (-1) ∧ (-1000000001) ≤ x.toInt ∧ x.toInt ≤ (-1000000001)) ∨ (0 ≤ a.toInt ∧ a.toInt ≤ 100000 ∧ 100001 ≤ b.toInt ∧ b.toInt ≤ 2147483647 ∧ (-1000000001) ≤ x.toInt ∧ x.toInt ≤ (-1000000001)) ∨ (0 ≤ a.toInt ∧ a.toInt ≤ 100000 ∧ (-2147483648) ≤ b.toInt ∧ b.toInt ≤ (-1) ∧ (-1000000001) ≤ x.toInt ∧ x.toInt ≤ (-1000000001)) ∨ (100001 ≤ a.toInt ∧ a.toInt ≤ 2147483647 ∧ (-1000000001) ≤ x.toInt ∧ x.toInt ≤ (-1000000001)) ∨ ((-2147483648) ≤ a.toInt ∧ a.toInt ≤ (-1) ∧ (-1000000001) ≤ x.toInt ∧ x.toInt ≤ (-1000000001)) := by
  have hc2 : [(([.inl 0, .inr ((-2147483648), 2147483647), .inr ((-2147483648), 2147483647), .inr ((-2147483648), 2147483647)], [], [(33, some 0), (33, some 1), (33, some 2), (75, some 1)], [(some (1, 1), [((0, 1, 0), 0, 100000), ((0, 2, 0), 0, 100000), ((0, 3, 0), 0, 100000)], []), (some ((-1000000001), (-1000000001)), [((0, 1, 0), 0, 100000), ((0, 2, 0), 0, 100000), ((0, 3, 0), 100001, 2147483647)], []), (some ((-1000000001), (-1000000001)), [((0, 1, 0), 0, 100000), ((0, 2, 0), 0, 100000), ((0, 3, 0), (-2147483648), (-1))], []), (some ((-1000000001), (-1000000001)), [((0, 1, 0), 0, 100000), ((0, 2, 0), 100001, 2147483647)], []), (some ((-1000000001), (-1000000001)), [((0, 1, 0), 0, 100000), ((0, 2, 0), (-2147483648), (-1))], []), (some ((-1000000001), (-1000000001)), [((0, 1, 0), 100001, 2147483647)], []), (some ((-1000000001), (-1000000001)), [((0, 1, 0), (-2147483648), (-1))], [])]) : ab_C)] = [c0] := hc
  cases hc2
  obtain ⟨-, -, k, hk, h3, h4, -⟩ := h
  simp only [List.mem_cons, List.not_mem_nil, or_false] at hk
  rcases hk with rfl | rfl | rfl | rfl | rfl | rfl | rfl
  · obtain ⟨y, e, l1, l2⟩ := h3
    cases e
    have g0 := cf_get h4 (y := (0, 1, 0)) (lo := 0) (hi := 100000) (by simp) (show ab_kv _ _ (0, 1, 0) = some a.toInt from rfl)
    have g1 := cf_get h4 (y := (0, 2, 0)) (lo := 0) (hi := 100000) (by simp) (show ab_kv _ _ (0, 2, 0) = some b.toInt from rfl)
    have g2 := cf_get h4 (y := (0, 3, 0)) (lo := 0) (hi := 100000) (by simp) (show ab_kv _ _ (0, 3, 0) = some c.toInt from rfl)
    omega
  · obtain ⟨y, e, l1, l2⟩ := h3
    cases e
    have g0 := cf_get h4 (y := (0, 1, 0)) (lo := 0) (hi := 100000) (by simp) (show ab_kv _ _ (0, 1, 0) = some a.toInt from rfl)
    have g1 := cf_get h4 (y := (0, 2, 0)) (lo := 0) (hi := 100000) (by simp) (show ab_kv _ _ (0, 2, 0) = some b.toInt from rfl)
    have g2 := cf_get h4 (y := (0, 3, 0)) (lo := 100001) (hi := 2147483647) (by simp) (show ab_kv _ _ (0, 3, 0) = some c.toInt from rfl)
    omega
  · obtain ⟨y, e, l1, l2⟩ := h3
    cases e
    have g0 := cf_get h4 (y := (0, 1, 0)) (lo := 0) (hi := 100000) (by simp) (show ab_kv _ _ (0, 1, 0) = some a.toInt from rfl)
    have g1 := cf_get h4 (y := (0, 2, 0)) (lo := 0) (hi := 100000) (by simp) (show ab_kv _ _ (0, 2, 0) = some b.toInt from rfl)
    have g2 := cf_get h4 (y := (0, 3, 0)) (lo := (-2147483648)) (hi := (-1)) (by simp) (show ab_kv _ _ (0, 3, 0) = some c.toInt from rfl)
    omega
  · obtain ⟨y, e, l1, l2⟩ := h3
    cases e
    have g0 := cf_get h4 (y := (0, 1, 0)) (lo := 0) (hi := 100000) (by simp) (show ab_kv _ _ (0, 1, 0) = some a.toInt from rfl)
    have g1 := cf_get h4 (y := (0, 2, 0)) (lo := 100001) (hi := 2147483647) (by simp) (show ab_kv _ _ (0, 2, 0) = some b.toInt from rfl)
    omega
  · obtain ⟨y, e, l1, l2⟩ := h3
    cases e
    have g0 := cf_get h4 (y := (0, 1, 0)) (lo := 0) (hi := 100000) (by simp) (show ab_kv _ _ (0, 1, 0) = some a.toInt from rfl)
    have g1 := cf_get h4 (y := (0, 2, 0)) (lo := (-2147483648)) (hi := (-1)) (by simp) (show ab_kv _ _ (0, 2, 0) = some b.toInt from rfl)
    omega
  · obtain ⟨y, e, l1, l2⟩ := h3
    cases e
    have g0 := cf_get h4 (y := (0, 1, 0)) (lo := 100001) (hi := 2147483647) (by simp) (show ab_kv _ _ (0, 1, 0) = some a.toInt from rfl)
    omega
  · obtain ⟨y, e, l1, l2⟩ := h3
    cases e
    have g0 := cf_get h4 (y := (0, 1, 0)) (lo := (-2147483648)) (hi := (-1)) (by simp) (show ab_kv _ _ (0, 1, 0) = some a.toInt from rfl)
    omega
theorem fx_X10_bounds {c0 : ab_C} {a b c x : Int32} {cs cs' : ex_C} (hc : bc_X10_bounds = [c0]) (h : ab_post ab_hd c0 [.ref 76, .int a, .int b, .int c] cs (some (.int x)) cs') : ((-2147483648) ≤ a.toInt ∧ a.toInt ≤ (-1) ∧ (-1000000001) ≤ x.toInt ∧ x.toInt ≤ (-1000000001)) ∨ (100001 ≤ a.toInt ∧ a.toInt ≤ 2147483647 ∧ (-1000000001) ≤ x.toInt ∧ x.toInt ≤ (-1000000001)) ∨ (0 ≤ a.toInt ∧ a.toInt ≤ 100000 ∧ (-2147483648) ≤ b.toInt ∧ b.toInt ≤ (-1) ∧ (-1000000001) ≤ x.toInt ∧ x.toInt ≤ (-1000000001)) ∨ (0 ≤ a.toInt ∧ a.toInt ≤ 100000 ∧ 100001 ≤ b.toInt ∧ b.toInt ≤ 2147483647 ∧ (-1000000001) ≤ x.toInt ∧ x.toInt ≤ (-1000000001)) ∨ (0 ≤ a.toInt ∧ a.toInt ≤ 100000 ∧ 0 ≤ b.toInt ∧ b.toInt ≤ 100000 ∧ (-2147483648) ≤ c.toInt ∧ c.toInt ≤ (-1) ∧ (-1000000001) ≤ x.toInt ∧ x.toInt ≤ (-1000000001)) ∨ (0 ≤ a.toInt ∧ a.toInt ≤ 100000 ∧ 0 ≤ b.toInt ∧ b.toInt ≤ 100000 ∧ 100001 ≤ c.toInt ∧ c.toInt ≤ 2147483647 ∧ (-1000000001) ≤ x.toInt ∧ x.toInt ≤ (-1000000001)) ∨ (0 ≤ a.toInt ∧ a.toInt ≤ 100000 ∧ 0 ≤ b.toInt ∧ b.toInt ≤ 100000 ∧ 0 ≤ c.toInt ∧ c.toInt ≤ 100000 ∧ 1 ≤ x.toInt ∧ x.toInt ≤ 1) := by
  have hc2 : [(([.inl 76, .inr ((-2147483648), 2147483647), .inr ((-2147483648), 2147483647), .inr ((-2147483648), 2147483647)], [], [(76, some 31), (76, some 32), (76, some 33), (114, some 1)], [(some ((-1000000001), (-1000000001)), [((0, 1, 0), (-2147483648), (-1))], []), (some ((-1000000001), (-1000000001)), [((0, 1, 0), 100001, 2147483647)], []), (some ((-1000000001), (-1000000001)), [((0, 1, 0), 0, 100000), ((0, 2, 0), (-2147483648), (-1))], []), (some ((-1000000001), (-1000000001)), [((0, 1, 0), 0, 100000), ((0, 2, 0), 100001, 2147483647)], []), (some ((-1000000001), (-1000000001)), [((0, 1, 0), 0, 100000), ((0, 2, 0), 0, 100000), ((0, 3, 0), (-2147483648), (-1))], []), (some ((-1000000001), (-1000000001)), [((0, 1, 0), 0, 100000), ((0, 2, 0), 0, 100000), ((0, 3, 0), 100001, 2147483647)], []), (some (1, 1), [((0, 1, 0), 0, 100000), ((0, 2, 0), 0, 100000), ((0, 3, 0), 0, 100000)], [])]) : ab_C)] = [c0] := hc
  cases hc2
  obtain ⟨-, -, k, hk, h3, h4, -⟩ := h
  simp only [List.mem_cons, List.not_mem_nil, or_false] at hk
  rcases hk with rfl | rfl | rfl | rfl | rfl | rfl | rfl
  · obtain ⟨y, e, l1, l2⟩ := h3
    cases e
    have g0 := cf_get h4 (y := (0, 1, 0)) (lo := (-2147483648)) (hi := (-1)) (by simp) (show ab_kv _ _ (0, 1, 0) = some a.toInt from rfl)
    omega
  · obtain ⟨y, e, l1, l2⟩ := h3
    cases e
    have g0 := cf_get h4 (y := (0, 1, 0)) (lo := 100001) (hi := 2147483647) (by simp) (show ab_kv _ _ (0, 1, 0) = some a.toInt from rfl)
    omega
  · obtain ⟨y, e, l1, l2⟩ := h3
    cases e
    have g0 := cf_get h4 (y := (0, 1, 0)) (lo := 0) (hi := 100000) (by simp) (show ab_kv _ _ (0, 1, 0) = some a.toInt from rfl)
    have g1 := cf_get h4 (y := (0, 2, 0)) (lo := (-2147483648)) (hi := (-1)) (by simp) (show ab_kv _ _ (0, 2, 0) = some b.toInt from rfl)
    omega
  · obtain ⟨y, e, l1, l2⟩ := h3
    cases e
    have g0 := cf_get h4 (y := (0, 1, 0)) (lo := 0) (hi := 100000) (by simp) (show ab_kv _ _ (0, 1, 0) = some a.toInt from rfl)
    have g1 := cf_get h4 (y := (0, 2, 0)) (lo := 100001) (hi := 2147483647) (by simp) (show ab_kv _ _ (0, 2, 0) = some b.toInt from rfl)
    omega
  · obtain ⟨y, e, l1, l2⟩ := h3
    cases e
    have g0 := cf_get h4 (y := (0, 1, 0)) (lo := 0) (hi := 100000) (by simp) (show ab_kv _ _ (0, 1, 0) = some a.toInt from rfl)
    have g1 := cf_get h4 (y := (0, 2, 0)) (lo := 0) (hi := 100000) (by simp) (show ab_kv _ _ (0, 2, 0) = some b.toInt from rfl)
    have g2 := cf_get h4 (y := (0, 3, 0)) (lo := (-2147483648)) (hi := (-1)) (by simp) (show ab_kv _ _ (0, 3, 0) = some c.toInt from rfl)
    omega
  · obtain ⟨y, e, l1, l2⟩ := h3
    cases e
    have g0 := cf_get h4 (y := (0, 1, 0)) (lo := 0) (hi := 100000) (by simp) (show ab_kv _ _ (0, 1, 0) = some a.toInt from rfl)
    have g1 := cf_get h4 (y := (0, 2, 0)) (lo := 0) (hi := 100000) (by simp) (show ab_kv _ _ (0, 2, 0) = some b.toInt from rfl)
    have g2 := cf_get h4 (y := (0, 3, 0)) (lo := 100001) (hi := 2147483647) (by simp) (show ab_kv _ _ (0, 3, 0) = some c.toInt from rfl)
    omega
  · obtain ⟨y, e, l1, l2⟩ := h3
    cases e
    have g0 := cf_get h4 (y := (0, 1, 0)) (lo := 0) (hi := 100000) (by simp) (show ab_kv _ _ (0, 1, 0) = some a.toInt from rfl)
    have g1 := cf_get h4 (y := (0, 2, 0)) (lo := 0) (hi := 100000) (by simp) (show ab_kv _ _ (0, 2, 0) = some b.toInt from rfl)
    have g2 := cf_get h4 (y := (0, 3, 0)) (lo := 0) (hi := 100000) (by simp) (show ab_kv _ _ (0, 3, 0) = some c.toInt from rfl)
    omega
theorem same_bounds {c0 c1 : ab_C} {a b c x y : Int32} {cs cs' cs'' : ex_C} (hc : bc_X9_bounds = [c0]) (hc' : bc_X10_bounds = [c1]) (h : ab_post ab_hd c0 [.ref 0, .int a, .int b, .int c] cs (some (.int x)) cs') (h' : ab_post ab_hd c1 [.ref 76, .int a, .int b, .int c] cs' (some (.int y)) cs'') : x = y := by
  have f1 := fx_X9_bounds hc h
  have f2 := fx_X10_bounds hc' h'
  refine Int32.toInt_inj.mp ?_
  rcases f1 with f1 | f1 | f1 | f1 | f1 | f1 | f1 <;> omega

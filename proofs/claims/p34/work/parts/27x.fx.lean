/-- what of the two states is the same -/
def rel_p : am_P := [((7, 6), (76, 0)), ((7, 7), (76, 4)), ((10, 0), (80, 0)), ((10, 1), (80, 1)), ((10, 2), (80, 2)), ((10, 3), (80, 3)), ((10, 4), (80, 4)), ((10, 5), (80, 5)), ((10, 6), (80, 6)), ((10, 7), (80, 7)), ((11, 0), (81, 0)), ((11, 1), (81, 1)), ((11, 2), (81, 2)), ((11, 3), (81, 3)), ((11, 4), (81, 4)), ((11, 5), (81, 5)), ((11, 6), (81, 6)), ((11, 7), (81, 7)), ((64, 1), (76, 39))]
def rel_g : List (Nat × Nat) := [(0, 2), (1, 3), (7, 8), (32, 34)]
def rel_b : am_D := [((7, 6), 0, 6), ((7, 7), 0, 8), ((10, 0), 0, 5), ((10, 1), 0, 5), ((10, 2), 0, 5), ((10, 3), 0, 5), ((10, 4), 0, 5), ((10, 5), 0, 5), ((10, 6), 0, 5), ((10, 7), 0, 5), ((11, 0), 0, 5), ((11, 1), 0, 5), ((11, 2), 0, 5), ((11, 3), 0, 5), ((11, 4), 0, 5), ((11, 5), 0, 5), ((11, 6), 0, 5), ((11, 7), 0, 5)]
theorem rel_bp : am_bp rel_p rel_b = true := by decide +kernel
theorem rel_bw : am_bw rel_b = true := by decide +kernel
def rel_R (cs : ex_C) : Prop := am_R rel_p cs ∧ am_B rel_b cs
theorem rel_m10a : ∀ j : Fin 8, ((10, j.val), (80, j.val)) ∈ rel_p ∧ ((11, j.val), (81, j.val)) ∈ rel_p := by decide +kernel
theorem rel_m10b : ∀ j : Fin 8, ((10, j.val), 0, 5) ∈ rel_b ∧ ((11, j.val), 0, 5) ∈ rel_b := by decide +kernel
theorem rel_m10c : ∀ j : Fin 8, ((10, j.val), (7, 6), true) ∈ am_xs ∧ ((11, j.val), (7, 6), true) ∈ am_xs := by decide +kernel
theorem rel_m10 (j : Fin 8) : ((10, j.val), (80, j.val)) ∈ rel_p ∧ ((11, j.val), (81, j.val)) ∈ rel_p ∧ ((10, j.val), 0, 5) ∈ rel_b ∧ ((11, j.val), 0, 5) ∈ rel_b ∧ ((10, j.val), (7, 6), true) ∈ am_xs ∧ ((11, j.val), (7, 6), true) ∈ am_xs := ⟨(rel_m10a j).1, (rel_m10a j).2, (rel_m10b j).1, (rel_m10b j).2, (rel_m10c j).1, (rel_m10c j).2⟩
theorem rel_m7 : ((7, 6), (76, 0)) ∈ rel_p ∧ ((7, 7), (76, 4)) ∈ rel_p ∧ ((64, 1), (76, 39)) ∈ rel_p ∧ ((7, 6), 0, 6) ∈ rel_b ∧ ((7, 7), 0, 8) ∈ rel_b ∧ ((7, 7), (7, 6), false) ∈ am_xs := by decide +kernel
/-- modules, hatches and their ends -/
theorem rel_hu {cs : ex_C} (hB : am_B rel_b cs) : (0 ≤ (gi cs 7 6).toInt ∧ (gi cs 7 6).toInt ≤ 6) ∧ (0 ≤ (gi cs 7 7).toInt ∧ (gi cs 7 7).toInt ≤ 8) ∧ ∀ j, j < (gi cs 7 7).toNatClampNeg → (0 ≤ (gi cs 10 j).toInt ∧ (gi cs 10 j).toInt ≤ 5 ∧ (gi cs 10 j).toInt < (gi cs 7 6).toInt) ∧ (0 ≤ (gi cs 11 j).toInt ∧ (gi cs 11 j).toInt ≤ 5 ∧ (gi cs 11 j).toInt < (gi cs 7 6).toInt) := by
  obtain ⟨hB, hX⟩ := hB
  obtain ⟨z, z1, z2, z3⟩ := hB _ rel_m7.2.2.2.1
  obtain ⟨y, y1, y2, y3⟩ := hB _ rel_m7.2.2.2.2.1
  have zt := gi_t z1
  have yt := gi_t y1
  dsimp only at z2 z3 y2 y3 zt yt
  refine ⟨⟨by omega, by omega⟩, ⟨by omega, by omega⟩, fun j hj => ?_⟩
  have e : (gi cs 7 7).toNatClampNeg = (gi cs 7 7).toInt.toNat := rfl
  have hj8 : j < 8 := by omega
  obtain ⟨-, -, a3, a4, a5, a6⟩ := rel_m10 ⟨j, hj8⟩
  obtain ⟨b, b1, b2, b3⟩ := hB _ a3
  obtain ⟨d, d1, d2, d3⟩ := hB _ a4
  have bt := gi_t b1
  have dt := gi_t d1
  dsimp only at b2 b3 d2 d3 bt dt
  obtain ⟨u, v, u1, v1, r⟩ := hX _ a5
  obtain ⟨u', v', u1', v1', r'⟩ := hX _ a6
  obtain ⟨u'', v'', u1'', v1'', r''⟩ := hX _ rel_m7.2.2.2.2.2
  have t1 := gi_t u1
  have t2 := gi_t v1
  have t3 := gi_t u1'
  have t5 := gi_t u1''
  have t4 := gi_t v1'
  have t6 := gi_t v1''
  dsimp only at t1 t2 t3 t4 t5 t6 r r' r''
  unfold am_xr at r r' r''
  simp only [Bool.false_eq_true, false_and, or_false, false_or, true_and, Bool.true_eq_false] at r r' r''
  exact ⟨⟨by omega, by omega, by omega⟩, ⟨by omega, by omega, by omega⟩⟩
/-- the class's part is the reference's -/
theorem rel_part {cs cs1 : ex_C} {c m : Int32} (hB : am_B rel_b cs) (h : ∀ p ∈ rel_p, ab_ri cs p.1.1 p.1.2 = ab_ri cs1 p.2.1 p.2.2) (m1 : 0 ≤ m.toInt) (m2 : m.toInt < (gi cs 7 6).toInt) : hu_P (gi cs 7) (gi cs 10) (gi cs 11) (gi cs 65) c m = hu_Q (gi cs1 76) (gi cs1 80) (gi cs1 81) c m := by
  obtain ⟨hM, hH, hE⟩ := rel_hu hB
  have eh : gi cs 7 7 = gi cs1 76 4 := gi_e (h _ rel_m7.2.1)
  have n1 : (gi cs 7 6).toNatClampNeg = (gi cs 7 6).toInt.toNat := rfl
  have n2 : (gi cs 7 7).toNatClampNeg = (gi cs 7 7).toInt.toNat := rfl
  have n3 : m.toNatClampNeg = m.toInt.toNat := rfl
  unfold hu_P hu_Q
  rw [← eh]
  have n4 : ∀ k, (gi cs 10 k).toNatClampNeg = (gi cs 10 k).toInt.toNat := fun _ => rfl
  have n5 : ∀ k, (gi cs 11 k).toNatClampNeg = (gi cs 11 k).toInt.toNat := fun _ => rfl
  rw [pt_eq (by omega) (by omega) (fun k hk => ⟨(hE k hk).1.1, (hE k hk).1.2.1⟩) (fun k hk => ⟨(hE k hk).2.1, (hE k hk).2.2.1⟩) (fun k hk => by
    have := hE k hk
    have := n4 k
    have := n5 k
    omega)]
  refine pw_kc (fun k hk => ?_) 64
  have := rel_m10 ⟨k, by omega⟩
  exact ⟨gi_e (h _ this.1), gi_e (h _ this.2.1)⟩
theorem rel_tt {cs cs1 : ex_C} {c m : Int32} (hB : am_B rel_b cs) (h : ∀ p ∈ rel_p, ab_ri cs p.1.1 p.1.2 = ab_ri cs1 p.2.1 p.2.2) : hu_t (gi cs 7 6) (gi cs 7 7) (gi cs 64 1) c m (hu_P (gi cs 7) (gi cs 10) (gi cs 11) (gi cs 65) c m) = hu_t (gi cs1 76 0) (gi cs1 76 4) (gi cs1 76 39) c m (hu_Q (gi cs1 76) (gi cs1 80) (gi cs1 81) c m) ∧ hu_s (gi cs 7 6) (gi cs 7 7) (gi cs 64 1) c m (hu_P (gi cs 7) (gi cs 10) (gi cs 11) (gi cs 65) c m) = hu_s (gi cs1 76 0) (gi cs1 76 4) (gi cs1 76 39) c m (hu_Q (gi cs1 76) (gi cs1 80) (gi cs1 81) c m) := by
  rw [← gi_e (h _ rel_m7.1), ← gi_e (h _ rel_m7.2.1), ← gi_e (h _ rel_m7.2.2.1)]
  unfold hu_t hu_s
  by_cases q : hu_b (gi cs 7 6) (gi cs 7 7) c m
  · simp only [if_pos q, and_self]
  · rw [rel_part hB h (by unfold hu_b at q; omega) (by unfold hu_b at q; omega)]
    exact ⟨rfl, rfl⟩
theorem hu_and {x y : Int32} (h1 : 0 ≤ x.toInt) (h2 : x.toInt ≤ 63) : 0 ≤ (y &&& x).toInt ∧ (y &&& x).toInt ≤ 255 := by
  have hx := ab_nn x h1
  have := ab_pos (y &&& x) (n := x.toBitVec.toNat) (by rw [ab_andn]; exact Nat.and_le_right) (by omega)
  exact ⟨this.1, by omega⟩
theorem rel_lw {cs cs1 : ex_C} (hB : am_B rel_b cs) (h : ∀ p ∈ rel_p, ab_ri cs p.1.1 p.1.2 = ab_ri cs1 p.2.1 p.2.2) : (∀ (P : Nat → Int32) (c : Int32), lw (gi cs 7) (gi cs 10) (gi cs 11) P (gi cs 64 1) c = wr (gi cs1 76) (gi cs1 80) (gi cs1 81) c) ∧ ∀ c, 0 ≤ (wr (gi cs1 76) (gi cs1 80) (gi cs1 81) c).toInt ∧ (wr (gi cs1 76) (gi cs1 80) (gi cs1 81) c).toInt ≤ 8 := by
  obtain ⟨hM, hH, hE⟩ := rel_hu hB
  have em : gi cs 7 6 = gi cs1 76 0 := gi_e (h _ rel_m7.1)
  have eh : gi cs 7 7 = gi cs1 76 4 := gi_e (h _ rel_m7.2.1)
  have eu : gi cs 64 1 = gi cs1 76 39 := gi_e (h _ rel_m7.2.2.1)
  have n1 : (gi cs 7 6).toNatClampNeg = (gi cs 7 6).toInt.toNat := rfl
  have n2 : (gi cs 7 7).toNatClampNeg = (gi cs 7 7).toInt.toNat := rfl
  have n4 : ∀ k, (gi cs 10 k).toNatClampNeg = (gi cs 10 k).toInt.toNat := fun _ => rfl
  have n5 : ∀ k, (gi cs 11 k).toNatClampNeg = (gi cs 11 k).toInt.toNat := fun _ => rfl
  have key : ∀ (P : Nat → Int32) (c : Int32) (j : Nat), j < (gi cs 7 6).toNatClampNeg → pt_h (gi cs 7 6).toNatClampNeg c (gi cs 10) (gi cs 11) P (gi cs 7 7).toNatClampNeg j = wr_q (gi cs1 76) (gi cs1 80) (gi cs1 81) c j ∧ pk (wr_q (gi cs1 76) (gi cs1 80) (gi cs1 81) c j) := by
    intro P c j hj
    have e1 := pt_eq (P := P) (c := c) (a := gi cs 10) (b := gi cs 11) (M := (gi cs 7 6).toNatClampNeg) (H := (gi cs 7 7).toNatClampNeg) (m := j) (by omega) hj (fun k hk => ⟨(hE k hk).1.1, (hE k hk).1.2.1⟩) (fun k hk => ⟨(hE k hk).2.1, (hE k hk).2.2.1⟩) (fun k hk => by
      have := hE k hk
      have := n4 k
      have := n5 k
      omega)
    have e2 : pw_k (gi cs 7 7).toNatClampNeg c (gi cs 10) (gi cs 11) j 64 = wr_q (gi cs1 76) (gi cs1 80) (gi cs1 81) c j := by
      unfold wr_q
      rw [← eh]
      refine pw_kc (fun k hk => ?_) 64
      have := rel_m10 ⟨k, by omega⟩
      exact ⟨gi_e (h _ this.1), gi_e (h _ this.2.1)⟩
    have e3 := (pw_kk (c := c) (f := gi cs 10) (g := gi cs 11) (H := (gi cs 7 7).toNatClampNeg) (m := j) (by omega) (fun k hk => ⟨(hE k hk).1.1, (hE k hk).1.2.1⟩) (fun k hk => ⟨(hE k hk).2.1, (hE k hk).2.2.1⟩) 64).1
    rw [e2] at e1 e3
    exact ⟨e1, e3⟩
  have kb : ∀ c j, j < (gi cs 7 6).toNatClampNeg → 0 ≤ (gi cs1 76 39 &&& wr_q (gi cs1 76) (gi cs1 80) (gi cs1 81) c j).toInt ∧ (gi cs1 76 39 &&& wr_q (gi cs1 76) (gi cs1 80) (gi cs1 81) c j).toInt ≤ 255 := fun c j hj => hu_and (key (fun _ => 0) c j hj).2.1 (key (fun _ => 0) c j hj).2.2
  refine ⟨fun P c => ?_, fun c => ?_⟩
  · unfold lw wr
    rw [← em, eu]
    exact bw_e _ (fun j hj => ⟨(key P c j hj).1, kb c j hj⟩)
  · unfold wr
    rw [← em]
    exact wf_b _ (fun j hj => kb c j hj)
theorem rel_bt {cs cs1 : ex_C} {w : Int32} (hB : am_B rel_b cs) (h : ∀ p ∈ rel_p, ab_ri cs p.1.1 p.1.2 = ab_ri cs1 p.2.1 p.2.2) : bt (gi cs 7) (gi cs 10) (gi cs 11) (gi cs 64) (gi cs 65) w = br (gi cs1 76) (gi cs1 80) (gi cs1 81) w := by
  obtain ⟨hM, hH, hE⟩ := rel_hu hB
  obtain ⟨hl, hb⟩ := rel_lw hB h
  have eh : gi cs 7 7 = gi cs1 76 4 := gi_e (h _ rel_m7.2.1)
  have eu : gi cs 64 1 = gi cs1 76 39 := gi_e (h _ rel_m7.2.2.1)
  have hn : bs_n (gi cs 7 7) ≤ 255 := by
    unfold bs_n
    have := (hu_sh hH.1 hH.2).2
    omega
  have e := bb_e (x65 := gi cs 65) hl hb _ hn
  unfold bt br
  rw [← eu, ← eh, e.1, e.2.1]
theorem rel_gh {v0 v1 : Value} {ps : ex_V} {cs cs1 : ex_C} (hB : am_B rel_b cs) (h : ∀ p ∈ rel_p, ab_ri cs p.1.1 p.1.2 = ab_ri cs1 p.2.1 p.2.2) : ∀ p ∈ rel_g, ab_oo ((v0 :: ps).map some) cs (900000000 + p.1) = ab_oo ((v1 :: ps).map some) cs1 (900000000 + p.2) := by
  intro p hp
  have l1 : ab_li ((v0 :: ps).map some) 1 = ab_li ((v1 :: ps).map some) 1 := rfl
  have l2 : ab_li ((v0 :: ps).map some) 2 = ab_li ((v1 :: ps).map some) 2 := rfl
  have e : p = (0, 2) ∨ p = (1, 3) ∨ p = (7, 8) ∨ p = (32, 34) := by
    unfold rel_g at hp
    simpa using hp
  rcases e with rfl | rfl | rfl | rfl
  · rw [hx_gg (by omega), hx_gg (by omega), l1, l2]
    exact (rel_tt hB h).1
  · rw [hx_gg (by omega), hx_gg (by omega), l1, l2]
    exact (rel_tt hB h).2
  · rw [hx_gg (by omega), hx_gg (by omega)]
    show hu_u (gi cs 7 6) = hu_u (gi cs1 76 0)
    rw [gi_e (h _ rel_m7.1)]
  · rw [hx_gg (by omega), hx_gg (by omega), l1]
    exact rel_bt hB h
theorem rel_keep {W1 W2 : ab_W} {cs cs1 cs2 : ex_C} (h1 : ab_fr W1 cs cs1) (h2 : ab_fr W2 cs1 cs2) (hW1 : rel_p.all (fun p => !ab_cov W1 p.1.1 p.1.2 && !ab_cov W1 p.2.1 p.2.2) = true) (hW2 : rel_p.all (fun p => !ab_cov W2 p.1.1 p.1.2 && !ab_cov W2 p.2.1 p.2.2) = true) (h : rel_R cs) : rel_R cs2 := ⟨am_keep h1 h2 hW1 hW2 h.1, am_bkeep rel_bp h1 h2 hW1 hW2 h.2⟩
def sc_X9_best : List ((Nat × Nat) × Bool) := [((7, 6), false), ((7, 7), false), ((10, 0), false), ((10, 1), false), ((10, 2), false), ((10, 3), false), ((10, 4), false), ((10, 5), false), ((10, 6), false), ((10, 7), false), ((11, 0), false), ((11, 1), false), ((11, 2), false), ((11, 3), false), ((11, 4), false), ((11, 5), false), ((11, 6), false), ((11, 7), false), ((64, 1), false)]
def sc_X10_best : List ((Nat × Nat) × Bool) := [((76, 0), false), ((76, 4), false), ((80, 0), false), ((80, 1), false), ((80, 2), false), ((80, 3), false), ((80, 4), false), ((80, 5), false), ((80, 6), false), ((80, 7), false), ((81, 0), false), ((81, 1), false), ((81, 2), false), ((81, 3), false), ((81, 4), false), ((81, 5), false), ((81, 6), false), ((81, 7), false), ((76, 39), false)]
def sn_X9_best : List am_N := [([], [(some 900000032, 0)], ([[(some 8006, 0)], [(some 8007, 0)]] ++ am_un 11000 8 ++ am_un 12000 8 ++ [[(some 65001, 0)]]))]
def sn_X10_best : List am_N := [([], [(some 900000032, 0)], ([[(some 8006, 0)], [(some 8007, 0)]] ++ am_un 11000 8 ++ am_un 12000 8 ++ [[(some 65001, 0)]]))]
theorem sq_best : am_chk rel_p rel_g bc_X9_best bc_X10_best sc_X9_best sc_X10_best sn_X9_best sn_X10_best = true := by decide +kernel
theorem sa_best : sn_X9_best.all (fun n => sn_X10_best.all (am_ok true n)) = true := by decide +kernel
theorem sb_best : bc_X9_best.all (fun c => c.2.2.2.all (am_bc rel_b c.2.2.1)) = true := by decide +kernel
theorem step_best {c0 c1 : ab_C} {a x y : Int32} {cs cs1 cs2 : ex_C} (hc : bc_X9_best = [c0]) (hc' : bc_X10_best = [c1]) (h : ab_post ab_hd c0 [.ref 0, .int a] cs (some (.int x)) cs1) (h' : ab_post ab_hd c1 [.ref 76, .int a] cs1 (some (.int y)) cs2) (hR : rel_R cs) : x = y ∧ rel_R cs2 := by
  have q := sq_best
  rw [hc, hc'] at q
  have w := sb_best
  rw [hc] at w
  have w1 := List.all_eq_true.mp w c0 List.mem_cons_self
  obtain ⟨q1, f9, f10, q2, q3⟩ := am_chkk q
  have r := am_main q1 f9 f10 q2 q3 sa_best h h' hR.1 (rel_gh hR.2)
  exact ⟨r.1 rfl, ⟨r.2, am_bstep rel_bp rel_bw w1 q1 h h' hR.2⟩⟩
def rel_base_hatch : am_P := [((7, 6), (76, 0)), ((7, 7), (76, 4))]
theorem sj_hatch : am_jal rel_p rel_base_hatch false rel_b [.inl 0, .inr (-2147483648, 2147483647), .inr (-2147483648, 2147483647)] [.inl 76, .inr (-2147483648, 2147483647), .inr (-2147483648, 2147483647)] (7, 7) (76, 4) bc_X9_hatch bc_X10_hatch 9 = true := by decide +kernel
theorem sm_hatch : (((7, 7), (76, 4)) : (Nat × Nat) × (Nat × Nat)) ∈ rel_p := by decide +kernel
theorem pick_hatch {a b : Int32} {cs : ex_C} (hk : ab_hk ab_hd cs) (hR : rel_R cs) : ∃ c ∈ bc_X9_hatch, ab_pre c [.ref 0, .int a, .int b] cs ∧ c.2.2.2.all (fun k => k.1.isSome) = true ∧ ∀ x cs1, ab_post ab_hd c [.ref 0, .int a, .int b] cs (some (.int x)) cs1 → ∃ d ∈ bc_X10_hatch, ab_pre d [.ref 76, .int a, .int b] cs1 ∧ d.2.2.2.all (fun k => k.1.isSome) = true ∧ ∀ y cs2, ab_post ab_hd d [.ref 76, .int a, .int b] cs1 (some (.int y)) cs2 → rel_R cs2 := by
  obtain ⟨c, hc, h1, h2, h3⟩ := am_pick (v0 := .ref 0) (v1 := .ref 76) (ps := [.int a, .int b]) (cs := cs) rel_bp rel_bw sj_hatch sm_hatch (fun z hz => (by
    have := am_hb hk (k := 7) (j := 7) rfl rfl z hz
    omega)) ⟨rfl, fun i t h => (match i, h with
      | 0, h => (by cases h; exact ⟨_, rfl, rfl⟩)
      | 1, h => (by cases h; exact ⟨_, rfl, _, rfl, ab_ge _, ab_lt' _⟩)
      | 2, h => (by cases h; exact ⟨_, rfl, _, rfl, ab_ge _, ab_lt' _⟩)
      | i + 3, h => (by simp at h))⟩ ⟨rfl, fun i t h => (match i, h with
      | 0, h => (by cases h; exact ⟨_, rfl, rfl⟩)
      | 1, h => (by cases h; exact ⟨_, rfl, _, rfl, ab_ge _, ab_lt' _⟩)
      | 2, h => (by cases h; exact ⟨_, rfl, _, rfl, ab_ge _, ab_lt' _⟩)
      | i + 3, h => (by simp at h))⟩ hR.1 hR.2
  refine ⟨c, hc, h1, h2, fun x cs1 p1 => ?_⟩
  obtain ⟨d, hd, g1, g2, g3⟩ := h3 x cs1 p1
  refine ⟨d, hd, g1, g2, fun y cs2 p2 => ?_⟩
  have r := g3 y cs2 p2
  exact r.2
def sc_X9_hunt : List ((Nat × Nat) × Bool) := [((7, 6), false), ((7, 7), false), ((10, 0), false), ((10, 1), false), ((10, 2), false), ((10, 3), false), ((10, 4), false), ((10, 5), false), ((10, 6), false), ((10, 7), false), ((11, 0), false), ((11, 1), false), ((11, 2), false), ((11, 3), false), ((11, 4), false), ((11, 5), false), ((11, 6), false), ((11, 7), false), ((64, 1), true)]
def sc_X10_hunt : List ((Nat × Nat) × Bool) := [((76, 0), false), ((76, 4), false), ((80, 0), false), ((80, 1), false), ((80, 2), false), ((80, 3), false), ((80, 4), false), ((80, 5), false), ((80, 6), false), ((80, 7), false), ((81, 0), false), ((81, 1), false), ((81, 2), false), ((81, 3), false), ((81, 4), false), ((81, 5), false), ((81, 6), false), ((81, 7), false), ((76, 39), true)]
def sn_X9_hunt : List am_N := [([], [(some 8006, 0)], ([[(some 8006, 0)], [(some 8007, 0)]] ++ am_un 11000 8 ++ am_un 12000 8 ++ [[(some 900000007, 0)]]))]
def sn_X10_hunt : List am_N := [([], [(some 8006, 0)], ([[(some 8006, 0)], [(some 8007, 0)]] ++ am_un 11000 8 ++ am_un 12000 8 ++ [[(some 900000007, 0)]]))]
theorem sq_hunt : am_chk rel_p rel_g bc_X9_hunt bc_X10_hunt sc_X9_hunt sc_X10_hunt sn_X9_hunt sn_X10_hunt = true := by decide +kernel
theorem sa_hunt : sn_X9_hunt.all (fun n => sn_X10_hunt.all (am_ok false n)) = true := by decide +kernel
theorem sb_hunt : bc_X9_hunt.all (fun c => c.2.2.2.all (am_bc rel_b c.2.2.1)) = true := by decide +kernel
theorem step_hunt {c0 c1 : ab_C} { x y : Int32} {cs cs1 cs2 : ex_C} (hc : bc_X9_hunt = [c0]) (hc' : bc_X10_hunt = [c1]) (h : ab_post ab_hd c0 [.ref 0] cs (some (.int x)) cs1) (h' : ab_post ab_hd c1 [.ref 76] cs1 (some (.int y)) cs2) (hR : rel_R cs) : rel_R cs2 := by
  have q := sq_hunt
  rw [hc, hc'] at q
  have w := sb_hunt
  rw [hc] at w
  have w1 := List.all_eq_true.mp w c0 List.mem_cons_self
  obtain ⟨q1, f9, f10, q2, q3⟩ := am_chkk q
  have r := am_main q1 f9 f10 q2 q3 sa_hunt h h' hR.1 (rel_gh hR.2)
  exact ⟨r.2, am_bstep rel_bp rel_bw w1 q1 h h' hR.2⟩
def sc_X9_module : List ((Nat × Nat) × Bool) := [((7, 6), true), ((7, 7), false), ((10, 0), false), ((10, 1), false), ((10, 2), false), ((10, 3), false), ((10, 4), false), ((10, 5), false), ((10, 6), false), ((10, 7), false), ((11, 0), false), ((11, 1), false), ((11, 2), false), ((11, 3), false), ((11, 4), false), ((11, 5), false), ((11, 6), false), ((11, 7), false), ((64, 1), false)]
def sc_X10_module : List ((Nat × Nat) × Bool) := [((76, 0), true), ((76, 4), false), ((80, 0), false), ((80, 1), false), ((80, 2), false), ((80, 3), false), ((80, 4), false), ((80, 5), false), ((80, 6), false), ((80, 7), false), ((81, 0), false), ((81, 1), false), ((81, 2), false), ((81, 3), false), ((81, 4), false), ((81, 5), false), ((81, 6), false), ((81, 7), false), ((76, 39), false)]
def sn_X9_module : List am_N := [([((8, 8006, 0), 0, 5)], [(some 8006, 0)], ([[(some 8006, 1)], [(some 8007, 0)]] ++ am_un 11000 8 ++ am_un 12000 8 ++ [[(some 65001, 0)]])),
  ([((8, 8006, 0), 6, 6)], [(none, (-1000000004))], ([[(none, 6), (some 8006, 0)], [(some 8007, 0)]] ++ am_un 11000 8 ++ am_un 12000 8 ++ [[(some 65001, 0)]]))]
def sn_X10_module : List am_N := [([((8, 8006, 0), 6, 6)], [(none, (-1000000004))], ([[(none, 6), (some 8006, 0)], [(some 8007, 0)]] ++ am_un 11000 8 ++ am_un 12000 8 ++ [[(some 65001, 0)]])),
  ([((8, 8006, 0), 0, 5)], [(some 8006, 0)], ([[(some 8006, 1)], [(some 8007, 0)]] ++ am_un 11000 8 ++ am_un 12000 8 ++ [[(some 65001, 0)]]))]
theorem sq_module : am_chk rel_p rel_g bc_X9_module bc_X10_module sc_X9_module sc_X10_module sn_X9_module sn_X10_module = true := by decide +kernel
theorem sa_module : sn_X9_module.all (fun n => sn_X10_module.all (am_ok false n)) = true := by decide +kernel
theorem sb_module : bc_X9_module.all (fun c => c.2.2.2.all (am_bc rel_b c.2.2.1)) = true := by decide +kernel
theorem step_module {c0 c1 : ab_C} { x y : Int32} {cs cs1 cs2 : ex_C} (hc : bc_X9_module = [c0]) (hc' : bc_X10_module = [c1]) (h : ab_post ab_hd c0 [.ref 0] cs (some (.int x)) cs1) (h' : ab_post ab_hd c1 [.ref 76] cs1 (some (.int y)) cs2) (hR : rel_R cs) : rel_R cs2 := by
  have q := sq_module
  rw [hc, hc'] at q
  have w := sb_module
  rw [hc] at w
  have w1 := List.all_eq_true.mp w c0 List.mem_cons_self
  obtain ⟨q1, f9, f10, q2, q3⟩ := am_chkk q
  have r := am_main q1 f9 f10 q2 q3 sa_module h h' hR.1 (rel_gh hR.2)
  exact ⟨r.2, am_bstep rel_bp rel_bw w1 q1 h h' hR.2⟩
def sc_X9_test : List ((Nat × Nat) × Bool) := [((7, 6), false), ((7, 7), false), ((10, 0), false), ((10, 1), false), ((10, 2), false), ((10, 3), false), ((10, 4), false), ((10, 5), false), ((10, 6), false), ((10, 7), false), ((11, 0), false), ((11, 1), false), ((11, 2), false), ((11, 3), false), ((11, 4), false), ((11, 5), false), ((11, 6), false), ((11, 7), false), ((64, 1), true)]
def sc_X10_test : List ((Nat × Nat) × Bool) := [((76, 0), false), ((76, 4), false), ((80, 0), false), ((80, 1), false), ((80, 2), false), ((80, 3), false), ((80, 4), false), ((80, 5), false), ((80, 6), false), ((80, 7), false), ((81, 0), false), ((81, 1), false), ((81, 2), false), ((81, 3), false), ((81, 4), false), ((81, 5), false), ((81, 6), false), ((81, 7), false), ((76, 39), true)]
def sn_X9_test : List am_N := [([], [(some 900000000, 0)], ([[(some 8006, 0)], [(some 8007, 0)]] ++ am_un 11000 8 ++ am_un 12000 8 ++ [[(some 900000001, 0)]]))]
def sn_X10_test : List am_N := [([], [(some 900000000, 0)], ([[(some 8006, 0)], [(some 8007, 0)]] ++ am_un 11000 8 ++ am_un 12000 8 ++ [[(some 900000001, 0)]]))]
theorem sq_test : am_chk rel_p rel_g bc_X9_test bc_X10_test sc_X9_test sc_X10_test sn_X9_test sn_X10_test = true := by decide +kernel
theorem sa_test : sn_X9_test.all (fun n => sn_X10_test.all (am_ok false n)) = true := by decide +kernel
theorem sb_test : bc_X9_test.all (fun c => c.2.2.2.all (am_bc rel_b c.2.2.1)) = true := by decide +kernel
theorem step_test {c0 c1 : ab_C} {a b x y : Int32} {cs cs1 cs2 : ex_C} (hc : bc_X9_test = [c0]) (hc' : bc_X10_test = [c1]) (h : ab_post ab_hd c0 [.ref 0, .int a, .int b] cs (some (.int x)) cs1) (h' : ab_post ab_hd c1 [.ref 76, .int a, .int b] cs1 (some (.int y)) cs2) (hR : rel_R cs) : rel_R cs2 := by
  have q := sq_test
  rw [hc, hc'] at q
  have w := sb_test
  rw [hc] at w
  have w1 := List.all_eq_true.mp w c0 List.mem_cons_self
  obtain ⟨q1, f9, f10, q2, q3⟩ := am_chkk q
  have r := am_main q1 f9 f10 q2 q3 sa_test h h' hR.1 (rel_gh hR.2)
  exact ⟨r.2, am_bstep rel_bp rel_bw w1 q1 h h' hR.2⟩
theorem ini_R : rel_R ini_cs := ⟨am_ink (by first | decide +kernel | decide | rfl), am_inbk (by first | decide +kernel | decide | rfl)⟩

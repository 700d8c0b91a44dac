/-- what of the two states is the same -/
def rel_p : am_P := [((6, 6), (101, 0)), ((66, 7), (76, 40)), ((66, 8), (76, 45)), ((67, 0), (106, 0)), ((67, 1), (106, 1)), ((67, 2), (106, 2)), ((67, 3), (106, 3)), ((67, 4), (106, 4)), ((67, 5), (106, 5)), ((67, 6), (106, 6)), ((67, 7), (106, 7)), ((67, 8), (106, 8)), ((67, 9), (106, 9)), ((67, 10), (106, 10)), ((67, 11), (106, 11)), ((67, 12), (106, 12)), ((67, 13), (106, 13)), ((67, 14), (106, 14)), ((67, 15), (106, 15)), ((67, 16), (106, 16)), ((67, 17), (106, 17)), ((67, 18), (106, 18)), ((67, 19), (106, 19)), ((67, 20), (106, 20)), ((67, 21), (106, 21)), ((67, 22), (106, 22)), ((67, 23), (106, 23)), ((67, 24), (106, 24)), ((67, 25), (106, 25)), ((67, 26), (106, 26)), ((67, 27), (106, 27)), ((67, 28), (106, 28)), ((67, 29), (106, 29)), ((67, 30), (106, 30)), ((67, 31), (106, 31)), ((67, 32), (106, 32)), ((67, 33), (106, 33)), ((67, 34), (106, 34)), ((67, 35), (106, 35)), ((67, 36), (106, 36)), ((67, 37), (106, 37)), ((67, 38), (106, 38)), ((67, 39), (106, 39)), ((68, 0), (107, 0)), ((68, 1), (107, 1)), ((68, 2), (107, 2)), ((68, 3), (107, 3)), ((68, 4), (107, 4)), ((68, 5), (107, 5)), ((68, 6), (107, 6)), ((68, 7), (107, 7)), ((68, 8), (107, 8)), ((68, 9), (107, 9)), ((68, 10), (107, 10)), ((68, 11), (107, 11)), ((68, 12), (107, 12)), ((68, 13), (107, 13)), ((68, 14), (107, 14)), ((68, 15), (107, 15)), ((68, 16), (107, 16)), ((68, 17), (107, 17)), ((68, 18), (107, 18)), ((68, 19), (107, 19)), ((68, 20), (107, 20)), ((68, 21), (107, 21)), ((68, 22), (107, 22)), ((68, 23), (107, 23)), ((68, 24), (107, 24)), ((68, 25), (107, 25)), ((68, 26), (107, 26)), ((68, 27), (107, 27)), ((68, 28), (107, 28)), ((68, 29), (107, 29)), ((68, 30), (107, 30)), ((68, 31), (107, 31)), ((68, 32), (107, 32)), ((68, 33), (107, 33)), ((68, 34), (107, 34)), ((68, 35), (107, 35)), ((68, 36), (107, 36)), ((68, 37), (107, 37)), ((68, 38), (107, 38)), ((68, 39), (107, 39)), ((69, 0), (108, 0)), ((69, 1), (108, 1)), ((69, 2), (108, 2)), ((69, 3), (108, 3)), ((69, 4), (108, 4)), ((69, 5), (108, 5)), ((69, 6), (108, 6)), ((69, 7), (108, 7)), ((69, 8), (108, 8)), ((69, 9), (108, 9)), ((69, 10), (108, 10)), ((69, 11), (108, 11)), ((69, 12), (108, 12)), ((69, 13), (108, 13)), ((69, 14), (108, 14)), ((69, 15), (108, 15)), ((69, 16), (108, 16)), ((69, 17), (108, 17)), ((69, 18), (108, 18)), ((69, 19), (108, 19)), ((69, 20), (108, 20)), ((69, 21), (108, 21)), ((69, 22), (108, 22)), ((69, 23), (108, 23)), ((69, 24), (108, 24)), ((69, 25), (108, 25)), ((69, 26), (108, 26)), ((69, 27), (108, 27)), ((69, 28), (108, 28)), ((69, 29), (108, 29)), ((69, 30), (108, 30)), ((69, 31), (108, 31)), ((69, 32), (108, 32)), ((69, 33), (108, 33)), ((69, 34), (108, 34)), ((69, 35), (108, 35)), ((69, 36), (108, 36)), ((69, 37), (108, 37)), ((69, 38), (108, 38)), ((69, 39), (108, 39)), ((71, 0), (110, 0)), ((71, 1), (110, 1)), ((71, 2), (110, 2)), ((71, 3), (110, 3)), ((71, 4), (110, 4)), ((71, 5), (110, 5)), ((71, 6), (110, 6)), ((71, 7), (110, 7)), ((71, 8), (110, 8)), ((71, 9), (110, 9)), ((71, 10), (110, 10)), ((71, 11), (110, 11)), ((71, 12), (110, 12)), ((71, 13), (110, 13)), ((71, 14), (110, 14)), ((71, 15), (110, 15)), ((71, 16), (110, 16)), ((71, 17), (110, 17)), ((71, 18), (110, 18)), ((71, 19), (110, 19)), ((72, 0), (111, 0)), ((72, 1), (111, 1)), ((72, 2), (111, 2)), ((72, 3), (111, 3)), ((72, 4), (111, 4)), ((72, 5), (111, 5)), ((72, 6), (111, 6)), ((72, 7), (111, 7)), ((72, 8), (111, 8)), ((72, 9), (111, 9)), ((72, 10), (111, 10)), ((72, 11), (111, 11)), ((72, 12), (111, 12)), ((72, 13), (111, 13)), ((72, 14), (111, 14)), ((72, 15), (111, 15)), ((72, 16), (111, 16)), ((72, 17), (111, 17)), ((72, 18), (111, 18)), ((72, 19), (111, 19)), ((73, 0), (112, 0)), ((73, 1), (112, 1)), ((73, 2), (112, 2)), ((73, 3), (112, 3)), ((73, 4), (112, 4)), ((73, 5), (112, 5)), ((73, 6), (112, 6)), ((73, 7), (112, 7)), ((73, 8), (112, 8)), ((73, 9), (112, 9)), ((73, 10), (112, 10)), ((73, 11), (112, 11)), ((73, 12), (112, 12)), ((73, 13), (112, 13)), ((73, 14), (112, 14)), ((73, 15), (112, 15)), ((73, 16), (112, 16)), ((73, 17), (112, 17)), ((73, 18), (112, 18)), ((73, 19), (112, 19))]
def rel_g : List (Nat × Nat) := [(0, 1)]
def rel_b : am_D := [((6, 6), 0, 3000), ((66, 7), 0, 40), ((66, 8), 0, 20), ((72, 0), 0, 3000), ((72, 1), 0, 3000), ((72, 2), 0, 3000), ((72, 3), 0, 3000), ((72, 4), 0, 3000), ((72, 5), 0, 3000), ((72, 6), 0, 3000), ((72, 7), 0, 3000), ((72, 8), 0, 3000), ((72, 9), 0, 3000), ((72, 10), 0, 3000), ((72, 11), 0, 3000), ((72, 12), 0, 3000), ((72, 13), 0, 3000), ((72, 14), 0, 3000), ((72, 15), 0, 3000), ((72, 16), 0, 3000), ((72, 17), 0, 3000), ((72, 18), 0, 3000), ((72, 19), 0, 3000)]
theorem rel_bp : am_bp rel_p rel_b = true := by decide +kernel
theorem rel_bw : am_bw rel_b = true := by decide +kernel
def rel_R (cs : ex_C) : Prop := am_R rel_p cs ∧ am_B rel_b cs
/-! a number and a constant, cut, is bounded as the number and a parameter that is this constant -/
def am_10f (i : Nat) (o : Option (Nat × Nat × Nat)) : Option (Nat × Nat) := match o with
  | some e => if e.1 = 10 ∧ i / 1000000000 = 1 ∧ e.2.1 / 1000000000 = 0 ∧ e.2.2 < 1000 then some e.2 else none
  | none => none
theorem am_10q {q : Nat × Nat × Nat} {e : Nat × Nat} (h1 : q.1 = 10) (h2 : q.2 = e) : q = (10, e.1, e.2) := by
  obtain ⟨a, b, c⟩ := q
  cases h2
  have h1' : a = 10 := h1
  rw [h1']
theorem am_10z {o : Option (Nat × Nat × Nat)} {i : Nat} {e : Nat × Nat} (h : am_10f i o = some e) : o = some (10, e.1, e.2) ∧ i / 1000000000 = 1 ∧ e.1 / 1000000000 = 0 ∧ e.2 < 1000 := by
  cases o with
  | none => cases h
  | some q =>
    have h' : (if q.1 = 10 ∧ i / 1000000000 = 1 ∧ q.2.1 / 1000000000 = 0 ∧ q.2.2 < 1000 then some q.2 else none) = some e := h
    by_cases c : q.1 = 10 ∧ i / 1000000000 = 1 ∧ q.2.1 / 1000000000 = 0 ∧ q.2.2 < 1000
    · rw [if_pos c] at h'
      have e1 := Option.some.inj h'
      refine ⟨congrArg some (am_10q c.1 e1), c.2.1, ?_⟩
      rw [← e1]
      exact c.2.2
    · rw [if_neg c] at h'
      cases h'
def am_d10c (k : Nat) : Option (Nat × Nat) := am_10f k ab_dt[k - 1000000000]?
def am_hg (fs : ab_F) (e d : Nat × Nat) : Bool := decide (d.1 = e.1) && fs.any (fun g => decide (g.1 = (0, d.2, 0) ∧ g.2.1 = (e.2 : Int) ∧ g.2.2.1 = (e.2 : Int)))
def am_ho (fs : ab_F) (e : Nat × Nat) (o : Option (Nat × Nat)) : Bool := match o with
  | some d => am_hg fs e d
  | none => false
def am_he (fs : ab_F) (e : Nat × Nat) (v : Int) : Bool := fs.any (fun f => decide (f.1.1 = 8 ∧ f.2.2.1 ≤ v) && am_ho fs e (am_d10c f.1.2.1))
def am_h1 (fs : ab_F) (v : Int) (o : Option (Nat × Nat)) : Bool := match o with
  | some e => am_he fs e v
  | none => false
def am_h10 (fs : ab_F) (i : Nat) (v : Int) : Bool := am_h1 fs v (am_d9c i)
theorem am_h1k {fs : ab_F} {v : Int} {o : Option (Nat × Nat)} (h : am_h1 fs v o = true) : ∃ e, o = some e ∧ am_he fs e v = true := by
  cases o with
  | none => cases h
  | some e => exact ⟨e, rfl, h⟩
theorem am_hok {fs : ab_F} {e : Nat × Nat} {o : Option (Nat × Nat)} (h : am_ho fs e o = true) : ∃ d, o = some d ∧ am_hg fs e d = true := by
  cases o with
  | none => cases h
  | some d => exact ⟨d, rfl, h⟩
theorem am_dg10 {x y : Int} {c : Nat} : ab_dg 10 x y c = (x + y).bmod (2 ^ 32) := by
  unfold ab_dg
  rfl
theorem am_o0 {lv : ex_L} {cs : ex_C} {i : Nat} {y : Int} (h : i < 1000) (h2 : ab_li lv i = some y) : ab_oo lv cs i = y := by
  rw [ab_oob' (by omega)]
  unfold ab_ob
  rw [if_pos h, h2]
  rfl
theorem am_10a {k : Nat} {d : Nat × Nat} (h : am_d10c k = some d) : ∃ n, k = 1000000000 + n ∧ ab_dt[n]? = some (10, d.1, d.2) ∧ d.1 < 1000000000 ∧ d.2 < 1000 := by
  unfold am_d10c at h
  obtain ⟨z1, z2, z3, z4⟩ := am_10z h
  exact ⟨k - 1000000000, am_9i z2, z1, am_9j z3, z4⟩
theorem am_oo10 {lv : ex_L} {cs : ex_C} {k : Nat} {d : Nat × Nat} (h : am_d10c k = some d) : ab_oo lv cs k = (ab_oo lv cs d.1 + ab_oo lv cs d.2).bmod (2 ^ 32) ∧ d.2 < 1000 := by
  obtain ⟨n, e1, hq, ha, hb⟩ := am_10a h
  have ho := ab_oon (lv := lv) (cs := cs) hq (Nat.lt_of_lt_of_le ha (Nat.le_add_right _ _)) (Or.inr (Or.inr (Nat.lt_of_lt_of_le (Nat.lt_trans hb (by decide)) (Nat.le_add_right _ _))))
  rw [am_dg10] at ho
  rw [e1, ho]
  exact ⟨rfl, hb⟩
theorem am_oo9 {lv : ex_L} {cs : ex_C} {i : Nat} {e : Nat × Nat} (h : am_d9c i = some e) : ab_oo lv cs i = (ab_oo lv cs e.1 + (e.2 : Int)).bmod (2 ^ 32) := by
  obtain ⟨n, e1, hq, ha⟩ := am_9a h
  have ho := ab_oon (lv := lv) (cs := cs) hq (Nat.lt_of_lt_of_le ha (Nat.le_add_right _ _)) (Or.inr (Or.inl rfl))
  rw [am_dg9] at ho
  rw [e1, ho]
theorem am_h8 {o : Nat → Int} {lv : ex_L} {a k b : Nat} {lo hi : Int} {dl : Option (Nat × Int)} (ha : a = 8) (h : ab_q1 o lv [] ((a, k, b), lo, hi, dl)) : o k ≤ hi := by
  subst ha
  obtain ⟨x, hx, x1, x2, -⟩ := h
  have hx' : some (o k) = some x := hx
  rw [Option.some.inj hx']
  exact x2
theorem am_h0 {o : Nat → Int} {lv : ex_L} {b : Nat} {lo hi : Int} {dl : Option (Nat × Int)} (h : ab_q1 o lv [] ((0, b, 0), lo, hi, dl)) : ∃ y, ab_li lv b = some y ∧ lo ≤ y ∧ y ≤ hi := by
  obtain ⟨x, hx, x1, x2, -⟩ := h
  exact ⟨x, hx, x1, x2⟩
theorem am_h10k {lv : ex_L} {cs : ex_C} {fs : ab_F} {i : Nat} {v : Int} (hf : ab_cf (ab_oo lv cs) lv [] fs) (h : am_h10 fs i v = true) : ab_oo lv cs i ≤ v := by
  obtain ⟨e, he, h2⟩ := am_h1k h
  obtain ⟨f, f1, f2⟩ := List.any_eq_true.mp h2
  obtain ⟨f3, f4⟩ := ab_b f2
  obtain ⟨f5, f6⟩ := of_decide_eq_true f3
  obtain ⟨d, hd, f7⟩ := am_hok f4
  obtain ⟨g0, g1⟩ := ab_b f7
  have g0' : d.1 = e.1 := of_decide_eq_true g0
  obtain ⟨g, g2, g3⟩ := List.any_eq_true.mp g1
  obtain ⟨g4, g5, g6⟩ := of_decide_eq_true g3
  obtain ⟨ho, hb⟩ := am_oo10 (lv := lv) (cs := cs) hd
  have h9 := am_oo9 (lv := lv) (cs := cs) he
  have h8 := am_h8 (lv := lv) (a := f.1.1) (k := f.1.2.1) (b := f.1.2.2) (lo := f.2.1) (hi := f.2.2.1) (dl := f.2.2.2) f5 (hf _ f1)
  obtain ⟨gk, gl, gh, gd⟩ := g
  have g4' : gk = (0, d.2, 0) := g4
  subst g4'
  obtain ⟨y, hy, y1, y2⟩ := am_h0 (hf _ g2)
  have oy := am_o0 (cs := cs) hb hy
  have g5' : gl = (e.2 : Int) := g5
  have g6' : gh = (e.2 : Int) := g6
  have ey : ab_oo lv cs d.2 = (e.2 : Int) := oy.trans (Int.le_antisymm (g6' ▸ y2) (g5' ▸ y1))
  rw [ey, g0', ← h9] at ho
  rw [← ho]
  exact Int.le_trans h8 f6
def am_bh2 (bs : am_D) (fs : ab_F) (i : Nat) (v : Int) : Bool := am_bh bs fs i v || am_h10 fs i v
def am_bc2 (bs : am_D) (W : ab_W) (s : ab_Cs) : Bool := bs.all (fun b => !ab_cov W b.1.1 b.1.2 || s.2.2.any (fun f => decide (f.1 = (1, b.1.1, b.1.2)) && (am_bd (fun x y => decide (x ≤ y)) (am_bl bs s.2.1) b.2.1 f.2.1 f.2.2.2 && am_bd (fun x y => decide (y ≤ x)) (am_bh2 bs s.2.1) b.2.2 f.2.2.1 f.2.2.2)))
theorem am_bh2k {bs : am_D} {lv : ex_L} {cs : ex_C} {fs : ab_F} (hw : am_bw bs = true) (hB : am_B bs cs) (hf : ab_cf (ab_oo lv cs) lv [] fs) {i : Nat} {v : Int} (h : am_bh2 bs fs i v = true) : ab_oo lv cs i ≤ v := by
  rcases (Bool.or_eq_true _ _).mp h with h | h
  · exact am_bhk hw hB hf h
  · exact am_h10k hf h
theorem am_bk2 {bs : am_D} {c : ab_C} {av : ex_V} {cs cs' : ex_C} {r : Option Value} (hw : am_bw bs = true) (h : c.2.2.2.all (am_bc2 bs c.2.2.1) = true) (hp : ab_post ab_hd c av cs r cs') (hB : am_B bs cs) : am_B bs cs' := by
  obtain ⟨-, hfr, s, hs, -, h1, h2⟩ := hp
  have hc := List.all_eq_true.mp h s hs
  intro b hb
  have h3 := List.all_eq_true.mp hc b hb
  rcases (Bool.or_eq_true _ _).mp h3 with h3 | h3
  · obtain ⟨z, z1, z2⟩ := hB b hb
    exact ⟨z, by rw [am_frr hfr (by simpa using h3)]; exact z1, z2⟩
  · obtain ⟨f, hf, h4⟩ := List.any_eq_true.mp h3
    obtain ⟨h5, h6⟩ := ab_b h4
    obtain ⟨h7, h8⟩ := ab_b h6
    have hk : f.1 = (1, b.1.1, b.1.2) := of_decide_eq_true h5
    obtain ⟨x, hx, x1, x2, x3⟩ := h2 f hf
    rw [hk] at hx
    refine ⟨x, hx, ?_, ?_⟩
    · unfold am_bd at h7
      rcases (Bool.or_eq_true _ _).mp h7 with h7 | h7
      · have := of_decide_eq_true h7
        omega
      · split at h7
        · rename_i d hd
          have h9 := am_blk hw hB h1 h7
          have := x3 d hd
          omega
        · cases h7
    · unfold am_bd at h8
      rcases (Bool.or_eq_true _ _).mp h8 with h8 | h8
      · have := of_decide_eq_true h8
        omega
      · split at h8
        · rename_i d hd
          have h9 := am_bh2k hw hB h1 h8
          have := x3 d hd
          omega
        · cases h8
theorem am_bstep2 {prs : am_P} {bs : am_D} {c d : ab_C} {av av' : ex_V} {cs cs1 cs2 : ex_C} {r r' : Option Value} (hs : am_bp prs bs = true) (hw : am_bw bs = true) (h : c.2.2.2.all (am_bc2 bs c.2.2.1) = true) (hwf : am_wf prs c d = true) (hp : ab_post ab_hd c av cs r cs1) (hp' : ab_post ab_hd d av' cs1 r' cs2) (hB : am_B bs cs) : am_B bs cs2 := by
  refine am_bf hs (fun p hp => ?_) hp'.2.1 (am_bk2 hw h hp hB)
  obtain ⟨-, a2⟩ := ab_b (List.all_eq_true.mp hwf p hp)
  simpa using (ab_b a2).2
theorem gi_e {cs cs' : ex_C} {k j k' j' : Nat} (h : ab_ri cs k j = ab_ri cs' k' j') : gi cs k j = gi cs' k' j' := by
  unfold ab_ri at h
  unfold gi
  generalize ab_rd cs k j = u at h ⊢
  generalize ab_rd cs' k' j' = v at h ⊢
  cases u with
  | none => cases v with
    | none => rfl
    | some w => cases w <;> first | rfl | (cases h)
  | some w => cases v with
    | none => cases w <;> first | rfl | (cases h)
    | some w' => cases w <;> cases w' <;> first | rfl | (exact Int32.toInt_inj.mp (Option.some.inj h)) | (cases h)
theorem rel_m67 : ∀ j : Fin 40, ((67, j.val), (106, j.val)) ∈ rel_p ∧ ((68, j.val), (107, j.val)) ∈ rel_p ∧ ((69, j.val), (108, j.val)) ∈ rel_p := by decide +kernel
theorem rel_m71 : ∀ j : Fin 20, ((71, j.val), (110, j.val)) ∈ rel_p ∧ ((72, j.val), (111, j.val)) ∈ rel_p ∧ ((73, j.val), (112, j.val)) ∈ rel_p ∧ ((72, j.val), 0, 3000) ∈ rel_b := by decide +kernel
theorem rel_m66 : ((66, 7), (76, 40)) ∈ rel_p ∧ ((66, 8), (76, 45)) ∈ rel_p ∧ ((66, 7), 0, 40) ∈ rel_b ∧ ((66, 8), 0, 20) ∈ rel_b := by decide +kernel
theorem wk_ww {n m : Int32} {rs rt rv f g e rs' rt' rv' f' g' e' : Nat → Int32} {r : Int} (hn : n.toInt ≤ 40) (hm : m.toInt ≤ 20) (h1 : ∀ j, j < 40 → rs j = rs' j ∧ rt j = rt' j ∧ rv j = rv' j) (h2 : ∀ j, j < 20 → f j = f' j ∧ g j = g' j ∧ e j = e' j ∧ 0 ≤ (g j).toInt) : wk_w true n m rs rt rv f g e r = wk_w false n m rs' rt' rv' f' g' e' r := by
  unfold wk_w
  by_cases c : r < 0 ∨ n.toInt ≤ r
  · rw [if_pos c, if_pos c]
  · rw [if_neg c, if_neg c]
    obtain ⟨a1, a2, a3⟩ := h1 r.toNat (by omega)
    rw [← a1, ← a2, ← a3, wk_tt (by omega) h2]
theorem rel_gh {v0 v1 : Value} {ps : ex_V} {cs cs1 : ex_C} (hB : am_B rel_b cs) (h : ∀ p ∈ rel_p, ab_ri cs p.1.1 p.1.2 = ab_ri cs1 p.2.1 p.2.2) : ∀ p ∈ rel_g, ab_oo ((v0 :: ps).map some) cs (900000000 + p.1) = ab_oo ((v1 :: ps).map some) cs1 (900000000 + p.2) := by
  intro p hp
  have e : p = (0, 1) := by
    unfold rel_g at hp
    simpa using hp
  rw [e]
  dsimp only
  rw [hx_oo (by omega), hx_oo (by omega), ge_0, ge_1]
  unfold gh_0 gh_1
  show wk_w true _ _ _ _ _ _ _ _ ((ab_li ((v0 :: ps).map some) 1).getD 0) = wk_w false _ _ _ _ _ _ _ _ ((ab_li ((v1 :: ps).map some) 1).getD 0)
  have l1 : ab_li ((v0 :: ps).map some) 1 = ab_li ((v1 :: ps).map some) 1 := rfl
  have em : gi cs 66 7 = gi cs1 76 40 := gi_e (h _ rel_m66.1)
  have en : gi cs 66 8 = gi cs1 76 45 := gi_e (h _ rel_m66.2.1)
  rw [l1, em, en]
  obtain ⟨z, z1, z2, z3⟩ := hB _ rel_m66.2.2.1
  obtain ⟨y, y1, y2, y3⟩ := hB _ rel_m66.2.2.2
  have zt : (gi cs 66 7).toInt = z := gi_t z1
  have yt : (gi cs 66 8).toInt = y := gi_t y1
  rw [em] at zt
  rw [en] at yt
  dsimp only at z2 z3 y2 y3
  refine wk_ww (by omega) (by omega) (fun j hj => ?_) (fun j hj => ?_)
  · obtain ⟨a1, a2, a3⟩ := rel_m67 ⟨j, hj⟩
    exact ⟨gi_e (h _ a1), gi_e (h _ a2), gi_e (h _ a3)⟩
  · obtain ⟨a1, a2, a3, a4⟩ := rel_m71 ⟨j, hj⟩
    obtain ⟨x, x1, x2, x3⟩ := hB _ a4
    have xt : (gi cs 72 j).toInt = x := gi_t x1
    dsimp only at x2
    exact ⟨gi_e (h _ a1), gi_e (h _ a2), gi_e (h _ a3), by omega⟩
theorem rel_keep {W1 W2 : ab_W} {cs cs1 cs2 : ex_C} (h1 : ab_fr W1 cs cs1) (h2 : ab_fr W2 cs1 cs2) (hW1 : rel_p.all (fun p => !ab_cov W1 p.1.1 p.1.2 && !ab_cov W1 p.2.1 p.2.2) = true) (hW2 : rel_p.all (fun p => !ab_cov W2 p.1.1 p.1.2 && !ab_cov W2 p.2.1 p.2.2) = true) (h : rel_R cs) : rel_R cs2 := ⟨am_keep h1 h2 hW1 hW2 h.1, am_bkeep rel_bp h1 h2 hW1 hW2 h.2⟩
def sc_X9_ahead : List ((Nat × Nat) × Bool) := [((6, 6), false), ((66, 7), false), ((66, 8), false), ((67, 0), false), ((67, 1), false), ((67, 2), false), ((67, 3), false), ((67, 4), false), ((67, 5), false), ((67, 6), false), ((67, 7), false), ((67, 8), false), ((67, 9), false), ((67, 10), false), ((67, 11), false), ((67, 12), false), ((67, 13), false), ((67, 14), false), ((67, 15), false), ((67, 16), false), ((67, 17), false), ((67, 18), false), ((67, 19), false), ((67, 20), false), ((67, 21), false), ((67, 22), false), ((67, 23), false), ((67, 24), false), ((67, 25), false), ((67, 26), false), ((67, 27), false), ((67, 28), false), ((67, 29), false), ((67, 30), false), ((67, 31), false), ((67, 32), false), ((67, 33), false), ((67, 34), false), ((67, 35), false), ((67, 36), false), ((67, 37), false), ((67, 38), false), ((67, 39), false), ((68, 0), false), ((68, 1), false), ((68, 2), false), ((68, 3), false), ((68, 4), false), ((68, 5), false), ((68, 6), false), ((68, 7), false), ((68, 8), false), ((68, 9), false), ((68, 10), false), ((68, 11), false), ((68, 12), false), ((68, 13), false), ((68, 14), false), ((68, 15), false), ((68, 16), false), ((68, 17), false), ((68, 18), false), ((68, 19), false), ((68, 20), false), ((68, 21), false), ((68, 22), false), ((68, 23), false), ((68, 24), false), ((68, 25), false), ((68, 26), false), ((68, 27), false), ((68, 28), false), ((68, 29), false), ((68, 30), false), ((68, 31), false), ((68, 32), false), ((68, 33), false), ((68, 34), false), ((68, 35), false), ((68, 36), false), ((68, 37), false), ((68, 38), false), ((68, 39), false), ((69, 0), false), ((69, 1), false), ((69, 2), false), ((69, 3), false), ((69, 4), false), ((69, 5), false), ((69, 6), false), ((69, 7), false), ((69, 8), false), ((69, 9), false), ((69, 10), false), ((69, 11), false), ((69, 12), false), ((69, 13), false), ((69, 14), false), ((69, 15), false), ((69, 16), false), ((69, 17), false), ((69, 18), false), ((69, 19), false), ((69, 20), false), ((69, 21), false), ((69, 22), false), ((69, 23), false), ((69, 24), false), ((69, 25), false), ((69, 26), false), ((69, 27), false), ((69, 28), false), ((69, 29), false), ((69, 30), false), ((69, 31), false), ((69, 32), false), ((69, 33), false), ((69, 34), false), ((69, 35), false), ((69, 36), false), ((69, 37), false), ((69, 38), false), ((69, 39), false), ((71, 0), false), ((71, 1), false), ((71, 2), false), ((71, 3), false), ((71, 4), false), ((71, 5), false), ((71, 6), false), ((71, 7), false), ((71, 8), false), ((71, 9), false), ((71, 10), false), ((71, 11), false), ((71, 12), false), ((71, 13), false), ((71, 14), false), ((71, 15), false), ((71, 16), false), ((71, 17), false), ((71, 18), false), ((71, 19), false), ((72, 0), false), ((72, 1), false), ((72, 2), false), ((72, 3), false), ((72, 4), false), ((72, 5), false), ((72, 6), false), ((72, 7), false), ((72, 8), false), ((72, 9), false), ((72, 10), false), ((72, 11), false), ((72, 12), false), ((72, 13), false), ((72, 14), false), ((72, 15), false), ((72, 16), false), ((72, 17), false), ((72, 18), false), ((72, 19), false), ((73, 0), false), ((73, 1), false), ((73, 2), false), ((73, 3), false), ((73, 4), false), ((73, 5), false), ((73, 6), false), ((73, 7), false), ((73, 8), false), ((73, 9), false), ((73, 10), false), ((73, 11), false), ((73, 12), false), ((73, 13), false), ((73, 14), false), ((73, 15), false), ((73, 16), false), ((73, 17), false), ((73, 18), false), ((73, 19), false)]
def sc_X10_ahead : List ((Nat × Nat) × Bool) := [((101, 0), true), ((76, 40), false), ((76, 45), false), ((106, 0), false), ((106, 1), false), ((106, 2), false), ((106, 3), false), ((106, 4), false), ((106, 5), false), ((106, 6), false), ((106, 7), false), ((106, 8), false), ((106, 9), false), ((106, 10), false), ((106, 11), false), ((106, 12), false), ((106, 13), false), ((106, 14), false), ((106, 15), false), ((106, 16), false), ((106, 17), false), ((106, 18), false), ((106, 19), false), ((106, 20), false), ((106, 21), false), ((106, 22), false), ((106, 23), false), ((106, 24), false), ((106, 25), false), ((106, 26), false), ((106, 27), false), ((106, 28), false), ((106, 29), false), ((106, 30), false), ((106, 31), false), ((106, 32), false), ((106, 33), false), ((106, 34), false), ((106, 35), false), ((106, 36), false), ((106, 37), false), ((106, 38), false), ((106, 39), false), ((107, 0), false), ((107, 1), false), ((107, 2), false), ((107, 3), false), ((107, 4), false), ((107, 5), false), ((107, 6), false), ((107, 7), false), ((107, 8), false), ((107, 9), false), ((107, 10), false), ((107, 11), false), ((107, 12), false), ((107, 13), false), ((107, 14), false), ((107, 15), false), ((107, 16), false), ((107, 17), false), ((107, 18), false), ((107, 19), false), ((107, 20), false), ((107, 21), false), ((107, 22), false), ((107, 23), false), ((107, 24), false), ((107, 25), false), ((107, 26), false), ((107, 27), false), ((107, 28), false), ((107, 29), false), ((107, 30), false), ((107, 31), false), ((107, 32), false), ((107, 33), false), ((107, 34), false), ((107, 35), false), ((107, 36), false), ((107, 37), false), ((107, 38), false), ((107, 39), false), ((108, 0), false), ((108, 1), false), ((108, 2), false), ((108, 3), false), ((108, 4), false), ((108, 5), false), ((108, 6), false), ((108, 7), false), ((108, 8), false), ((108, 9), false), ((108, 10), false), ((108, 11), false), ((108, 12), false), ((108, 13), false), ((108, 14), false), ((108, 15), false), ((108, 16), false), ((108, 17), false), ((108, 18), false), ((108, 19), false), ((108, 20), false), ((108, 21), false), ((108, 22), false), ((108, 23), false), ((108, 24), false), ((108, 25), false), ((108, 26), false), ((108, 27), false), ((108, 28), false), ((108, 29), false), ((108, 30), false), ((108, 31), false), ((108, 32), false), ((108, 33), false), ((108, 34), false), ((108, 35), false), ((108, 36), false), ((108, 37), false), ((108, 38), false), ((108, 39), false), ((110, 0), false), ((110, 1), false), ((110, 2), false), ((110, 3), false), ((110, 4), false), ((110, 5), false), ((110, 6), false), ((110, 7), false), ((110, 8), false), ((110, 9), false), ((110, 10), false), ((110, 11), false), ((110, 12), false), ((110, 13), false), ((110, 14), false), ((110, 15), false), ((110, 16), false), ((110, 17), false), ((110, 18), false), ((110, 19), false), ((111, 0), false), ((111, 1), false), ((111, 2), false), ((111, 3), false), ((111, 4), false), ((111, 5), false), ((111, 6), false), ((111, 7), false), ((111, 8), false), ((111, 9), false), ((111, 10), false), ((111, 11), false), ((111, 12), false), ((111, 13), false), ((111, 14), false), ((111, 15), false), ((111, 16), false), ((111, 17), false), ((111, 18), false), ((111, 19), false), ((112, 0), false), ((112, 1), false), ((112, 2), false), ((112, 3), false), ((112, 4), false), ((112, 5), false), ((112, 6), false), ((112, 7), false), ((112, 8), false), ((112, 9), false), ((112, 10), false), ((112, 11), false), ((112, 12), false), ((112, 13), false), ((112, 14), false), ((112, 15), false), ((112, 16), false), ((112, 17), false), ((112, 18), false), ((112, 19), false)]
def sn_X9_ahead : List am_N := [([], [], ([[(some 7006, 0)], [(some 67007, 0)], [(some 67008, 0)]] ++ am_un 68000 40 ++ am_un 69000 40 ++ am_un 70000 40 ++ am_un 72000 20 ++ am_un 73000 20 ++ am_un 74000 20))]
def sn_X10_ahead : List am_N := [([], [], ([[(some 7006, 0)], [(some 67007, 0)], [(some 67008, 0)]] ++ am_un 68000 40 ++ am_un 69000 40 ++ am_un 70000 40 ++ am_un 72000 20 ++ am_un 73000 20 ++ am_un 74000 20))]
theorem sq_ahead : am_chk rel_p rel_g bc_X9_ahead bc_X10_ahead sc_X9_ahead sc_X10_ahead sn_X9_ahead sn_X10_ahead = true := by decide +kernel
theorem sa_ahead : sn_X9_ahead.all (fun n => sn_X10_ahead.all (am_ok false n)) = true := by decide +kernel
theorem sb_ahead : bc_X9_ahead.all (fun c => c.2.2.2.all (am_bc2 rel_b c.2.2.1)) = true := by decide +kernel
theorem step_ahead {c0 c1 : ab_C} {a x y : Int32} {cs cs1 cs2 : ex_C} (hc : bc_X9_ahead = [c0]) (hc' : bc_X10_ahead = [c1]) (h : ab_post ab_hd c0 [.ref 0, .int a] cs (some (.int x)) cs1) (h' : ab_post ab_hd c1 [.ref 76, .int a] cs1 (some (.int y)) cs2) (hR : rel_R cs) : rel_R cs2 := by
  have q := sq_ahead
  rw [hc, hc'] at q
  have w := sb_ahead
  rw [hc] at w
  have w1 := List.all_eq_true.mp w c0 List.mem_cons_self
  obtain ⟨q1, f9, f10, q2, q3⟩ := am_chkk q
  have r := am_main q1 f9 f10 q2 q3 sa_ahead h h' hR.1 (rel_gh hR.2)
  exact ⟨r.2, am_bstep2 rel_bp rel_bw w1 q1 h h' hR.2⟩
def sc_X9_calibrate : List ((Nat × Nat) × Bool) := [((6, 6), false), ((66, 7), false), ((66, 8), true), ((67, 0), false), ((67, 1), false), ((67, 2), false), ((67, 3), false), ((67, 4), false), ((67, 5), false), ((67, 6), false), ((67, 7), false), ((67, 8), false), ((67, 9), false), ((67, 10), false), ((67, 11), false), ((67, 12), false), ((67, 13), false), ((67, 14), false), ((67, 15), false), ((67, 16), false), ((67, 17), false), ((67, 18), false), ((67, 19), false), ((67, 20), false), ((67, 21), false), ((67, 22), false), ((67, 23), false), ((67, 24), false), ((67, 25), false), ((67, 26), false), ((67, 27), false), ((67, 28), false), ((67, 29), false), ((67, 30), false), ((67, 31), false), ((67, 32), false), ((67, 33), false), ((67, 34), false), ((67, 35), false), ((67, 36), false), ((67, 37), false), ((67, 38), false), ((67, 39), false), ((68, 0), false), ((68, 1), false), ((68, 2), false), ((68, 3), false), ((68, 4), false), ((68, 5), false), ((68, 6), false), ((68, 7), false), ((68, 8), false), ((68, 9), false), ((68, 10), false), ((68, 11), false), ((68, 12), false), ((68, 13), false), ((68, 14), false), ((68, 15), false), ((68, 16), false), ((68, 17), false), ((68, 18), false), ((68, 19), false), ((68, 20), false), ((68, 21), false), ((68, 22), false), ((68, 23), false), ((68, 24), false), ((68, 25), false), ((68, 26), false), ((68, 27), false), ((68, 28), false), ((68, 29), false), ((68, 30), false), ((68, 31), false), ((68, 32), false), ((68, 33), false), ((68, 34), false), ((68, 35), false), ((68, 36), false), ((68, 37), false), ((68, 38), false), ((68, 39), false), ((69, 0), false), ((69, 1), false), ((69, 2), false), ((69, 3), false), ((69, 4), false), ((69, 5), false), ((69, 6), false), ((69, 7), false), ((69, 8), false), ((69, 9), false), ((69, 10), false), ((69, 11), false), ((69, 12), false), ((69, 13), false), ((69, 14), false), ((69, 15), false), ((69, 16), false), ((69, 17), false), ((69, 18), false), ((69, 19), false), ((69, 20), false), ((69, 21), false), ((69, 22), false), ((69, 23), false), ((69, 24), false), ((69, 25), false), ((69, 26), false), ((69, 27), false), ((69, 28), false), ((69, 29), false), ((69, 30), false), ((69, 31), false), ((69, 32), false), ((69, 33), false), ((69, 34), false), ((69, 35), false), ((69, 36), false), ((69, 37), false), ((69, 38), false), ((69, 39), false), ((71, 0), true), ((71, 1), true), ((71, 2), true), ((71, 3), true), ((71, 4), true), ((71, 5), true), ((71, 6), true), ((71, 7), true), ((71, 8), true), ((71, 9), true), ((71, 10), true), ((71, 11), true), ((71, 12), true), ((71, 13), true), ((71, 14), true), ((71, 15), true), ((71, 16), true), ((71, 17), true), ((71, 18), true), ((71, 19), true), ((72, 0), true), ((72, 1), true), ((72, 2), true), ((72, 3), true), ((72, 4), true), ((72, 5), true), ((72, 6), true), ((72, 7), true), ((72, 8), true), ((72, 9), true), ((72, 10), true), ((72, 11), true), ((72, 12), true), ((72, 13), true), ((72, 14), true), ((72, 15), true), ((72, 16), true), ((72, 17), true), ((72, 18), true), ((72, 19), true), ((73, 0), true), ((73, 1), true), ((73, 2), true), ((73, 3), true), ((73, 4), true), ((73, 5), true), ((73, 6), true), ((73, 7), true), ((73, 8), true), ((73, 9), true), ((73, 10), true), ((73, 11), true), ((73, 12), true), ((73, 13), true), ((73, 14), true), ((73, 15), true), ((73, 16), true), ((73, 17), true), ((73, 18), true), ((73, 19), true)]
def sc_X10_calibrate : List ((Nat × Nat) × Bool) := [((101, 0), false), ((76, 40), false), ((76, 45), true), ((106, 0), false), ((106, 1), false), ((106, 2), false), ((106, 3), false), ((106, 4), false), ((106, 5), false), ((106, 6), false), ((106, 7), false), ((106, 8), false), ((106, 9), false), ((106, 10), false), ((106, 11), false), ((106, 12), false), ((106, 13), false), ((106, 14), false), ((106, 15), false), ((106, 16), false), ((106, 17), false), ((106, 18), false), ((106, 19), false), ((106, 20), false), ((106, 21), false), ((106, 22), false), ((106, 23), false), ((106, 24), false), ((106, 25), false), ((106, 26), false), ((106, 27), false), ((106, 28), false), ((106, 29), false), ((106, 30), false), ((106, 31), false), ((106, 32), false), ((106, 33), false), ((106, 34), false), ((106, 35), false), ((106, 36), false), ((106, 37), false), ((106, 38), false), ((106, 39), false), ((107, 0), false), ((107, 1), false), ((107, 2), false), ((107, 3), false), ((107, 4), false), ((107, 5), false), ((107, 6), false), ((107, 7), false), ((107, 8), false), ((107, 9), false), ((107, 10), false), ((107, 11), false), ((107, 12), false), ((107, 13), false), ((107, 14), false), ((107, 15), false), ((107, 16), false), ((107, 17), false), ((107, 18), false), ((107, 19), false), ((107, 20), false), ((107, 21), false), ((107, 22), false), ((107, 23), false), ((107, 24), false), ((107, 25), false), ((107, 26), false), ((107, 27), false), ((107, 28), false), ((107, 29), false), ((107, 30), false), ((107, 31), false), ((107, 32), false), ((107, 33), false), ((107, 34), false), ((107, 35), false), ((107, 36), false), ((107, 37), false), ((107, 38), false), ((107, 39), false), ((108, 0), false), ((108, 1), false), ((108, 2), false), ((108, 3), false), ((108, 4), false), ((108, 5), false), ((108, 6), false), ((108, 7), false), ((108, 8), false), ((108, 9), false), ((108, 10), false), ((108, 11), false), ((108, 12), false), ((108, 13), false), ((108, 14), false), ((108, 15), false), ((108, 16), false), ((108, 17), false), ((108, 18), false), ((108, 19), false), ((108, 20), false), ((108, 21), false), ((108, 22), false), ((108, 23), false), ((108, 24), false), ((108, 25), false), ((108, 26), false), ((108, 27), false), ((108, 28), false), ((108, 29), false), ((108, 30), false), ((108, 31), false), ((108, 32), false), ((108, 33), false), ((108, 34), false), ((108, 35), false), ((108, 36), false), ((108, 37), false), ((108, 38), false), ((108, 39), false), ((110, 0), true), ((110, 1), true), ((110, 2), true), ((110, 3), true), ((110, 4), true), ((110, 5), true), ((110, 6), true), ((110, 7), true), ((110, 8), true), ((110, 9), true), ((110, 10), true), ((110, 11), true), ((110, 12), true), ((110, 13), true), ((110, 14), true), ((110, 15), true), ((110, 16), true), ((110, 17), true), ((110, 18), true), ((110, 19), true), ((111, 0), true), ((111, 1), true), ((111, 2), true), ((111, 3), true), ((111, 4), true), ((111, 5), true), ((111, 6), true), ((111, 7), true), ((111, 8), true), ((111, 9), true), ((111, 10), true), ((111, 11), true), ((111, 12), true), ((111, 13), true), ((111, 14), true), ((111, 15), true), ((111, 16), true), ((111, 17), true), ((111, 18), true), ((111, 19), true), ((112, 0), true), ((112, 1), true), ((112, 2), true), ((112, 3), true), ((112, 4), true), ((112, 5), true), ((112, 6), true), ((112, 7), true), ((112, 8), true), ((112, 9), true), ((112, 10), true), ((112, 11), true), ((112, 12), true), ((112, 13), true), ((112, 14), true), ((112, 15), true), ((112, 16), true), ((112, 17), true), ((112, 18), true), ((112, 19), true)]
def se_X9_calibrate_0 : List (List am_V) := ([[(some 7006, 0)], [(some 67007, 0)], [(some 67008, 0)]] ++ am_un 68000 40 ++ am_un 69000 40 ++ am_un 70000 40 ++ am_un 72000 20 ++ am_un 73000 20 ++ am_un 74000 20)
def se_X9_calibrate_1 : List (List am_V) := ([[(some 7006, 0)], [(some 67007, 0)], [(none, 1), (some 67008, 1)]] ++ am_un 68000 40 ++ am_un 69000 40 ++ am_un 70000 40 ++ [[(some 1, 0)]] ++ am_un 72001 19 ++ [[(some 7006, 0)]] ++ am_un 73001 19 ++ [[(some 2, 0)]] ++ am_un 74001 19)
def se_X9_calibrate_2 : List (List am_V) := ([[(some 7006, 0)], [(some 67007, 0)], [(none, 2), (some 67008, 1)]] ++ am_un 68000 40 ++ am_un 69000 40 ++ am_un 70000 40 ++ [[(some 72000, 0)], [(some 1, 0)]] ++ am_un 72002 18 ++ [[(some 73000, 0)], [(some 7006, 0)]] ++ am_un 73002 18 ++ [[(some 74000, 0)], [(some 2, 0)]] ++ am_un 74002 18)
def se_X9_calibrate_3 : List (List am_V) := ([[(some 7006, 0)], [(some 67007, 0)], [(none, 3), (some 67008, 1)]] ++ am_un 68000 40 ++ am_un 69000 40 ++ am_un 70000 40 ++ [[(some 72000, 0)], [(some 72001, 0)], [(some 1, 0)]] ++ am_un 72003 17 ++ [[(some 73000, 0)], [(some 73001, 0)], [(some 7006, 0)]] ++ am_un 73003 17 ++ [[(some 74000, 0)], [(some 74001, 0)], [(some 2, 0)]] ++ am_un 74003 17)
def se_X9_calibrate_4 : List (List am_V) := ([[(some 7006, 0)], [(some 67007, 0)], [(none, 4), (some 67008, 1)]] ++ am_un 68000 40 ++ am_un 69000 40 ++ am_un 70000 40 ++ [[(some 72000, 0)], [(some 72001, 0)], [(some 72002, 0)], [(some 1, 0)]] ++ am_un 72004 16 ++ [[(some 73000, 0)], [(some 73001, 0)], [(some 73002, 0)], [(some 7006, 0)]] ++ am_un 73004 16 ++ [[(some 74000, 0)], [(some 74001, 0)], [(some 74002, 0)], [(some 2, 0)]] ++ am_un 74004 16)
def se_X9_calibrate_5 : List (List am_V) := ([[(some 7006, 0)], [(some 67007, 0)], [(none, 5), (some 67008, 1)]] ++ am_un 68000 40 ++ am_un 69000 40 ++ am_un 70000 40 ++ am_un 72000 4 ++ [[(some 1, 0)]] ++ am_un 72005 15 ++ am_un 73000 4 ++ [[(some 7006, 0)]] ++ am_un 73005 15 ++ am_un 74000 4 ++ [[(some 2, 0)]] ++ am_un 74005 15)
def se_X9_calibrate_6 : List (List am_V) := ([[(some 7006, 0)], [(some 67007, 0)], [(none, 6), (some 67008, 1)]] ++ am_un 68000 40 ++ am_un 69000 40 ++ am_un 70000 40 ++ am_un 72000 5 ++ [[(some 1, 0)]] ++ am_un 72006 14 ++ am_un 73000 5 ++ [[(some 7006, 0)]] ++ am_un 73006 14 ++ am_un 74000 5 ++ [[(some 2, 0)]] ++ am_un 74006 14)
def se_X9_calibrate_7 : List (List am_V) := ([[(some 7006, 0)], [(some 67007, 0)], [(none, 7), (some 67008, 1)]] ++ am_un 68000 40 ++ am_un 69000 40 ++ am_un 70000 40 ++ am_un 72000 6 ++ [[(some 1, 0)]] ++ am_un 72007 13 ++ am_un 73000 6 ++ [[(some 7006, 0)]] ++ am_un 73007 13 ++ am_un 74000 6 ++ [[(some 2, 0)]] ++ am_un 74007 13)
def se_X9_calibrate_8 : List (List am_V) := ([[(some 7006, 0)], [(some 67007, 0)], [(none, 8), (some 67008, 1)]] ++ am_un 68000 40 ++ am_un 69000 40 ++ am_un 70000 40 ++ am_un 72000 7 ++ [[(some 1, 0)]] ++ am_un 72008 12 ++ am_un 73000 7 ++ [[(some 7006, 0)]] ++ am_un 73008 12 ++ am_un 74000 7 ++ [[(some 2, 0)]] ++ am_un 74008 12)
def se_X9_calibrate_9 : List (List am_V) := ([[(some 7006, 0)], [(some 67007, 0)], [(none, 9), (some 67008, 1)]] ++ am_un 68000 40 ++ am_un 69000 40 ++ am_un 70000 40 ++ am_un 72000 8 ++ [[(some 1, 0)]] ++ am_un 72009 11 ++ am_un 73000 8 ++ [[(some 7006, 0)]] ++ am_un 73009 11 ++ am_un 74000 8 ++ [[(some 2, 0)]] ++ am_un 74009 11)
def se_X9_calibrate_10 : List (List am_V) := ([[(some 7006, 0)], [(some 67007, 0)], [(none, 10), (some 67008, 1)]] ++ am_un 68000 40 ++ am_un 69000 40 ++ am_un 70000 40 ++ am_un 72000 9 ++ [[(some 1, 0)]] ++ am_un 72010 10 ++ am_un 73000 9 ++ [[(some 7006, 0)]] ++ am_un 73010 10 ++ am_un 74000 9 ++ [[(some 2, 0)]] ++ am_un 74010 10)
def se_X9_calibrate_11 : List (List am_V) := ([[(some 7006, 0)], [(some 67007, 0)], [(none, 11), (some 67008, 1)]] ++ am_un 68000 40 ++ am_un 69000 40 ++ am_un 70000 40 ++ am_un 72000 10 ++ [[(some 1, 0)]] ++ am_un 72011 9 ++ am_un 73000 10 ++ [[(some 7006, 0)]] ++ am_un 73011 9 ++ am_un 74000 10 ++ [[(some 2, 0)]] ++ am_un 74011 9)
def se_X9_calibrate_12 : List (List am_V) := ([[(some 7006, 0)], [(some 67007, 0)], [(none, 12), (some 67008, 1)]] ++ am_un 68000 40 ++ am_un 69000 40 ++ am_un 70000 40 ++ am_un 72000 11 ++ [[(some 1, 0)]] ++ am_un 72012 8 ++ am_un 73000 11 ++ [[(some 7006, 0)]] ++ am_un 73012 8 ++ am_un 74000 11 ++ [[(some 2, 0)]] ++ am_un 74012 8)
def se_X9_calibrate_13 : List (List am_V) := ([[(some 7006, 0)], [(some 67007, 0)], [(none, 13), (some 67008, 1)]] ++ am_un 68000 40 ++ am_un 69000 40 ++ am_un 70000 40 ++ am_un 72000 12 ++ [[(some 1, 0)]] ++ am_un 72013 7 ++ am_un 73000 12 ++ [[(some 7006, 0)]] ++ am_un 73013 7 ++ am_un 74000 12 ++ [[(some 2, 0)]] ++ am_un 74013 7)
def se_X9_calibrate_14 : List (List am_V) := ([[(some 7006, 0)], [(some 67007, 0)], [(none, 14), (some 67008, 1)]] ++ am_un 68000 40 ++ am_un 69000 40 ++ am_un 70000 40 ++ am_un 72000 13 ++ [[(some 1, 0)]] ++ am_un 72014 6 ++ am_un 73000 13 ++ [[(some 7006, 0)]] ++ am_un 73014 6 ++ am_un 74000 13 ++ [[(some 2, 0)]] ++ am_un 74014 6)
def se_X9_calibrate_15 : List (List am_V) := ([[(some 7006, 0)], [(some 67007, 0)], [(none, 15), (some 67008, 1)]] ++ am_un 68000 40 ++ am_un 69000 40 ++ am_un 70000 40 ++ am_un 72000 14 ++ [[(some 1, 0)]] ++ am_un 72015 5 ++ am_un 73000 14 ++ [[(some 7006, 0)]] ++ am_un 73015 5 ++ am_un 74000 14 ++ [[(some 2, 0)]] ++ am_un 74015 5)
def se_X9_calibrate_16 : List (List am_V) := ([[(some 7006, 0)], [(some 67007, 0)], [(none, 16), (some 67008, 1)]] ++ am_un 68000 40 ++ am_un 69000 40 ++ am_un 70000 40 ++ am_un 72000 15 ++ [[(some 1, 0)]] ++ am_un 72016 4 ++ am_un 73000 15 ++ [[(some 7006, 0)]] ++ am_un 73016 4 ++ am_un 74000 15 ++ [[(some 2, 0)]] ++ am_un 74016 4)
def se_X9_calibrate_17 : List (List am_V) := ([[(some 7006, 0)], [(some 67007, 0)], [(none, 17), (some 67008, 1)]] ++ am_un 68000 40 ++ am_un 69000 40 ++ am_un 70000 40 ++ am_un 72000 16 ++ [[(some 1, 0)], [(some 72017, 0)], [(some 72018, 0)], [(some 72019, 0)]] ++ am_un 73000 16 ++ [[(some 7006, 0)], [(some 73017, 0)], [(some 73018, 0)], [(some 73019, 0)]] ++ am_un 74000 16 ++ [[(some 2, 0)], [(some 74017, 0)], [(some 74018, 0)], [(some 74019, 0)]])
def se_X9_calibrate_18 : List (List am_V) := ([[(some 7006, 0)], [(some 67007, 0)], [(none, 18), (some 67008, 1)]] ++ am_un 68000 40 ++ am_un 69000 40 ++ am_un 70000 40 ++ am_un 72000 17 ++ [[(some 1, 0)], [(some 72018, 0)], [(some 72019, 0)]] ++ am_un 73000 17 ++ [[(some 7006, 0)], [(some 73018, 0)], [(some 73019, 0)]] ++ am_un 74000 17 ++ [[(some 2, 0)], [(some 74018, 0)], [(some 74019, 0)]])
def se_X9_calibrate_19 : List (List am_V) := ([[(some 7006, 0)], [(some 67007, 0)], [(none, 19), (some 67008, 1)]] ++ am_un 68000 40 ++ am_un 69000 40 ++ am_un 70000 40 ++ am_un 72000 18 ++ [[(some 1, 0)], [(some 72019, 0)]] ++ am_un 73000 18 ++ [[(some 7006, 0)], [(some 73019, 0)]] ++ am_un 74000 18 ++ [[(some 2, 0)], [(some 74019, 0)]])
def se_X9_calibrate_20 : List (List am_V) := ([[(some 7006, 0)], [(some 67007, 0)], [(none, 20), (some 67008, 1)]] ++ am_un 68000 40 ++ am_un 69000 40 ++ am_un 70000 40 ++ am_un 72000 19 ++ [[(some 1, 0)]] ++ am_un 73000 19 ++ [[(some 7006, 0)]] ++ am_un 74000 19 ++ [[(some 2, 0)]])
def se_X9_calibrate_21 : List (List am_V) := ([[(some 7006, 0)], [(some 67007, 0)], [(none, 20), (some 67008, 0)]] ++ am_un 68000 40 ++ am_un 69000 40 ++ am_un 70000 40 ++ am_un 72000 20 ++ am_un 73000 20 ++ am_un 74000 20)
def sn_X9_calibrate_0 : List am_N := [([((8, 1, 0), 0, 3), ((8, 2, 0), (-2147483648), (-1001))], [(none, (-1000000001))], se_X9_calibrate_0),
  ([((8, 1, 0), 0, 3), ((8, 2, 0), (-1000), 1000), ((8, 67008, 0), 0, 19), ((8, 67008, 0), 0, 0)], [(none, 1), (some 67008, 1)], se_X9_calibrate_1),
  ([((8, 1, 0), 0, 3), ((8, 2, 0), (-1000), 1000), ((8, 67008, 0), 0, 19), ((8, 67008, 0), 1, 1)], [(none, 2), (some 67008, 1)], se_X9_calibrate_2),
  ([((8, 1, 0), 0, 3), ((8, 2, 0), (-1000), 1000), ((8, 67008, 0), 0, 19), ((8, 67008, 0), 2, 2)], [(none, 3), (some 67008, 1)], se_X9_calibrate_3),
  ([((8, 1, 0), 0, 3), ((8, 2, 0), (-1000), 1000), ((8, 67008, 0), 0, 19), ((8, 67008, 0), 3, 3)], [(none, 4), (some 67008, 1)], se_X9_calibrate_4),
  ([((8, 1, 0), 0, 3), ((8, 2, 0), (-1000), 1000), ((8, 67008, 0), 0, 19), ((8, 67008, 0), 4, 4)], [(none, 5), (some 67008, 1)], se_X9_calibrate_5),
  ([((8, 1, 0), 0, 3), ((8, 2, 0), (-1000), 1000), ((8, 67008, 0), 0, 19), ((8, 67008, 0), 5, 5)], [(none, 6), (some 67008, 1)], se_X9_calibrate_6),
  ([((8, 1, 0), 0, 3), ((8, 2, 0), (-1000), 1000), ((8, 67008, 0), 0, 19), ((8, 67008, 0), 6, 6)], [(none, 7), (some 67008, 1)], se_X9_calibrate_7),
  ([((8, 1, 0), 0, 3), ((8, 2, 0), (-1000), 1000), ((8, 67008, 0), 0, 19), ((8, 67008, 0), 7, 7)], [(none, 8), (some 67008, 1)], se_X9_calibrate_8),
  ([((8, 1, 0), 0, 3), ((8, 2, 0), (-1000), 1000), ((8, 67008, 0), 0, 19), ((8, 67008, 0), 8, 8)], [(none, 9), (some 67008, 1)], se_X9_calibrate_9),
  ([((8, 1, 0), 0, 3), ((8, 2, 0), (-1000), 1000), ((8, 67008, 0), 0, 19), ((8, 67008, 0), 9, 9)], [(none, 10), (some 67008, 1)], se_X9_calibrate_10),
  ([((8, 1, 0), 0, 3), ((8, 2, 0), (-1000), 1000), ((8, 67008, 0), 0, 19), ((8, 67008, 0), 10, 10)], [(none, 11), (some 67008, 1)], se_X9_calibrate_11),
  ([((8, 1, 0), 0, 3), ((8, 2, 0), (-1000), 1000), ((8, 67008, 0), 0, 19), ((8, 67008, 0), 11, 11)], [(none, 12), (some 67008, 1)], se_X9_calibrate_12),
  ([((8, 1, 0), 0, 3), ((8, 2, 0), (-1000), 1000), ((8, 67008, 0), 0, 19), ((8, 67008, 0), 12, 12)], [(none, 13), (some 67008, 1)], se_X9_calibrate_13),
  ([((8, 1, 0), 0, 3), ((8, 2, 0), (-1000), 1000), ((8, 67008, 0), 0, 19), ((8, 67008, 0), 13, 13)], [(none, 14), (some 67008, 1)], se_X9_calibrate_14),
  ([((8, 1, 0), 0, 3), ((8, 2, 0), (-1000), 1000), ((8, 67008, 0), 0, 19), ((8, 67008, 0), 14, 14)], [(none, 15), (some 67008, 1)], se_X9_calibrate_15),
  ([((8, 1, 0), 0, 3), ((8, 2, 0), (-1000), 1000), ((8, 67008, 0), 0, 19), ((8, 67008, 0), 15, 15)], [(none, 16), (some 67008, 1)], se_X9_calibrate_16),
  ([((8, 1, 0), 0, 3), ((8, 2, 0), (-1000), 1000), ((8, 67008, 0), 0, 19), ((8, 67008, 0), 16, 16)], [(none, 17), (some 67008, 1)], se_X9_calibrate_17),
  ([((8, 1, 0), 0, 3), ((8, 2, 0), (-1000), 1000), ((8, 67008, 0), 0, 19), ((8, 67008, 0), 17, 17)], [(none, 18), (some 67008, 1)], se_X9_calibrate_18),
  ([((8, 1, 0), 0, 3), ((8, 2, 0), (-1000), 1000), ((8, 67008, 0), 0, 19), ((8, 67008, 0), 18, 18)], [(none, 19), (some 67008, 1)], se_X9_calibrate_19),
  ([((8, 1, 0), 0, 3), ((8, 2, 0), (-1000), 1000), ((8, 67008, 0), 0, 19), ((8, 67008, 0), 19, 19)], [(none, 20), (some 67008, 1)], se_X9_calibrate_20),
  ([((8, 1, 0), 0, 3), ((8, 2, 0), (-1000), 1000), ((8, 67008, 0), 20, 20)], [(none, (-1000000004))], se_X9_calibrate_21),
  ([((8, 1, 0), 0, 3), ((8, 2, 0), 1001, 2147483647)], [(none, (-1000000001))], se_X9_calibrate_0),
  ([((8, 1, 0), 4, 2147483647)], [(none, (-1000000001))], se_X9_calibrate_0),
  ([((8, 1, 0), (-2147483648), (-1))], [(none, (-1000000001))], se_X9_calibrate_0)]
def sn_X9_calibrate : List am_N := sn_X9_calibrate_0
def se_X10_calibrate_0 : List (List am_V) := ([[(some 7006, 0)], [(some 67007, 0)], [(some 67008, 0)]] ++ am_un 68000 40 ++ am_un 69000 40 ++ am_un 70000 40 ++ am_un 72000 20 ++ am_un 73000 20 ++ am_un 74000 20)
def se_X10_calibrate_1 : List (List am_V) := ([[(some 7006, 0)], [(some 67007, 0)], [(none, 20), (some 67008, 0)]] ++ am_un 68000 40 ++ am_un 69000 40 ++ am_un 70000 40 ++ am_un 72000 20 ++ am_un 73000 20 ++ am_un 74000 20)
def se_X10_calibrate_2 : List (List am_V) := ([[(some 7006, 0)], [(some 67007, 0)], [(none, 20), (some 67008, 1)]] ++ am_un 68000 40 ++ am_un 69000 40 ++ am_un 70000 40 ++ am_un 72000 19 ++ [[(some 1, 0)]] ++ am_un 73000 19 ++ [[(some 7006, 0)]] ++ am_un 74000 19 ++ [[(some 2, 0)]])
def se_X10_calibrate_3 : List (List am_V) := ([[(some 7006, 0)], [(some 67007, 0)], [(none, 19), (some 67008, 1)]] ++ am_un 68000 40 ++ am_un 69000 40 ++ am_un 70000 40 ++ am_un 72000 18 ++ [[(some 1, 0)], [(some 72019, 0)]] ++ am_un 73000 18 ++ [[(some 7006, 0)], [(some 73019, 0)]] ++ am_un 74000 18 ++ [[(some 2, 0)], [(some 74019, 0)]])
def se_X10_calibrate_4 : List (List am_V) := ([[(some 7006, 0)], [(some 67007, 0)], [(none, 18), (some 67008, 1)]] ++ am_un 68000 40 ++ am_un 69000 40 ++ am_un 70000 40 ++ am_un 72000 17 ++ [[(some 1, 0)], [(some 72018, 0)], [(some 72019, 0)]] ++ am_un 73000 17 ++ [[(some 7006, 0)], [(some 73018, 0)], [(some 73019, 0)]] ++ am_un 74000 17 ++ [[(some 2, 0)], [(some 74018, 0)], [(some 74019, 0)]])
def se_X10_calibrate_5 : List (List am_V) := ([[(some 7006, 0)], [(some 67007, 0)], [(none, 17), (some 67008, 1)]] ++ am_un 68000 40 ++ am_un 69000 40 ++ am_un 70000 40 ++ am_un 72000 16 ++ [[(some 1, 0)], [(some 72017, 0)], [(some 72018, 0)], [(some 72019, 0)]] ++ am_un 73000 16 ++ [[(some 7006, 0)], [(some 73017, 0)], [(some 73018, 0)], [(some 73019, 0)]] ++ am_un 74000 16 ++ [[(some 2, 0)], [(some 74017, 0)], [(some 74018, 0)], [(some 74019, 0)]])
def se_X10_calibrate_6 : List (List am_V) := ([[(some 7006, 0)], [(some 67007, 0)], [(none, 16), (some 67008, 1)]] ++ am_un 68000 40 ++ am_un 69000 40 ++ am_un 70000 40 ++ am_un 72000 15 ++ [[(some 1, 0)]] ++ am_un 72016 4 ++ am_un 73000 15 ++ [[(some 7006, 0)]] ++ am_un 73016 4 ++ am_un 74000 15 ++ [[(some 2, 0)]] ++ am_un 74016 4)
def se_X10_calibrate_7 : List (List am_V) := ([[(some 7006, 0)], [(some 67007, 0)], [(none, 15), (some 67008, 1)]] ++ am_un 68000 40 ++ am_un 69000 40 ++ am_un 70000 40 ++ am_un 72000 14 ++ [[(some 1, 0)]] ++ am_un 72015 5 ++ am_un 73000 14 ++ [[(some 7006, 0)]] ++ am_un 73015 5 ++ am_un 74000 14 ++ [[(some 2, 0)]] ++ am_un 74015 5)
def se_X10_calibrate_8 : List (List am_V) := ([[(some 7006, 0)], [(some 67007, 0)], [(none, 14), (some 67008, 1)]] ++ am_un 68000 40 ++ am_un 69000 40 ++ am_un 70000 40 ++ am_un 72000 13 ++ [[(some 1, 0)]] ++ am_un 72014 6 ++ am_un 73000 13 ++ [[(some 7006, 0)]] ++ am_un 73014 6 ++ am_un 74000 13 ++ [[(some 2, 0)]] ++ am_un 74014 6)
def se_X10_calibrate_9 : List (List am_V) := ([[(some 7006, 0)], [(some 67007, 0)], [(none, 13), (some 67008, 1)]] ++ am_un 68000 40 ++ am_un 69000 40 ++ am_un 70000 40 ++ am_un 72000 12 ++ [[(some 1, 0)]] ++ am_un 72013 7 ++ am_un 73000 12 ++ [[(some 7006, 0)]] ++ am_un 73013 7 ++ am_un 74000 12 ++ [[(some 2, 0)]] ++ am_un 74013 7)
def se_X10_calibrate_10 : List (List am_V) := ([[(some 7006, 0)], [(some 67007, 0)], [(none, 12), (some 67008, 1)]] ++ am_un 68000 40 ++ am_un 69000 40 ++ am_un 70000 40 ++ am_un 72000 11 ++ [[(some 1, 0)]] ++ am_un 72012 8 ++ am_un 73000 11 ++ [[(some 7006, 0)]] ++ am_un 73012 8 ++ am_un 74000 11 ++ [[(some 2, 0)]] ++ am_un 74012 8)
def se_X10_calibrate_11 : List (List am_V) := ([[(some 7006, 0)], [(some 67007, 0)], [(none, 11), (some 67008, 1)]] ++ am_un 68000 40 ++ am_un 69000 40 ++ am_un 70000 40 ++ am_un 72000 10 ++ [[(some 1, 0)]] ++ am_un 72011 9 ++ am_un 73000 10 ++ [[(some 7006, 0)]] ++ am_un 73011 9 ++ am_un 74000 10 ++ [[(some 2, 0)]] ++ am_un 74011 9)
def se_X10_calibrate_12 : List (List am_V) := ([[(some 7006, 0)], [(some 67007, 0)], [(none, 10), (some 67008, 1)]] ++ am_un 68000 40 ++ am_un 69000 40 ++ am_un 70000 40 ++ am_un 72000 9 ++ [[(some 1, 0)]] ++ am_un 72010 10 ++ am_un 73000 9 ++ [[(some 7006, 0)]] ++ am_un 73010 10 ++ am_un 74000 9 ++ [[(some 2, 0)]] ++ am_un 74010 10)
def se_X10_calibrate_13 : List (List am_V) := ([[(some 7006, 0)], [(some 67007, 0)], [(none, 9), (some 67008, 1)]] ++ am_un 68000 40 ++ am_un 69000 40 ++ am_un 70000 40 ++ am_un 72000 8 ++ [[(some 1, 0)]] ++ am_un 72009 11 ++ am_un 73000 8 ++ [[(some 7006, 0)]] ++ am_un 73009 11 ++ am_un 74000 8 ++ [[(some 2, 0)]] ++ am_un 74009 11)
def se_X10_calibrate_14 : List (List am_V) := ([[(some 7006, 0)], [(some 67007, 0)], [(none, 8), (some 67008, 1)]] ++ am_un 68000 40 ++ am_un 69000 40 ++ am_un 70000 40 ++ am_un 72000 7 ++ [[(some 1, 0)]] ++ am_un 72008 12 ++ am_un 73000 7 ++ [[(some 7006, 0)]] ++ am_un 73008 12 ++ am_un 74000 7 ++ [[(some 2, 0)]] ++ am_un 74008 12)
def se_X10_calibrate_15 : List (List am_V) := ([[(some 7006, 0)], [(some 67007, 0)], [(none, 7), (some 67008, 1)]] ++ am_un 68000 40 ++ am_un 69000 40 ++ am_un 70000 40 ++ am_un 72000 6 ++ [[(some 1, 0)]] ++ am_un 72007 13 ++ am_un 73000 6 ++ [[(some 7006, 0)]] ++ am_un 73007 13 ++ am_un 74000 6 ++ [[(some 2, 0)]] ++ am_un 74007 13)
def se_X10_calibrate_16 : List (List am_V) := ([[(some 7006, 0)], [(some 67007, 0)], [(none, 6), (some 67008, 1)]] ++ am_un 68000 40 ++ am_un 69000 40 ++ am_un 70000 40 ++ am_un 72000 5 ++ [[(some 1, 0)]] ++ am_un 72006 14 ++ am_un 73000 5 ++ [[(some 7006, 0)]] ++ am_un 73006 14 ++ am_un 74000 5 ++ [[(some 2, 0)]] ++ am_un 74006 14)
def se_X10_calibrate_17 : List (List am_V) := ([[(some 7006, 0)], [(some 67007, 0)], [(none, 5), (some 67008, 1)]] ++ am_un 68000 40 ++ am_un 69000 40 ++ am_un 70000 40 ++ am_un 72000 4 ++ [[(some 1, 0)]] ++ am_un 72005 15 ++ am_un 73000 4 ++ [[(some 7006, 0)]] ++ am_un 73005 15 ++ am_un 74000 4 ++ [[(some 2, 0)]] ++ am_un 74005 15)
def se_X10_calibrate_18 : List (List am_V) := ([[(some 7006, 0)], [(some 67007, 0)], [(none, 4), (some 67008, 1)]] ++ am_un 68000 40 ++ am_un 69000 40 ++ am_un 70000 40 ++ [[(some 72000, 0)], [(some 72001, 0)], [(some 72002, 0)], [(some 1, 0)]] ++ am_un 72004 16 ++ [[(some 73000, 0)], [(some 73001, 0)], [(some 73002, 0)], [(some 7006, 0)]] ++ am_un 73004 16 ++ [[(some 74000, 0)], [(some 74001, 0)], [(some 74002, 0)], [(some 2, 0)]] ++ am_un 74004 16)
def se_X10_calibrate_19 : List (List am_V) := ([[(some 7006, 0)], [(some 67007, 0)], [(none, 3), (some 67008, 1)]] ++ am_un 68000 40 ++ am_un 69000 40 ++ am_un 70000 40 ++ [[(some 72000, 0)], [(some 72001, 0)], [(some 1, 0)]] ++ am_un 72003 17 ++ [[(some 73000, 0)], [(some 73001, 0)], [(some 7006, 0)]] ++ am_un 73003 17 ++ [[(some 74000, 0)], [(some 74001, 0)], [(some 2, 0)]] ++ am_un 74003 17)
def se_X10_calibrate_20 : List (List am_V) := ([[(some 7006, 0)], [(some 67007, 0)], [(none, 2), (some 67008, 1)]] ++ am_un 68000 40 ++ am_un 69000 40 ++ am_un 70000 40 ++ [[(some 72000, 0)], [(some 1, 0)]] ++ am_un 72002 18 ++ [[(some 73000, 0)], [(some 7006, 0)]] ++ am_un 73002 18 ++ [[(some 74000, 0)], [(some 2, 0)]] ++ am_un 74002 18)
def se_X10_calibrate_21 : List (List am_V) := ([[(some 7006, 0)], [(some 67007, 0)], [(none, 1), (some 67008, 1)]] ++ am_un 68000 40 ++ am_un 69000 40 ++ am_un 70000 40 ++ [[(some 1, 0)]] ++ am_un 72001 19 ++ [[(some 7006, 0)]] ++ am_un 73001 19 ++ [[(some 2, 0)]] ++ am_un 74001 19)
def sn_X10_calibrate_0 : List am_N := [([((8, 1, 0), (-2147483648), (-1))], [(none, (-1000000001))], se_X10_calibrate_0),
  ([((8, 1, 0), 4, 2147483647)], [(none, (-1000000001))], se_X10_calibrate_0),
  ([((8, 1, 0), 0, 3), ((8, 2, 0), (-2147483648), (-1001))], [(none, (-1000000001))], se_X10_calibrate_0),
  ([((8, 1, 0), 0, 3), ((8, 2, 0), 1001, 2147483647)], [(none, (-1000000001))], se_X10_calibrate_0),
  ([((8, 1, 0), 0, 3), ((8, 2, 0), (-1000), 1000), ((8, 67008, 0), 20, 20)], [(none, (-1000000004))], se_X10_calibrate_1),
  ([((8, 1, 0), 0, 3), ((8, 2, 0), (-1000), 1000), ((8, 67008, 0), 19, 19), ((8, 67008, 0), 0, 19)], [(none, 20), (some 67008, 1)], se_X10_calibrate_2),
  ([((8, 1, 0), 0, 3), ((8, 2, 0), (-1000), 1000), ((8, 67008, 0), 18, 18), ((8, 67008, 0), 0, 19)], [(none, 19), (some 67008, 1)], se_X10_calibrate_3),
  ([((8, 1, 0), 0, 3), ((8, 2, 0), (-1000), 1000), ((8, 67008, 0), 17, 17), ((8, 67008, 0), 0, 19)], [(none, 18), (some 67008, 1)], se_X10_calibrate_4),
  ([((8, 1, 0), 0, 3), ((8, 2, 0), (-1000), 1000), ((8, 67008, 0), 16, 16), ((8, 67008, 0), 0, 19)], [(none, 17), (some 67008, 1)], se_X10_calibrate_5),
  ([((8, 1, 0), 0, 3), ((8, 2, 0), (-1000), 1000), ((8, 67008, 0), 15, 15), ((8, 67008, 0), 0, 19)], [(none, 16), (some 67008, 1)], se_X10_calibrate_6),
  ([((8, 1, 0), 0, 3), ((8, 2, 0), (-1000), 1000), ((8, 67008, 0), 14, 14), ((8, 67008, 0), 0, 19)], [(none, 15), (some 67008, 1)], se_X10_calibrate_7),
  ([((8, 1, 0), 0, 3), ((8, 2, 0), (-1000), 1000), ((8, 67008, 0), 13, 13), ((8, 67008, 0), 0, 19)], [(none, 14), (some 67008, 1)], se_X10_calibrate_8),
  ([((8, 1, 0), 0, 3), ((8, 2, 0), (-1000), 1000), ((8, 67008, 0), 12, 12), ((8, 67008, 0), 0, 19)], [(none, 13), (some 67008, 1)], se_X10_calibrate_9),
  ([((8, 1, 0), 0, 3), ((8, 2, 0), (-1000), 1000), ((8, 67008, 0), 11, 11), ((8, 67008, 0), 0, 19)], [(none, 12), (some 67008, 1)], se_X10_calibrate_10),
  ([((8, 1, 0), 0, 3), ((8, 2, 0), (-1000), 1000), ((8, 67008, 0), 10, 10), ((8, 67008, 0), 0, 19)], [(none, 11), (some 67008, 1)], se_X10_calibrate_11),
  ([((8, 1, 0), 0, 3), ((8, 2, 0), (-1000), 1000), ((8, 67008, 0), 9, 9), ((8, 67008, 0), 0, 19)], [(none, 10), (some 67008, 1)], se_X10_calibrate_12),
  ([((8, 1, 0), 0, 3), ((8, 2, 0), (-1000), 1000), ((8, 67008, 0), 8, 8), ((8, 67008, 0), 0, 19)], [(none, 9), (some 67008, 1)], se_X10_calibrate_13),
  ([((8, 1, 0), 0, 3), ((8, 2, 0), (-1000), 1000), ((8, 67008, 0), 7, 7), ((8, 67008, 0), 0, 19)], [(none, 8), (some 67008, 1)], se_X10_calibrate_14),
  ([((8, 1, 0), 0, 3), ((8, 2, 0), (-1000), 1000), ((8, 67008, 0), 6, 6), ((8, 67008, 0), 0, 19)], [(none, 7), (some 67008, 1)], se_X10_calibrate_15),
  ([((8, 1, 0), 0, 3), ((8, 2, 0), (-1000), 1000), ((8, 67008, 0), 5, 5), ((8, 67008, 0), 0, 19)], [(none, 6), (some 67008, 1)], se_X10_calibrate_16),
  ([((8, 1, 0), 0, 3), ((8, 2, 0), (-1000), 1000), ((8, 67008, 0), 4, 4), ((8, 67008, 0), 0, 19)], [(none, 5), (some 67008, 1)], se_X10_calibrate_17),
  ([((8, 1, 0), 0, 3), ((8, 2, 0), (-1000), 1000), ((8, 67008, 0), 3, 3), ((8, 67008, 0), 0, 19)], [(none, 4), (some 67008, 1)], se_X10_calibrate_18),
  ([((8, 1, 0), 0, 3), ((8, 2, 0), (-1000), 1000), ((8, 67008, 0), 2, 2), ((8, 67008, 0), 0, 19)], [(none, 3), (some 67008, 1)], se_X10_calibrate_19),
  ([((8, 1, 0), 0, 3), ((8, 2, 0), (-1000), 1000), ((8, 67008, 0), 1, 1), ((8, 67008, 0), 0, 19)], [(none, 2), (some 67008, 1)], se_X10_calibrate_20),
  ([((8, 1, 0), 0, 3), ((8, 2, 0), (-1000), 1000), ((8, 67008, 0), 0, 0), ((8, 67008, 0), 0, 19)], [(none, 1), (some 67008, 1)], se_X10_calibrate_21)]
def sn_X10_calibrate : List am_N := sn_X10_calibrate_0
theorem sq_calibrate : am_chk rel_p rel_g bc_X9_calibrate bc_X10_calibrate sc_X9_calibrate sc_X10_calibrate sn_X9_calibrate sn_X10_calibrate = true := by decide +kernel
theorem sa_calibrate : sn_X9_calibrate.all (fun n => sn_X10_calibrate.all (am_ok false n)) = true := by decide +kernel
theorem sb_calibrate : bc_X9_calibrate.all (fun c => c.2.2.2.all (am_bc2 rel_b c.2.2.1)) = true := by decide +kernel
theorem step_calibrate {c0 c1 : ab_C} {a b x y : Int32} {cs cs1 cs2 : ex_C} (hc : bc_X9_calibrate = [c0]) (hc' : bc_X10_calibrate = [c1]) (h : ab_post ab_hd c0 [.ref 0, .int a, .int b] cs (some (.int x)) cs1) (h' : ab_post ab_hd c1 [.ref 76, .int a, .int b] cs1 (some (.int y)) cs2) (hR : rel_R cs) : rel_R cs2 := by
  have q := sq_calibrate
  rw [hc, hc'] at q
  have w := sb_calibrate
  rw [hc] at w
  have w1 := List.all_eq_true.mp w c0 List.mem_cons_self
  obtain ⟨q1, f9, f10, q2, q3⟩ := am_chkk q
  have r := am_main q1 f9 f10 q2 q3 sa_calibrate h h' hR.1 (rel_gh hR.2)
  exact ⟨r.2, am_bstep2 rel_bp rel_bw w1 q1 h h' hR.2⟩
def sc_X9_check : List ((Nat × Nat) × Bool) := [((6, 6), false), ((66, 7), false), ((66, 8), false), ((67, 0), false), ((67, 1), false), ((67, 2), false), ((67, 3), false), ((67, 4), false), ((67, 5), false), ((67, 6), false), ((67, 7), false), ((67, 8), false), ((67, 9), false), ((67, 10), false), ((67, 11), false), ((67, 12), false), ((67, 13), false), ((67, 14), false), ((67, 15), false), ((67, 16), false), ((67, 17), false), ((67, 18), false), ((67, 19), false), ((67, 20), false), ((67, 21), false), ((67, 22), false), ((67, 23), false), ((67, 24), false), ((67, 25), false), ((67, 26), false), ((67, 27), false), ((67, 28), false), ((67, 29), false), ((67, 30), false), ((67, 31), false), ((67, 32), false), ((67, 33), false), ((67, 34), false), ((67, 35), false), ((67, 36), false), ((67, 37), false), ((67, 38), false), ((67, 39), false), ((68, 0), false), ((68, 1), false), ((68, 2), false), ((68, 3), false), ((68, 4), false), ((68, 5), false), ((68, 6), false), ((68, 7), false), ((68, 8), false), ((68, 9), false), ((68, 10), false), ((68, 11), false), ((68, 12), false), ((68, 13), false), ((68, 14), false), ((68, 15), false), ((68, 16), false), ((68, 17), false), ((68, 18), false), ((68, 19), false), ((68, 20), false), ((68, 21), false), ((68, 22), false), ((68, 23), false), ((68, 24), false), ((68, 25), false), ((68, 26), false), ((68, 27), false), ((68, 28), false), ((68, 29), false), ((68, 30), false), ((68, 31), false), ((68, 32), false), ((68, 33), false), ((68, 34), false), ((68, 35), false), ((68, 36), false), ((68, 37), false), ((68, 38), false), ((68, 39), false), ((69, 0), false), ((69, 1), false), ((69, 2), false), ((69, 3), false), ((69, 4), false), ((69, 5), false), ((69, 6), false), ((69, 7), false), ((69, 8), false), ((69, 9), false), ((69, 10), false), ((69, 11), false), ((69, 12), false), ((69, 13), false), ((69, 14), false), ((69, 15), false), ((69, 16), false), ((69, 17), false), ((69, 18), false), ((69, 19), false), ((69, 20), false), ((69, 21), false), ((69, 22), false), ((69, 23), false), ((69, 24), false), ((69, 25), false), ((69, 26), false), ((69, 27), false), ((69, 28), false), ((69, 29), false), ((69, 30), false), ((69, 31), false), ((69, 32), false), ((69, 33), false), ((69, 34), false), ((69, 35), false), ((69, 36), false), ((69, 37), false), ((69, 38), false), ((69, 39), false), ((71, 0), false), ((71, 1), false), ((71, 2), false), ((71, 3), false), ((71, 4), false), ((71, 5), false), ((71, 6), false), ((71, 7), false), ((71, 8), false), ((71, 9), false), ((71, 10), false), ((71, 11), false), ((71, 12), false), ((71, 13), false), ((71, 14), false), ((71, 15), false), ((71, 16), false), ((71, 17), false), ((71, 18), false), ((71, 19), false), ((72, 0), false), ((72, 1), false), ((72, 2), false), ((72, 3), false), ((72, 4), false), ((72, 5), false), ((72, 6), false), ((72, 7), false), ((72, 8), false), ((72, 9), false), ((72, 10), false), ((72, 11), false), ((72, 12), false), ((72, 13), false), ((72, 14), false), ((72, 15), false), ((72, 16), false), ((72, 17), false), ((72, 18), false), ((72, 19), false), ((73, 0), false), ((73, 1), false), ((73, 2), false), ((73, 3), false), ((73, 4), false), ((73, 5), false), ((73, 6), false), ((73, 7), false), ((73, 8), false), ((73, 9), false), ((73, 10), false), ((73, 11), false), ((73, 12), false), ((73, 13), false), ((73, 14), false), ((73, 15), false), ((73, 16), false), ((73, 17), false), ((73, 18), false), ((73, 19), false)]
def sc_X10_check : List ((Nat × Nat) × Bool) := [((101, 0), true), ((76, 40), false), ((76, 45), false), ((106, 0), false), ((106, 1), false), ((106, 2), false), ((106, 3), false), ((106, 4), false), ((106, 5), false), ((106, 6), false), ((106, 7), false), ((106, 8), false), ((106, 9), false), ((106, 10), false), ((106, 11), false), ((106, 12), false), ((106, 13), false), ((106, 14), false), ((106, 15), false), ((106, 16), false), ((106, 17), false), ((106, 18), false), ((106, 19), false), ((106, 20), false), ((106, 21), false), ((106, 22), false), ((106, 23), false), ((106, 24), false), ((106, 25), false), ((106, 26), false), ((106, 27), false), ((106, 28), false), ((106, 29), false), ((106, 30), false), ((106, 31), false), ((106, 32), false), ((106, 33), false), ((106, 34), false), ((106, 35), false), ((106, 36), false), ((106, 37), false), ((106, 38), false), ((106, 39), false), ((107, 0), false), ((107, 1), false), ((107, 2), false), ((107, 3), false), ((107, 4), false), ((107, 5), false), ((107, 6), false), ((107, 7), false), ((107, 8), false), ((107, 9), false), ((107, 10), false), ((107, 11), false), ((107, 12), false), ((107, 13), false), ((107, 14), false), ((107, 15), false), ((107, 16), false), ((107, 17), false), ((107, 18), false), ((107, 19), false), ((107, 20), false), ((107, 21), false), ((107, 22), false), ((107, 23), false), ((107, 24), false), ((107, 25), false), ((107, 26), false), ((107, 27), false), ((107, 28), false), ((107, 29), false), ((107, 30), false), ((107, 31), false), ((107, 32), false), ((107, 33), false), ((107, 34), false), ((107, 35), false), ((107, 36), false), ((107, 37), false), ((107, 38), false), ((107, 39), false), ((108, 0), false), ((108, 1), false), ((108, 2), false), ((108, 3), false), ((108, 4), false), ((108, 5), false), ((108, 6), false), ((108, 7), false), ((108, 8), false), ((108, 9), false), ((108, 10), false), ((108, 11), false), ((108, 12), false), ((108, 13), false), ((108, 14), false), ((108, 15), false), ((108, 16), false), ((108, 17), false), ((108, 18), false), ((108, 19), false), ((108, 20), false), ((108, 21), false), ((108, 22), false), ((108, 23), false), ((108, 24), false), ((108, 25), false), ((108, 26), false), ((108, 27), false), ((108, 28), false), ((108, 29), false), ((108, 30), false), ((108, 31), false), ((108, 32), false), ((108, 33), false), ((108, 34), false), ((108, 35), false), ((108, 36), false), ((108, 37), false), ((108, 38), false), ((108, 39), false), ((110, 0), false), ((110, 1), false), ((110, 2), false), ((110, 3), false), ((110, 4), false), ((110, 5), false), ((110, 6), false), ((110, 7), false), ((110, 8), false), ((110, 9), false), ((110, 10), false), ((110, 11), false), ((110, 12), false), ((110, 13), false), ((110, 14), false), ((110, 15), false), ((110, 16), false), ((110, 17), false), ((110, 18), false), ((110, 19), false), ((111, 0), false), ((111, 1), false), ((111, 2), false), ((111, 3), false), ((111, 4), false), ((111, 5), false), ((111, 6), false), ((111, 7), false), ((111, 8), false), ((111, 9), false), ((111, 10), false), ((111, 11), false), ((111, 12), false), ((111, 13), false), ((111, 14), false), ((111, 15), false), ((111, 16), false), ((111, 17), false), ((111, 18), false), ((111, 19), false), ((112, 0), false), ((112, 1), false), ((112, 2), false), ((112, 3), false), ((112, 4), false), ((112, 5), false), ((112, 6), false), ((112, 7), false), ((112, 8), false), ((112, 9), false), ((112, 10), false), ((112, 11), false), ((112, 12), false), ((112, 13), false), ((112, 14), false), ((112, 15), false), ((112, 16), false), ((112, 17), false), ((112, 18), false), ((112, 19), false)]
def sn_X9_check : List am_N := [([], [], ([[(some 7006, 0)], [(some 67007, 0)], [(some 67008, 0)]] ++ am_un 68000 40 ++ am_un 69000 40 ++ am_un 70000 40 ++ am_un 72000 20 ++ am_un 73000 20 ++ am_un 74000 20))]
def sn_X10_check : List am_N := [([], [], ([[(some 7006, 0)], [(some 67007, 0)], [(some 67008, 0)]] ++ am_un 68000 40 ++ am_un 69000 40 ++ am_un 70000 40 ++ am_un 72000 20 ++ am_un 73000 20 ++ am_un 74000 20))]
theorem sq_check : am_chk rel_p rel_g bc_X9_check bc_X10_check sc_X9_check sc_X10_check sn_X9_check sn_X10_check = true := by decide +kernel
theorem sa_check : sn_X9_check.all (fun n => sn_X10_check.all (am_ok false n)) = true := by decide +kernel
theorem sb_check : bc_X9_check.all (fun c => c.2.2.2.all (am_bc2 rel_b c.2.2.1)) = true := by decide +kernel
theorem step_check {c0 c1 : ab_C} {a b x y : Int32} {cs cs1 cs2 : ex_C} (hc : bc_X9_check = [c0]) (hc' : bc_X10_check = [c1]) (h : ab_post ab_hd c0 [.ref 0, .int a, .int b] cs (some (.int x)) cs1) (h' : ab_post ab_hd c1 [.ref 76, .int a, .int b] cs1 (some (.int y)) cs2) (hR : rel_R cs) : rel_R cs2 := by
  have q := sq_check
  rw [hc, hc'] at q
  have w := sb_check
  rw [hc] at w
  have w1 := List.all_eq_true.mp w c0 List.mem_cons_self
  obtain ⟨q1, f9, f10, q2, q3⟩ := am_chkk q
  have r := am_main q1 f9 f10 q2 q3 sa_check h h' hR.1 (rel_gh hR.2)
  exact ⟨r.2, am_bstep2 rel_bp rel_bw w1 q1 h h' hR.2⟩
def rel_base_read : am_P := [((6, 6), (101, 0)), ((66, 7), (76, 40))]
theorem sj_read : am_jal rel_p rel_base_read false rel_b [.inl 0, .inr (-2147483648, 2147483647), .inr (-2147483648, 2147483647)] [.inl 76, .inr (-2147483648, 2147483647), .inr (-2147483648, 2147483647)] (66, 7) (76, 40) bc_X9_read bc_X10_read 41 = true := by decide +kernel
theorem sm_read : (((66, 7), (76, 40)) : (Nat × Nat) × (Nat × Nat)) ∈ rel_p := by decide +kernel
theorem pick_read {a b : Int32} {cs : ex_C} (hk : ab_hk ab_hd cs) (hR : rel_R cs) : ∃ c ∈ bc_X9_read, ab_pre c [.ref 0, .int a, .int b] cs ∧ c.2.2.2.all (fun k => k.1.isSome) = true ∧ ∀ x cs1, ab_post ab_hd c [.ref 0, .int a, .int b] cs (some (.int x)) cs1 → ∃ d ∈ bc_X10_read, ab_pre d [.ref 76, .int a, .int b] cs1 ∧ d.2.2.2.all (fun k => k.1.isSome) = true ∧ ∀ y cs2, ab_post ab_hd d [.ref 76, .int a, .int b] cs1 (some (.int y)) cs2 → rel_R cs2 := by
  obtain ⟨c, hc, h1, h2, h3⟩ := am_pick (v0 := .ref 0) (v1 := .ref 76) (ps := [.int a, .int b]) (cs := cs) rel_bp rel_bw sj_read sm_read (fun z hz => (by
    have := am_hb hk (k := 66) (j := 7) rfl rfl z hz
    omega)) ⟨rfl, fun i t h => (match i, h with
      | 0, h => (by cases h; exact ⟨_, rfl, rfl⟩)
      | 1, h => (by cases h; exact ⟨_, rfl, _, rfl, ab_ge _, ab_lt' _⟩)
      | 2, h => (by cases h; exact ⟨_, rfl, _, rfl, ab_ge _, ab_lt' _⟩)
      | i + 3, h => (by simp at h))⟩ ⟨rfl, fun i t h => (match i, h with
      | 0, h => (by cases h; exact ⟨_, rfl, rfl⟩)
      | 1, h => (by cases h; exact ⟨_, rfl, _, rfl, ab_ge _, ab_lt' _⟩)
      | 2, h => (by cases h; exact ⟨_, rfl, _, rfl, ab_ge _, ab_lt' _⟩)
      | i + 3, h => (by simp at h))⟩ hR.1 hR.2
  refine ⟨c, hc, h1, h2, fun x cs1 p1 => ?_⟩
  obtain ⟨d, hd, g1, g2, g3⟩ := h3 x cs1 p1
  refine ⟨d, hd, g1, g2, fun y cs2 p2 => ?_⟩
  have r := g3 y cs2 p2
  exact r.2
def sc_X9_ticks : List ((Nat × Nat) × Bool) := [((6, 6), true), ((66, 7), false), ((66, 8), false), ((67, 0), false), ((67, 1), false), ((67, 2), false), ((67, 3), false), ((67, 4), false), ((67, 5), false), ((67, 6), false), ((67, 7), false), ((67, 8), false), ((67, 9), false), ((67, 10), false), ((67, 11), false), ((67, 12), false), ((67, 13), false), ((67, 14), false), ((67, 15), false), ((67, 16), false), ((67, 17), false), ((67, 18), false), ((67, 19), false), ((67, 20), false), ((67, 21), false), ((67, 22), false), ((67, 23), false), ((67, 24), false), ((67, 25), false), ((67, 26), false), ((67, 27), false), ((67, 28), false), ((67, 29), false), ((67, 30), false), ((67, 31), false), ((67, 32), false), ((67, 33), false), ((67, 34), false), ((67, 35), false), ((67, 36), false), ((67, 37), false), ((67, 38), false), ((67, 39), false), ((68, 0), false), ((68, 1), false), ((68, 2), false), ((68, 3), false), ((68, 4), false), ((68, 5), false), ((68, 6), false), ((68, 7), false), ((68, 8), false), ((68, 9), false), ((68, 10), false), ((68, 11), false), ((68, 12), false), ((68, 13), false), ((68, 14), false), ((68, 15), false), ((68, 16), false), ((68, 17), false), ((68, 18), false), ((68, 19), false), ((68, 20), false), ((68, 21), false), ((68, 22), false), ((68, 23), false), ((68, 24), false), ((68, 25), false), ((68, 26), false), ((68, 27), false), ((68, 28), false), ((68, 29), false), ((68, 30), false), ((68, 31), false), ((68, 32), false), ((68, 33), false), ((68, 34), false), ((68, 35), false), ((68, 36), false), ((68, 37), false), ((68, 38), false), ((68, 39), false), ((69, 0), false), ((69, 1), false), ((69, 2), false), ((69, 3), false), ((69, 4), false), ((69, 5), false), ((69, 6), false), ((69, 7), false), ((69, 8), false), ((69, 9), false), ((69, 10), false), ((69, 11), false), ((69, 12), false), ((69, 13), false), ((69, 14), false), ((69, 15), false), ((69, 16), false), ((69, 17), false), ((69, 18), false), ((69, 19), false), ((69, 20), false), ((69, 21), false), ((69, 22), false), ((69, 23), false), ((69, 24), false), ((69, 25), false), ((69, 26), false), ((69, 27), false), ((69, 28), false), ((69, 29), false), ((69, 30), false), ((69, 31), false), ((69, 32), false), ((69, 33), false), ((69, 34), false), ((69, 35), false), ((69, 36), false), ((69, 37), false), ((69, 38), false), ((69, 39), false), ((71, 0), false), ((71, 1), false), ((71, 2), false), ((71, 3), false), ((71, 4), false), ((71, 5), false), ((71, 6), false), ((71, 7), false), ((71, 8), false), ((71, 9), false), ((71, 10), false), ((71, 11), false), ((71, 12), false), ((71, 13), false), ((71, 14), false), ((71, 15), false), ((71, 16), false), ((71, 17), false), ((71, 18), false), ((71, 19), false), ((72, 0), false), ((72, 1), false), ((72, 2), false), ((72, 3), false), ((72, 4), false), ((72, 5), false), ((72, 6), false), ((72, 7), false), ((72, 8), false), ((72, 9), false), ((72, 10), false), ((72, 11), false), ((72, 12), false), ((72, 13), false), ((72, 14), false), ((72, 15), false), ((72, 16), false), ((72, 17), false), ((72, 18), false), ((72, 19), false), ((73, 0), false), ((73, 1), false), ((73, 2), false), ((73, 3), false), ((73, 4), false), ((73, 5), false), ((73, 6), false), ((73, 7), false), ((73, 8), false), ((73, 9), false), ((73, 10), false), ((73, 11), false), ((73, 12), false), ((73, 13), false), ((73, 14), false), ((73, 15), false), ((73, 16), false), ((73, 17), false), ((73, 18), false), ((73, 19), false)]
def sc_X10_ticks : List ((Nat × Nat) × Bool) := [((101, 0), true), ((76, 40), false), ((76, 45), false), ((106, 0), false), ((106, 1), false), ((106, 2), false), ((106, 3), false), ((106, 4), false), ((106, 5), false), ((106, 6), false), ((106, 7), false), ((106, 8), false), ((106, 9), false), ((106, 10), false), ((106, 11), false), ((106, 12), false), ((106, 13), false), ((106, 14), false), ((106, 15), false), ((106, 16), false), ((106, 17), false), ((106, 18), false), ((106, 19), false), ((106, 20), false), ((106, 21), false), ((106, 22), false), ((106, 23), false), ((106, 24), false), ((106, 25), false), ((106, 26), false), ((106, 27), false), ((106, 28), false), ((106, 29), false), ((106, 30), false), ((106, 31), false), ((106, 32), false), ((106, 33), false), ((106, 34), false), ((106, 35), false), ((106, 36), false), ((106, 37), false), ((106, 38), false), ((106, 39), false), ((107, 0), false), ((107, 1), false), ((107, 2), false), ((107, 3), false), ((107, 4), false), ((107, 5), false), ((107, 6), false), ((107, 7), false), ((107, 8), false), ((107, 9), false), ((107, 10), false), ((107, 11), false), ((107, 12), false), ((107, 13), false), ((107, 14), false), ((107, 15), false), ((107, 16), false), ((107, 17), false), ((107, 18), false), ((107, 19), false), ((107, 20), false), ((107, 21), false), ((107, 22), false), ((107, 23), false), ((107, 24), false), ((107, 25), false), ((107, 26), false), ((107, 27), false), ((107, 28), false), ((107, 29), false), ((107, 30), false), ((107, 31), false), ((107, 32), false), ((107, 33), false), ((107, 34), false), ((107, 35), false), ((107, 36), false), ((107, 37), false), ((107, 38), false), ((107, 39), false), ((108, 0), false), ((108, 1), false), ((108, 2), false), ((108, 3), false), ((108, 4), false), ((108, 5), false), ((108, 6), false), ((108, 7), false), ((108, 8), false), ((108, 9), false), ((108, 10), false), ((108, 11), false), ((108, 12), false), ((108, 13), false), ((108, 14), false), ((108, 15), false), ((108, 16), false), ((108, 17), false), ((108, 18), false), ((108, 19), false), ((108, 20), false), ((108, 21), false), ((108, 22), false), ((108, 23), false), ((108, 24), false), ((108, 25), false), ((108, 26), false), ((108, 27), false), ((108, 28), false), ((108, 29), false), ((108, 30), false), ((108, 31), false), ((108, 32), false), ((108, 33), false), ((108, 34), false), ((108, 35), false), ((108, 36), false), ((108, 37), false), ((108, 38), false), ((108, 39), false), ((110, 0), false), ((110, 1), false), ((110, 2), false), ((110, 3), false), ((110, 4), false), ((110, 5), false), ((110, 6), false), ((110, 7), false), ((110, 8), false), ((110, 9), false), ((110, 10), false), ((110, 11), false), ((110, 12), false), ((110, 13), false), ((110, 14), false), ((110, 15), false), ((110, 16), false), ((110, 17), false), ((110, 18), false), ((110, 19), false), ((111, 0), false), ((111, 1), false), ((111, 2), false), ((111, 3), false), ((111, 4), false), ((111, 5), false), ((111, 6), false), ((111, 7), false), ((111, 8), false), ((111, 9), false), ((111, 10), false), ((111, 11), false), ((111, 12), false), ((111, 13), false), ((111, 14), false), ((111, 15), false), ((111, 16), false), ((111, 17), false), ((111, 18), false), ((111, 19), false), ((112, 0), false), ((112, 1), false), ((112, 2), false), ((112, 3), false), ((112, 4), false), ((112, 5), false), ((112, 6), false), ((112, 7), false), ((112, 8), false), ((112, 9), false), ((112, 10), false), ((112, 11), false), ((112, 12), false), ((112, 13), false), ((112, 14), false), ((112, 15), false), ((112, 16), false), ((112, 17), false), ((112, 18), false), ((112, 19), false)]
def se_X9_ticks_0 : List (List am_V) := ([[(some 7006, 0)], [(some 67007, 0)], [(some 67008, 0)]] ++ am_un 68000 40 ++ am_un 69000 40 ++ am_un 70000 40 ++ am_un 72000 20 ++ am_un 73000 20 ++ am_un 74000 20)
def se_X9_ticks_1 : List (List am_V) := ([[(some 1000000100, 0)], [(some 67007, 0)], [(some 67008, 0)]] ++ am_un 68000 40 ++ am_un 69000 40 ++ am_un 70000 40 ++ am_un 72000 20 ++ am_un 73000 20 ++ am_un 74000 20)
def se_X9_ticks_2 : List (List am_V) := ([[(some 1000000099, 0)], [(some 67007, 0)], [(some 67008, 0)]] ++ am_un 68000 40 ++ am_un 69000 40 ++ am_un 70000 40 ++ am_un 72000 20 ++ am_un 73000 20 ++ am_un 74000 20)
def se_X9_ticks_3 : List (List am_V) := ([[(some 1000000098, 0)], [(some 67007, 0)], [(some 67008, 0)]] ++ am_un 68000 40 ++ am_un 69000 40 ++ am_un 70000 40 ++ am_un 72000 20 ++ am_un 73000 20 ++ am_un 74000 20)
def se_X9_ticks_4 : List (List am_V) := ([[(some 1000000097, 0)], [(some 67007, 0)], [(some 67008, 0)]] ++ am_un 68000 40 ++ am_un 69000 40 ++ am_un 70000 40 ++ am_un 72000 20 ++ am_un 73000 20 ++ am_un 74000 20)
def se_X9_ticks_5 : List (List am_V) := ([[(some 1000000096, 0)], [(some 67007, 0)], [(some 67008, 0)]] ++ am_un 68000 40 ++ am_un 69000 40 ++ am_un 70000 40 ++ am_un 72000 20 ++ am_un 73000 20 ++ am_un 74000 20)
def se_X9_ticks_6 : List (List am_V) := ([[(some 1000000095, 0)], [(some 67007, 0)], [(some 67008, 0)]] ++ am_un 68000 40 ++ am_un 69000 40 ++ am_un 70000 40 ++ am_un 72000 20 ++ am_un 73000 20 ++ am_un 74000 20)
def se_X9_ticks_7 : List (List am_V) := ([[(some 1000000094, 0)], [(some 67007, 0)], [(some 67008, 0)]] ++ am_un 68000 40 ++ am_un 69000 40 ++ am_un 70000 40 ++ am_un 72000 20 ++ am_un 73000 20 ++ am_un 74000 20)
def se_X9_ticks_8 : List (List am_V) := ([[(some 1000000093, 0)], [(some 67007, 0)], [(some 67008, 0)]] ++ am_un 68000 40 ++ am_un 69000 40 ++ am_un 70000 40 ++ am_un 72000 20 ++ am_un 73000 20 ++ am_un 74000 20)
def se_X9_ticks_9 : List (List am_V) := ([[(some 1000000092, 0)], [(some 67007, 0)], [(some 67008, 0)]] ++ am_un 68000 40 ++ am_un 69000 40 ++ am_un 70000 40 ++ am_un 72000 20 ++ am_un 73000 20 ++ am_un 74000 20)
def se_X9_ticks_10 : List (List am_V) := ([[(some 1000000091, 0)], [(some 67007, 0)], [(some 67008, 0)]] ++ am_un 68000 40 ++ am_un 69000 40 ++ am_un 70000 40 ++ am_un 72000 20 ++ am_un 73000 20 ++ am_un 74000 20)
def se_X9_ticks_11 : List (List am_V) := ([[(some 1000000090, 0)], [(some 67007, 0)], [(some 67008, 0)]] ++ am_un 68000 40 ++ am_un 69000 40 ++ am_un 70000 40 ++ am_un 72000 20 ++ am_un 73000 20 ++ am_un 74000 20)
def se_X9_ticks_12 : List (List am_V) := ([[(some 1000000089, 0)], [(some 67007, 0)], [(some 67008, 0)]] ++ am_un 68000 40 ++ am_un 69000 40 ++ am_un 70000 40 ++ am_un 72000 20 ++ am_un 73000 20 ++ am_un 74000 20)
def se_X9_ticks_13 : List (List am_V) := ([[(some 1000000088, 0)], [(some 67007, 0)], [(some 67008, 0)]] ++ am_un 68000 40 ++ am_un 69000 40 ++ am_un 70000 40 ++ am_un 72000 20 ++ am_un 73000 20 ++ am_un 74000 20)
def se_X9_ticks_14 : List (List am_V) := ([[(some 1000000087, 0)], [(some 67007, 0)], [(some 67008, 0)]] ++ am_un 68000 40 ++ am_un 69000 40 ++ am_un 70000 40 ++ am_un 72000 20 ++ am_un 73000 20 ++ am_un 74000 20)
def se_X9_ticks_15 : List (List am_V) := ([[(some 1000000086, 0)], [(some 67007, 0)], [(some 67008, 0)]] ++ am_un 68000 40 ++ am_un 69000 40 ++ am_un 70000 40 ++ am_un 72000 20 ++ am_un 73000 20 ++ am_un 74000 20)
def se_X9_ticks_16 : List (List am_V) := ([[(some 1000000085, 0)], [(some 67007, 0)], [(some 67008, 0)]] ++ am_un 68000 40 ++ am_un 69000 40 ++ am_un 70000 40 ++ am_un 72000 20 ++ am_un 73000 20 ++ am_un 74000 20)
def se_X9_ticks_17 : List (List am_V) := ([[(some 1000000084, 0)], [(some 67007, 0)], [(some 67008, 0)]] ++ am_un 68000 40 ++ am_un 69000 40 ++ am_un 70000 40 ++ am_un 72000 20 ++ am_un 73000 20 ++ am_un 74000 20)
def se_X9_ticks_18 : List (List am_V) := ([[(some 1000000083, 0)], [(some 67007, 0)], [(some 67008, 0)]] ++ am_un 68000 40 ++ am_un 69000 40 ++ am_un 70000 40 ++ am_un 72000 20 ++ am_un 73000 20 ++ am_un 74000 20)
def se_X9_ticks_19 : List (List am_V) := ([[(some 1000000082, 0)], [(some 67007, 0)], [(some 67008, 0)]] ++ am_un 68000 40 ++ am_un 69000 40 ++ am_un 70000 40 ++ am_un 72000 20 ++ am_un 73000 20 ++ am_un 74000 20)
def se_X9_ticks_20 : List (List am_V) := ([[(some 1000000081, 0)], [(some 67007, 0)], [(some 67008, 0)]] ++ am_un 68000 40 ++ am_un 69000 40 ++ am_un 70000 40 ++ am_un 72000 20 ++ am_un 73000 20 ++ am_un 74000 20)
def se_X9_ticks_21 : List (List am_V) := ([[(some 1000000080, 0)], [(some 67007, 0)], [(some 67008, 0)]] ++ am_un 68000 40 ++ am_un 69000 40 ++ am_un 70000 40 ++ am_un 72000 20 ++ am_un 73000 20 ++ am_un 74000 20)
def se_X9_ticks_22 : List (List am_V) := ([[(some 1000000079, 0)], [(some 67007, 0)], [(some 67008, 0)]] ++ am_un 68000 40 ++ am_un 69000 40 ++ am_un 70000 40 ++ am_un 72000 20 ++ am_un 73000 20 ++ am_un 74000 20)
def se_X9_ticks_23 : List (List am_V) := ([[(some 1000000078, 0)], [(some 67007, 0)], [(some 67008, 0)]] ++ am_un 68000 40 ++ am_un 69000 40 ++ am_un 70000 40 ++ am_un 72000 20 ++ am_un 73000 20 ++ am_un 74000 20)
def se_X9_ticks_24 : List (List am_V) := ([[(some 1000000077, 0)], [(some 67007, 0)], [(some 67008, 0)]] ++ am_un 68000 40 ++ am_un 69000 40 ++ am_un 70000 40 ++ am_un 72000 20 ++ am_un 73000 20 ++ am_un 74000 20)
def se_X9_ticks_25 : List (List am_V) := ([[(some 1000000076, 0)], [(some 67007, 0)], [(some 67008, 0)]] ++ am_un 68000 40 ++ am_un 69000 40 ++ am_un 70000 40 ++ am_un 72000 20 ++ am_un 73000 20 ++ am_un 74000 20)
def se_X9_ticks_26 : List (List am_V) := ([[(some 1000000075, 0)], [(some 67007, 0)], [(some 67008, 0)]] ++ am_un 68000 40 ++ am_un 69000 40 ++ am_un 70000 40 ++ am_un 72000 20 ++ am_un 73000 20 ++ am_un 74000 20)
def se_X9_ticks_27 : List (List am_V) := ([[(some 1000000074, 0)], [(some 67007, 0)], [(some 67008, 0)]] ++ am_un 68000 40 ++ am_un 69000 40 ++ am_un 70000 40 ++ am_un 72000 20 ++ am_un 73000 20 ++ am_un 74000 20)
def se_X9_ticks_28 : List (List am_V) := ([[(some 1000000073, 0)], [(some 67007, 0)], [(some 67008, 0)]] ++ am_un 68000 40 ++ am_un 69000 40 ++ am_un 70000 40 ++ am_un 72000 20 ++ am_un 73000 20 ++ am_un 74000 20)
def se_X9_ticks_29 : List (List am_V) := ([[(some 1000000072, 0)], [(some 67007, 0)], [(some 67008, 0)]] ++ am_un 68000 40 ++ am_un 69000 40 ++ am_un 70000 40 ++ am_un 72000 20 ++ am_un 73000 20 ++ am_un 74000 20)
def se_X9_ticks_30 : List (List am_V) := ([[(some 1000000071, 0)], [(some 67007, 0)], [(some 67008, 0)]] ++ am_un 68000 40 ++ am_un 69000 40 ++ am_un 70000 40 ++ am_un 72000 20 ++ am_un 73000 20 ++ am_un 74000 20)
def se_X9_ticks_31 : List (List am_V) := ([[(some 1000000070, 0)], [(some 67007, 0)], [(some 67008, 0)]] ++ am_un 68000 40 ++ am_un 69000 40 ++ am_un 70000 40 ++ am_un 72000 20 ++ am_un 73000 20 ++ am_un 74000 20)
def se_X9_ticks_32 : List (List am_V) := ([[(some 1000000069, 0)], [(some 67007, 0)], [(some 67008, 0)]] ++ am_un 68000 40 ++ am_un 69000 40 ++ am_un 70000 40 ++ am_un 72000 20 ++ am_un 73000 20 ++ am_un 74000 20)
def se_X9_ticks_33 : List (List am_V) := ([[(some 1000000068, 0)], [(some 67007, 0)], [(some 67008, 0)]] ++ am_un 68000 40 ++ am_un 69000 40 ++ am_un 70000 40 ++ am_un 72000 20 ++ am_un 73000 20 ++ am_un 74000 20)
def se_X9_ticks_34 : List (List am_V) := ([[(some 1000000067, 0)], [(some 67007, 0)], [(some 67008, 0)]] ++ am_un 68000 40 ++ am_un 69000 40 ++ am_un 70000 40 ++ am_un 72000 20 ++ am_un 73000 20 ++ am_un 74000 20)
def se_X9_ticks_35 : List (List am_V) := ([[(some 1000000066, 0)], [(some 67007, 0)], [(some 67008, 0)]] ++ am_un 68000 40 ++ am_un 69000 40 ++ am_un 70000 40 ++ am_un 72000 20 ++ am_un 73000 20 ++ am_un 74000 20)
def se_X9_ticks_36 : List (List am_V) := ([[(some 1000000065, 0)], [(some 67007, 0)], [(some 67008, 0)]] ++ am_un 68000 40 ++ am_un 69000 40 ++ am_un 70000 40 ++ am_un 72000 20 ++ am_un 73000 20 ++ am_un 74000 20)
def se_X9_ticks_37 : List (List am_V) := ([[(some 1000000064, 0)], [(some 67007, 0)], [(some 67008, 0)]] ++ am_un 68000 40 ++ am_un 69000 40 ++ am_un 70000 40 ++ am_un 72000 20 ++ am_un 73000 20 ++ am_un 74000 20)
def se_X9_ticks_38 : List (List am_V) := ([[(some 1000000063, 0)], [(some 67007, 0)], [(some 67008, 0)]] ++ am_un 68000 40 ++ am_un 69000 40 ++ am_un 70000 40 ++ am_un 72000 20 ++ am_un 73000 20 ++ am_un 74000 20)
def se_X9_ticks_39 : List (List am_V) := ([[(some 1000000062, 0)], [(some 67007, 0)], [(some 67008, 0)]] ++ am_un 68000 40 ++ am_un 69000 40 ++ am_un 70000 40 ++ am_un 72000 20 ++ am_un 73000 20 ++ am_un 74000 20)
def se_X9_ticks_40 : List (List am_V) := ([[(some 1000000061, 0)], [(some 67007, 0)], [(some 67008, 0)]] ++ am_un 68000 40 ++ am_un 69000 40 ++ am_un 70000 40 ++ am_un 72000 20 ++ am_un 73000 20 ++ am_un 74000 20)
def se_X9_ticks_41 : List (List am_V) := ([[(some 1000000060, 0)], [(some 67007, 0)], [(some 67008, 0)]] ++ am_un 68000 40 ++ am_un 69000 40 ++ am_un 70000 40 ++ am_un 72000 20 ++ am_un 73000 20 ++ am_un 74000 20)
def se_X9_ticks_42 : List (List am_V) := ([[(some 1000000059, 0)], [(some 67007, 0)], [(some 67008, 0)]] ++ am_un 68000 40 ++ am_un 69000 40 ++ am_un 70000 40 ++ am_un 72000 20 ++ am_un 73000 20 ++ am_un 74000 20)
def se_X9_ticks_43 : List (List am_V) := ([[(some 1000000058, 0)], [(some 67007, 0)], [(some 67008, 0)]] ++ am_un 68000 40 ++ am_un 69000 40 ++ am_un 70000 40 ++ am_un 72000 20 ++ am_un 73000 20 ++ am_un 74000 20)
def se_X9_ticks_44 : List (List am_V) := ([[(some 1000000057, 0)], [(some 67007, 0)], [(some 67008, 0)]] ++ am_un 68000 40 ++ am_un 69000 40 ++ am_un 70000 40 ++ am_un 72000 20 ++ am_un 73000 20 ++ am_un 74000 20)
def se_X9_ticks_45 : List (List am_V) := ([[(some 1000000056, 0)], [(some 67007, 0)], [(some 67008, 0)]] ++ am_un 68000 40 ++ am_un 69000 40 ++ am_un 70000 40 ++ am_un 72000 20 ++ am_un 73000 20 ++ am_un 74000 20)
def se_X9_ticks_46 : List (List am_V) := ([[(some 1000000055, 0)], [(some 67007, 0)], [(some 67008, 0)]] ++ am_un 68000 40 ++ am_un 69000 40 ++ am_un 70000 40 ++ am_un 72000 20 ++ am_un 73000 20 ++ am_un 74000 20)
def se_X9_ticks_47 : List (List am_V) := ([[(some 1000000054, 0)], [(some 67007, 0)], [(some 67008, 0)]] ++ am_un 68000 40 ++ am_un 69000 40 ++ am_un 70000 40 ++ am_un 72000 20 ++ am_un 73000 20 ++ am_un 74000 20)
def se_X9_ticks_48 : List (List am_V) := ([[(some 1000000053, 0)], [(some 67007, 0)], [(some 67008, 0)]] ++ am_un 68000 40 ++ am_un 69000 40 ++ am_un 70000 40 ++ am_un 72000 20 ++ am_un 73000 20 ++ am_un 74000 20)
def se_X9_ticks_49 : List (List am_V) := ([[(some 1000000052, 0)], [(some 67007, 0)], [(some 67008, 0)]] ++ am_un 68000 40 ++ am_un 69000 40 ++ am_un 70000 40 ++ am_un 72000 20 ++ am_un 73000 20 ++ am_un 74000 20)
def se_X9_ticks_50 : List (List am_V) := ([[(some 1000000051, 0)], [(some 67007, 0)], [(some 67008, 0)]] ++ am_un 68000 40 ++ am_un 69000 40 ++ am_un 70000 40 ++ am_un 72000 20 ++ am_un 73000 20 ++ am_un 74000 20)
def se_X9_ticks_51 : List (List am_V) := ([[(some 1000000050, 0)], [(some 67007, 0)], [(some 67008, 0)]] ++ am_un 68000 40 ++ am_un 69000 40 ++ am_un 70000 40 ++ am_un 72000 20 ++ am_un 73000 20 ++ am_un 74000 20)
def se_X9_ticks_52 : List (List am_V) := ([[(some 1000000049, 0)], [(some 67007, 0)], [(some 67008, 0)]] ++ am_un 68000 40 ++ am_un 69000 40 ++ am_un 70000 40 ++ am_un 72000 20 ++ am_un 73000 20 ++ am_un 74000 20)
def se_X9_ticks_53 : List (List am_V) := ([[(some 1000000048, 0)], [(some 67007, 0)], [(some 67008, 0)]] ++ am_un 68000 40 ++ am_un 69000 40 ++ am_un 70000 40 ++ am_un 72000 20 ++ am_un 73000 20 ++ am_un 74000 20)
def se_X9_ticks_54 : List (List am_V) := ([[(some 1000000047, 0)], [(some 67007, 0)], [(some 67008, 0)]] ++ am_un 68000 40 ++ am_un 69000 40 ++ am_un 70000 40 ++ am_un 72000 20 ++ am_un 73000 20 ++ am_un 74000 20)
def se_X9_ticks_55 : List (List am_V) := ([[(some 1000000046, 0)], [(some 67007, 0)], [(some 67008, 0)]] ++ am_un 68000 40 ++ am_un 69000 40 ++ am_un 70000 40 ++ am_un 72000 20 ++ am_un 73000 20 ++ am_un 74000 20)
def se_X9_ticks_56 : List (List am_V) := ([[(some 1000000045, 0)], [(some 67007, 0)], [(some 67008, 0)]] ++ am_un 68000 40 ++ am_un 69000 40 ++ am_un 70000 40 ++ am_un 72000 20 ++ am_un 73000 20 ++ am_un 74000 20)
def se_X9_ticks_57 : List (List am_V) := ([[(some 1000000044, 0)], [(some 67007, 0)], [(some 67008, 0)]] ++ am_un 68000 40 ++ am_un 69000 40 ++ am_un 70000 40 ++ am_un 72000 20 ++ am_un 73000 20 ++ am_un 74000 20)
def se_X9_ticks_58 : List (List am_V) := ([[(some 1000000043, 0)], [(some 67007, 0)], [(some 67008, 0)]] ++ am_un 68000 40 ++ am_un 69000 40 ++ am_un 70000 40 ++ am_un 72000 20 ++ am_un 73000 20 ++ am_un 74000 20)
def se_X9_ticks_59 : List (List am_V) := ([[(some 1000000042, 0)], [(some 67007, 0)], [(some 67008, 0)]] ++ am_un 68000 40 ++ am_un 69000 40 ++ am_un 70000 40 ++ am_un 72000 20 ++ am_un 73000 20 ++ am_un 74000 20)
def se_X9_ticks_60 : List (List am_V) := ([[(some 1000000041, 0)], [(some 67007, 0)], [(some 67008, 0)]] ++ am_un 68000 40 ++ am_un 69000 40 ++ am_un 70000 40 ++ am_un 72000 20 ++ am_un 73000 20 ++ am_un 74000 20)
def se_X9_ticks_61 : List (List am_V) := ([[(some 1000000040, 0)], [(some 67007, 0)], [(some 67008, 0)]] ++ am_un 68000 40 ++ am_un 69000 40 ++ am_un 70000 40 ++ am_un 72000 20 ++ am_un 73000 20 ++ am_un 74000 20)
def se_X9_ticks_62 : List (List am_V) := ([[(some 1000000039, 0)], [(some 67007, 0)], [(some 67008, 0)]] ++ am_un 68000 40 ++ am_un 69000 40 ++ am_un 70000 40 ++ am_un 72000 20 ++ am_un 73000 20 ++ am_un 74000 20)
def se_X9_ticks_63 : List (List am_V) := ([[(some 1000000038, 0)], [(some 67007, 0)], [(some 67008, 0)]] ++ am_un 68000 40 ++ am_un 69000 40 ++ am_un 70000 40 ++ am_un 72000 20 ++ am_un 73000 20 ++ am_un 74000 20)
def se_X9_ticks_64 : List (List am_V) := ([[(some 1000000037, 0)], [(some 67007, 0)], [(some 67008, 0)]] ++ am_un 68000 40 ++ am_un 69000 40 ++ am_un 70000 40 ++ am_un 72000 20 ++ am_un 73000 20 ++ am_un 74000 20)
def se_X9_ticks_65 : List (List am_V) := ([[(some 1000000036, 0)], [(some 67007, 0)], [(some 67008, 0)]] ++ am_un 68000 40 ++ am_un 69000 40 ++ am_un 70000 40 ++ am_un 72000 20 ++ am_un 73000 20 ++ am_un 74000 20)
def se_X9_ticks_66 : List (List am_V) := ([[(some 1000000035, 0)], [(some 67007, 0)], [(some 67008, 0)]] ++ am_un 68000 40 ++ am_un 69000 40 ++ am_un 70000 40 ++ am_un 72000 20 ++ am_un 73000 20 ++ am_un 74000 20)
def se_X9_ticks_67 : List (List am_V) := ([[(some 1000000034, 0)], [(some 67007, 0)], [(some 67008, 0)]] ++ am_un 68000 40 ++ am_un 69000 40 ++ am_un 70000 40 ++ am_un 72000 20 ++ am_un 73000 20 ++ am_un 74000 20)
def se_X9_ticks_68 : List (List am_V) := ([[(some 1000000033, 0)], [(some 67007, 0)], [(some 67008, 0)]] ++ am_un 68000 40 ++ am_un 69000 40 ++ am_un 70000 40 ++ am_un 72000 20 ++ am_un 73000 20 ++ am_un 74000 20)
def se_X9_ticks_69 : List (List am_V) := ([[(some 1000000032, 0)], [(some 67007, 0)], [(some 67008, 0)]] ++ am_un 68000 40 ++ am_un 69000 40 ++ am_un 70000 40 ++ am_un 72000 20 ++ am_un 73000 20 ++ am_un 74000 20)
def se_X9_ticks_70 : List (List am_V) := ([[(some 1000000031, 0)], [(some 67007, 0)], [(some 67008, 0)]] ++ am_un 68000 40 ++ am_un 69000 40 ++ am_un 70000 40 ++ am_un 72000 20 ++ am_un 73000 20 ++ am_un 74000 20)
def se_X9_ticks_71 : List (List am_V) := ([[(some 1000000030, 0)], [(some 67007, 0)], [(some 67008, 0)]] ++ am_un 68000 40 ++ am_un 69000 40 ++ am_un 70000 40 ++ am_un 72000 20 ++ am_un 73000 20 ++ am_un 74000 20)
def se_X9_ticks_72 : List (List am_V) := ([[(some 1000000029, 0)], [(some 67007, 0)], [(some 67008, 0)]] ++ am_un 68000 40 ++ am_un 69000 40 ++ am_un 70000 40 ++ am_un 72000 20 ++ am_un 73000 20 ++ am_un 74000 20)
def se_X9_ticks_73 : List (List am_V) := ([[(some 1000000028, 0)], [(some 67007, 0)], [(some 67008, 0)]] ++ am_un 68000 40 ++ am_un 69000 40 ++ am_un 70000 40 ++ am_un 72000 20 ++ am_un 73000 20 ++ am_un 74000 20)
def se_X9_ticks_74 : List (List am_V) := ([[(some 1000000027, 0)], [(some 67007, 0)], [(some 67008, 0)]] ++ am_un 68000 40 ++ am_un 69000 40 ++ am_un 70000 40 ++ am_un 72000 20 ++ am_un 73000 20 ++ am_un 74000 20)
def se_X9_ticks_75 : List (List am_V) := ([[(some 1000000026, 0)], [(some 67007, 0)], [(some 67008, 0)]] ++ am_un 68000 40 ++ am_un 69000 40 ++ am_un 70000 40 ++ am_un 72000 20 ++ am_un 73000 20 ++ am_un 74000 20)
def se_X9_ticks_76 : List (List am_V) := ([[(some 1000000025, 0)], [(some 67007, 0)], [(some 67008, 0)]] ++ am_un 68000 40 ++ am_un 69000 40 ++ am_un 70000 40 ++ am_un 72000 20 ++ am_un 73000 20 ++ am_un 74000 20)
def se_X9_ticks_77 : List (List am_V) := ([[(some 1000000024, 0)], [(some 67007, 0)], [(some 67008, 0)]] ++ am_un 68000 40 ++ am_un 69000 40 ++ am_un 70000 40 ++ am_un 72000 20 ++ am_un 73000 20 ++ am_un 74000 20)
def se_X9_ticks_78 : List (List am_V) := ([[(some 1000000023, 0)], [(some 67007, 0)], [(some 67008, 0)]] ++ am_un 68000 40 ++ am_un 69000 40 ++ am_un 70000 40 ++ am_un 72000 20 ++ am_un 73000 20 ++ am_un 74000 20)
def se_X9_ticks_79 : List (List am_V) := ([[(some 1000000022, 0)], [(some 67007, 0)], [(some 67008, 0)]] ++ am_un 68000 40 ++ am_un 69000 40 ++ am_un 70000 40 ++ am_un 72000 20 ++ am_un 73000 20 ++ am_un 74000 20)
def se_X9_ticks_80 : List (List am_V) := ([[(some 1000000021, 0)], [(some 67007, 0)], [(some 67008, 0)]] ++ am_un 68000 40 ++ am_un 69000 40 ++ am_un 70000 40 ++ am_un 72000 20 ++ am_un 73000 20 ++ am_un 74000 20)
def se_X9_ticks_81 : List (List am_V) := ([[(some 1000000020, 0)], [(some 67007, 0)], [(some 67008, 0)]] ++ am_un 68000 40 ++ am_un 69000 40 ++ am_un 70000 40 ++ am_un 72000 20 ++ am_un 73000 20 ++ am_un 74000 20)
def se_X9_ticks_82 : List (List am_V) := ([[(some 1000000019, 0)], [(some 67007, 0)], [(some 67008, 0)]] ++ am_un 68000 40 ++ am_un 69000 40 ++ am_un 70000 40 ++ am_un 72000 20 ++ am_un 73000 20 ++ am_un 74000 20)
def se_X9_ticks_83 : List (List am_V) := ([[(some 1000000018, 0)], [(some 67007, 0)], [(some 67008, 0)]] ++ am_un 68000 40 ++ am_un 69000 40 ++ am_un 70000 40 ++ am_un 72000 20 ++ am_un 73000 20 ++ am_un 74000 20)
def se_X9_ticks_84 : List (List am_V) := ([[(some 1000000017, 0)], [(some 67007, 0)], [(some 67008, 0)]] ++ am_un 68000 40 ++ am_un 69000 40 ++ am_un 70000 40 ++ am_un 72000 20 ++ am_un 73000 20 ++ am_un 74000 20)
def se_X9_ticks_85 : List (List am_V) := ([[(some 1000000016, 0)], [(some 67007, 0)], [(some 67008, 0)]] ++ am_un 68000 40 ++ am_un 69000 40 ++ am_un 70000 40 ++ am_un 72000 20 ++ am_un 73000 20 ++ am_un 74000 20)
def se_X9_ticks_86 : List (List am_V) := ([[(some 1000000015, 0)], [(some 67007, 0)], [(some 67008, 0)]] ++ am_un 68000 40 ++ am_un 69000 40 ++ am_un 70000 40 ++ am_un 72000 20 ++ am_un 73000 20 ++ am_un 74000 20)
def se_X9_ticks_87 : List (List am_V) := ([[(some 1000000014, 0)], [(some 67007, 0)], [(some 67008, 0)]] ++ am_un 68000 40 ++ am_un 69000 40 ++ am_un 70000 40 ++ am_un 72000 20 ++ am_un 73000 20 ++ am_un 74000 20)
def se_X9_ticks_88 : List (List am_V) := ([[(some 1000000013, 0)], [(some 67007, 0)], [(some 67008, 0)]] ++ am_un 68000 40 ++ am_un 69000 40 ++ am_un 70000 40 ++ am_un 72000 20 ++ am_un 73000 20 ++ am_un 74000 20)
def se_X9_ticks_89 : List (List am_V) := ([[(some 1000000012, 0)], [(some 67007, 0)], [(some 67008, 0)]] ++ am_un 68000 40 ++ am_un 69000 40 ++ am_un 70000 40 ++ am_un 72000 20 ++ am_un 73000 20 ++ am_un 74000 20)
def se_X9_ticks_90 : List (List am_V) := ([[(some 1000000011, 0)], [(some 67007, 0)], [(some 67008, 0)]] ++ am_un 68000 40 ++ am_un 69000 40 ++ am_un 70000 40 ++ am_un 72000 20 ++ am_un 73000 20 ++ am_un 74000 20)
def se_X9_ticks_91 : List (List am_V) := ([[(some 1000000010, 0)], [(some 67007, 0)], [(some 67008, 0)]] ++ am_un 68000 40 ++ am_un 69000 40 ++ am_un 70000 40 ++ am_un 72000 20 ++ am_un 73000 20 ++ am_un 74000 20)
def se_X9_ticks_92 : List (List am_V) := ([[(some 1000000009, 0)], [(some 67007, 0)], [(some 67008, 0)]] ++ am_un 68000 40 ++ am_un 69000 40 ++ am_un 70000 40 ++ am_un 72000 20 ++ am_un 73000 20 ++ am_un 74000 20)
def se_X9_ticks_93 : List (List am_V) := ([[(some 1000000008, 0)], [(some 67007, 0)], [(some 67008, 0)]] ++ am_un 68000 40 ++ am_un 69000 40 ++ am_un 70000 40 ++ am_un 72000 20 ++ am_un 73000 20 ++ am_un 74000 20)
def se_X9_ticks_94 : List (List am_V) := ([[(some 1000000007, 0)], [(some 67007, 0)], [(some 67008, 0)]] ++ am_un 68000 40 ++ am_un 69000 40 ++ am_un 70000 40 ++ am_un 72000 20 ++ am_un 73000 20 ++ am_un 74000 20)
def se_X9_ticks_95 : List (List am_V) := ([[(some 1000000006, 0)], [(some 67007, 0)], [(some 67008, 0)]] ++ am_un 68000 40 ++ am_un 69000 40 ++ am_un 70000 40 ++ am_un 72000 20 ++ am_un 73000 20 ++ am_un 74000 20)
def se_X9_ticks_96 : List (List am_V) := ([[(some 1000000005, 0)], [(some 67007, 0)], [(some 67008, 0)]] ++ am_un 68000 40 ++ am_un 69000 40 ++ am_un 70000 40 ++ am_un 72000 20 ++ am_un 73000 20 ++ am_un 74000 20)
def se_X9_ticks_97 : List (List am_V) := ([[(some 1000000004, 0)], [(some 67007, 0)], [(some 67008, 0)]] ++ am_un 68000 40 ++ am_un 69000 40 ++ am_un 70000 40 ++ am_un 72000 20 ++ am_un 73000 20 ++ am_un 74000 20)
def se_X9_ticks_98 : List (List am_V) := ([[(some 1000000003, 0)], [(some 67007, 0)], [(some 67008, 0)]] ++ am_un 68000 40 ++ am_un 69000 40 ++ am_un 70000 40 ++ am_un 72000 20 ++ am_un 73000 20 ++ am_un 74000 20)
def se_X9_ticks_99 : List (List am_V) := ([[(some 1000000002, 0)], [(some 67007, 0)], [(some 67008, 0)]] ++ am_un 68000 40 ++ am_un 69000 40 ++ am_un 70000 40 ++ am_un 72000 20 ++ am_un 73000 20 ++ am_un 74000 20)
def se_X9_ticks_100 : List (List am_V) := ([[(some 1000000001, 0)], [(some 67007, 0)], [(some 67008, 0)]] ++ am_un 68000 40 ++ am_un 69000 40 ++ am_un 70000 40 ++ am_un 72000 20 ++ am_un 73000 20 ++ am_un 74000 20)
def sn_X9_ticks_0 : List am_N := [([((8, 1, 0), 101, 2147483647)], [(none, (-1000000001))], se_X9_ticks_0),
  ([((8, 1, 0), 1, 100), ((8, 1000000000, 0), 3001, 2147483647)], [(none, (-1000000004))], se_X9_ticks_0),
  ([((8, 1, 0), 100, 100), ((8, 1000000000, 0), (-2147483648), 3000)], [(some 1000000100, 0)], se_X9_ticks_1),
  ([((8, 1, 0), 99, 99), ((8, 1000000000, 0), (-2147483648), 3000)], [(some 1000000099, 0)], se_X9_ticks_2),
  ([((8, 1, 0), 98, 98), ((8, 1000000000, 0), (-2147483648), 3000)], [(some 1000000098, 0)], se_X9_ticks_3),
  ([((8, 1, 0), 97, 97), ((8, 1000000000, 0), (-2147483648), 3000)], [(some 1000000097, 0)], se_X9_ticks_4),
  ([((8, 1, 0), 96, 96), ((8, 1000000000, 0), (-2147483648), 3000)], [(some 1000000096, 0)], se_X9_ticks_5),
  ([((8, 1, 0), 95, 95), ((8, 1000000000, 0), (-2147483648), 3000)], [(some 1000000095, 0)], se_X9_ticks_6),
  ([((8, 1, 0), 94, 94), ((8, 1000000000, 0), (-2147483648), 3000)], [(some 1000000094, 0)], se_X9_ticks_7),
  ([((8, 1, 0), 93, 93), ((8, 1000000000, 0), (-2147483648), 3000)], [(some 1000000093, 0)], se_X9_ticks_8),
  ([((8, 1, 0), 92, 92), ((8, 1000000000, 0), (-2147483648), 3000)], [(some 1000000092, 0)], se_X9_ticks_9),
  ([((8, 1, 0), 91, 91), ((8, 1000000000, 0), (-2147483648), 3000)], [(some 1000000091, 0)], se_X9_ticks_10),
  ([((8, 1, 0), 90, 90), ((8, 1000000000, 0), (-2147483648), 3000)], [(some 1000000090, 0)], se_X9_ticks_11),
  ([((8, 1, 0), 89, 89), ((8, 1000000000, 0), (-2147483648), 3000)], [(some 1000000089, 0)], se_X9_ticks_12),
  ([((8, 1, 0), 88, 88), ((8, 1000000000, 0), (-2147483648), 3000)], [(some 1000000088, 0)], se_X9_ticks_13),
  ([((8, 1, 0), 87, 87), ((8, 1000000000, 0), (-2147483648), 3000)], [(some 1000000087, 0)], se_X9_ticks_14),
  ([((8, 1, 0), 86, 86), ((8, 1000000000, 0), (-2147483648), 3000)], [(some 1000000086, 0)], se_X9_ticks_15),
  ([((8, 1, 0), 85, 85), ((8, 1000000000, 0), (-2147483648), 3000)], [(some 1000000085, 0)], se_X9_ticks_16),
  ([((8, 1, 0), 84, 84), ((8, 1000000000, 0), (-2147483648), 3000)], [(some 1000000084, 0)], se_X9_ticks_17),
  ([((8, 1, 0), 83, 83), ((8, 1000000000, 0), (-2147483648), 3000)], [(some 1000000083, 0)], se_X9_ticks_18),
  ([((8, 1, 0), 82, 82), ((8, 1000000000, 0), (-2147483648), 3000)], [(some 1000000082, 0)], se_X9_ticks_19),
  ([((8, 1, 0), 81, 81), ((8, 1000000000, 0), (-2147483648), 3000)], [(some 1000000081, 0)], se_X9_ticks_20),
  ([((8, 1, 0), 80, 80), ((8, 1000000000, 0), (-2147483648), 3000)], [(some 1000000080, 0)], se_X9_ticks_21),
  ([((8, 1, 0), 79, 79), ((8, 1000000000, 0), (-2147483648), 3000)], [(some 1000000079, 0)], se_X9_ticks_22),
  ([((8, 1, 0), 78, 78), ((8, 1000000000, 0), (-2147483648), 3000)], [(some 1000000078, 0)], se_X9_ticks_23),
  ([((8, 1, 0), 77, 77), ((8, 1000000000, 0), (-2147483648), 3000)], [(some 1000000077, 0)], se_X9_ticks_24),
  ([((8, 1, 0), 76, 76), ((8, 1000000000, 0), (-2147483648), 3000)], [(some 1000000076, 0)], se_X9_ticks_25),
  ([((8, 1, 0), 75, 75), ((8, 1000000000, 0), (-2147483648), 3000)], [(some 1000000075, 0)], se_X9_ticks_26),
  ([((8, 1, 0), 74, 74), ((8, 1000000000, 0), (-2147483648), 3000)], [(some 1000000074, 0)], se_X9_ticks_27),
  ([((8, 1, 0), 73, 73), ((8, 1000000000, 0), (-2147483648), 3000)], [(some 1000000073, 0)], se_X9_ticks_28),
  ([((8, 1, 0), 72, 72), ((8, 1000000000, 0), (-2147483648), 3000)], [(some 1000000072, 0)], se_X9_ticks_29),
  ([((8, 1, 0), 71, 71), ((8, 1000000000, 0), (-2147483648), 3000)], [(some 1000000071, 0)], se_X9_ticks_30),
  ([((8, 1, 0), 70, 70), ((8, 1000000000, 0), (-2147483648), 3000)], [(some 1000000070, 0)], se_X9_ticks_31),
  ([((8, 1, 0), 69, 69), ((8, 1000000000, 0), (-2147483648), 3000)], [(some 1000000069, 0)], se_X9_ticks_32),
  ([((8, 1, 0), 68, 68), ((8, 1000000000, 0), (-2147483648), 3000)], [(some 1000000068, 0)], se_X9_ticks_33),
  ([((8, 1, 0), 67, 67), ((8, 1000000000, 0), (-2147483648), 3000)], [(some 1000000067, 0)], se_X9_ticks_34),
  ([((8, 1, 0), 66, 66), ((8, 1000000000, 0), (-2147483648), 3000)], [(some 1000000066, 0)], se_X9_ticks_35),
  ([((8, 1, 0), 65, 65), ((8, 1000000000, 0), (-2147483648), 3000)], [(some 1000000065, 0)], se_X9_ticks_36),
  ([((8, 1, 0), 64, 64), ((8, 1000000000, 0), (-2147483648), 3000)], [(some 1000000064, 0)], se_X9_ticks_37),
  ([((8, 1, 0), 63, 63), ((8, 1000000000, 0), (-2147483648), 3000)], [(some 1000000063, 0)], se_X9_ticks_38),
  ([((8, 1, 0), 62, 62), ((8, 1000000000, 0), (-2147483648), 3000)], [(some 1000000062, 0)], se_X9_ticks_39),
  ([((8, 1, 0), 61, 61), ((8, 1000000000, 0), (-2147483648), 3000)], [(some 1000000061, 0)], se_X9_ticks_40),
  ([((8, 1, 0), 60, 60), ((8, 1000000000, 0), (-2147483648), 3000)], [(some 1000000060, 0)], se_X9_ticks_41),
  ([((8, 1, 0), 59, 59), ((8, 1000000000, 0), (-2147483648), 3000)], [(some 1000000059, 0)], se_X9_ticks_42),
  ([((8, 1, 0), 58, 58), ((8, 1000000000, 0), (-2147483648), 3000)], [(some 1000000058, 0)], se_X9_ticks_43),
  ([((8, 1, 0), 57, 57), ((8, 1000000000, 0), (-2147483648), 3000)], [(some 1000000057, 0)], se_X9_ticks_44),
  ([((8, 1, 0), 56, 56), ((8, 1000000000, 0), (-2147483648), 3000)], [(some 1000000056, 0)], se_X9_ticks_45)]
def sn_X9_ticks_1 : List am_N := [([((8, 1, 0), 55, 55), ((8, 1000000000, 0), (-2147483648), 3000)], [(some 1000000055, 0)], se_X9_ticks_46),
  ([((8, 1, 0), 54, 54), ((8, 1000000000, 0), (-2147483648), 3000)], [(some 1000000054, 0)], se_X9_ticks_47),
  ([((8, 1, 0), 53, 53), ((8, 1000000000, 0), (-2147483648), 3000)], [(some 1000000053, 0)], se_X9_ticks_48),
  ([((8, 1, 0), 52, 52), ((8, 1000000000, 0), (-2147483648), 3000)], [(some 1000000052, 0)], se_X9_ticks_49),
  ([((8, 1, 0), 51, 51), ((8, 1000000000, 0), (-2147483648), 3000)], [(some 1000000051, 0)], se_X9_ticks_50),
  ([((8, 1, 0), 50, 50), ((8, 1000000000, 0), (-2147483648), 3000)], [(some 1000000050, 0)], se_X9_ticks_51),
  ([((8, 1, 0), 49, 49), ((8, 1000000000, 0), (-2147483648), 3000)], [(some 1000000049, 0)], se_X9_ticks_52),
  ([((8, 1, 0), 48, 48), ((8, 1000000000, 0), (-2147483648), 3000)], [(some 1000000048, 0)], se_X9_ticks_53),
  ([((8, 1, 0), 47, 47), ((8, 1000000000, 0), (-2147483648), 3000)], [(some 1000000047, 0)], se_X9_ticks_54),
  ([((8, 1, 0), 46, 46), ((8, 1000000000, 0), (-2147483648), 3000)], [(some 1000000046, 0)], se_X9_ticks_55),
  ([((8, 1, 0), 45, 45), ((8, 1000000000, 0), (-2147483648), 3000)], [(some 1000000045, 0)], se_X9_ticks_56),
  ([((8, 1, 0), 44, 44), ((8, 1000000000, 0), (-2147483648), 3000)], [(some 1000000044, 0)], se_X9_ticks_57),
  ([((8, 1, 0), 43, 43), ((8, 1000000000, 0), (-2147483648), 3000)], [(some 1000000043, 0)], se_X9_ticks_58),
  ([((8, 1, 0), 42, 42), ((8, 1000000000, 0), (-2147483648), 3000)], [(some 1000000042, 0)], se_X9_ticks_59),
  ([((8, 1, 0), 41, 41), ((8, 1000000000, 0), (-2147483648), 3000)], [(some 1000000041, 0)], se_X9_ticks_60),
  ([((8, 1, 0), 40, 40), ((8, 1000000000, 0), (-2147483648), 3000)], [(some 1000000040, 0)], se_X9_ticks_61),
  ([((8, 1, 0), 39, 39), ((8, 1000000000, 0), (-2147483648), 3000)], [(some 1000000039, 0)], se_X9_ticks_62),
  ([((8, 1, 0), 38, 38), ((8, 1000000000, 0), (-2147483648), 3000)], [(some 1000000038, 0)], se_X9_ticks_63),
  ([((8, 1, 0), 37, 37), ((8, 1000000000, 0), (-2147483648), 3000)], [(some 1000000037, 0)], se_X9_ticks_64),
  ([((8, 1, 0), 36, 36), ((8, 1000000000, 0), (-2147483648), 3000)], [(some 1000000036, 0)], se_X9_ticks_65),
  ([((8, 1, 0), 35, 35), ((8, 1000000000, 0), (-2147483648), 3000)], [(some 1000000035, 0)], se_X9_ticks_66),
  ([((8, 1, 0), 34, 34), ((8, 1000000000, 0), (-2147483648), 3000)], [(some 1000000034, 0)], se_X9_ticks_67),
  ([((8, 1, 0), 33, 33), ((8, 1000000000, 0), (-2147483648), 3000)], [(some 1000000033, 0)], se_X9_ticks_68),
  ([((8, 1, 0), 32, 32), ((8, 1000000000, 0), (-2147483648), 3000)], [(some 1000000032, 0)], se_X9_ticks_69),
  ([((8, 1, 0), 31, 31), ((8, 1000000000, 0), (-2147483648), 3000)], [(some 1000000031, 0)], se_X9_ticks_70),
  ([((8, 1, 0), 30, 30), ((8, 1000000000, 0), (-2147483648), 3000)], [(some 1000000030, 0)], se_X9_ticks_71),
  ([((8, 1, 0), 29, 29), ((8, 1000000000, 0), (-2147483648), 3000)], [(some 1000000029, 0)], se_X9_ticks_72),
  ([((8, 1, 0), 28, 28), ((8, 1000000000, 0), (-2147483648), 3000)], [(some 1000000028, 0)], se_X9_ticks_73),
  ([((8, 1, 0), 27, 27), ((8, 1000000000, 0), (-2147483648), 3000)], [(some 1000000027, 0)], se_X9_ticks_74),
  ([((8, 1, 0), 26, 26), ((8, 1000000000, 0), (-2147483648), 3000)], [(some 1000000026, 0)], se_X9_ticks_75),
  ([((8, 1, 0), 25, 25), ((8, 1000000000, 0), (-2147483648), 3000)], [(some 1000000025, 0)], se_X9_ticks_76),
  ([((8, 1, 0), 24, 24), ((8, 1000000000, 0), (-2147483648), 3000)], [(some 1000000024, 0)], se_X9_ticks_77),
  ([((8, 1, 0), 23, 23), ((8, 1000000000, 0), (-2147483648), 3000)], [(some 1000000023, 0)], se_X9_ticks_78),
  ([((8, 1, 0), 22, 22), ((8, 1000000000, 0), (-2147483648), 3000)], [(some 1000000022, 0)], se_X9_ticks_79),
  ([((8, 1, 0), 21, 21), ((8, 1000000000, 0), (-2147483648), 3000)], [(some 1000000021, 0)], se_X9_ticks_80),
  ([((8, 1, 0), 20, 20), ((8, 1000000000, 0), (-2147483648), 3000)], [(some 1000000020, 0)], se_X9_ticks_81),
  ([((8, 1, 0), 19, 19), ((8, 1000000000, 0), (-2147483648), 3000)], [(some 1000000019, 0)], se_X9_ticks_82),
  ([((8, 1, 0), 18, 18), ((8, 1000000000, 0), (-2147483648), 3000)], [(some 1000000018, 0)], se_X9_ticks_83),
  ([((8, 1, 0), 17, 17), ((8, 1000000000, 0), (-2147483648), 3000)], [(some 1000000017, 0)], se_X9_ticks_84),
  ([((8, 1, 0), 16, 16), ((8, 1000000000, 0), (-2147483648), 3000)], [(some 1000000016, 0)], se_X9_ticks_85),
  ([((8, 1, 0), 15, 15), ((8, 1000000000, 0), (-2147483648), 3000)], [(some 1000000015, 0)], se_X9_ticks_86),
  ([((8, 1, 0), 14, 14), ((8, 1000000000, 0), (-2147483648), 3000)], [(some 1000000014, 0)], se_X9_ticks_87),
  ([((8, 1, 0), 13, 13), ((8, 1000000000, 0), (-2147483648), 3000)], [(some 1000000013, 0)], se_X9_ticks_88),
  ([((8, 1, 0), 12, 12), ((8, 1000000000, 0), (-2147483648), 3000)], [(some 1000000012, 0)], se_X9_ticks_89),
  ([((8, 1, 0), 11, 11), ((8, 1000000000, 0), (-2147483648), 3000)], [(some 1000000011, 0)], se_X9_ticks_90),
  ([((8, 1, 0), 10, 10), ((8, 1000000000, 0), (-2147483648), 3000)], [(some 1000000010, 0)], se_X9_ticks_91),
  ([((8, 1, 0), 9, 9), ((8, 1000000000, 0), (-2147483648), 3000)], [(some 1000000009, 0)], se_X9_ticks_92)]
def sn_X9_ticks_2 : List am_N := [([((8, 1, 0), 8, 8), ((8, 1000000000, 0), (-2147483648), 3000)], [(some 1000000008, 0)], se_X9_ticks_93),
  ([((8, 1, 0), 7, 7), ((8, 1000000000, 0), (-2147483648), 3000)], [(some 1000000007, 0)], se_X9_ticks_94),
  ([((8, 1, 0), 6, 6), ((8, 1000000000, 0), (-2147483648), 3000)], [(some 1000000006, 0)], se_X9_ticks_95),
  ([((8, 1, 0), 5, 5), ((8, 1000000000, 0), (-2147483648), 3000)], [(some 1000000005, 0)], se_X9_ticks_96),
  ([((8, 1, 0), 4, 4), ((8, 1000000000, 0), (-2147483648), 3000)], [(some 1000000004, 0)], se_X9_ticks_97),
  ([((8, 1, 0), 3, 3), ((8, 1000000000, 0), (-2147483648), 3000)], [(some 1000000003, 0)], se_X9_ticks_98),
  ([((8, 1, 0), 2, 2), ((8, 1000000000, 0), (-2147483648), 3000)], [(some 1000000002, 0)], se_X9_ticks_99),
  ([((8, 1, 0), 1, 1), ((8, 1000000000, 0), (-2147483648), 3000)], [(some 1000000001, 0)], se_X9_ticks_100),
  ([((8, 1, 0), (-2147483648), 0)], [(none, (-1000000001))], se_X9_ticks_0)]
def sn_X9_ticks : List am_N := sn_X9_ticks_0 ++ sn_X9_ticks_1 ++ sn_X9_ticks_2
def se_X10_ticks_0 : List (List am_V) := ([[(some 7006, 0)], [(some 67007, 0)], [(some 67008, 0)]] ++ am_un 68000 40 ++ am_un 69000 40 ++ am_un 70000 40 ++ am_un 72000 20 ++ am_un 73000 20 ++ am_un 74000 20)
def se_X10_ticks_1 : List (List am_V) := ([[(some 1000000100, 0)], [(some 67007, 0)], [(some 67008, 0)]] ++ am_un 68000 40 ++ am_un 69000 40 ++ am_un 70000 40 ++ am_un 72000 20 ++ am_un 73000 20 ++ am_un 74000 20)
def se_X10_ticks_2 : List (List am_V) := ([[(some 1000000099, 0)], [(some 67007, 0)], [(some 67008, 0)]] ++ am_un 68000 40 ++ am_un 69000 40 ++ am_un 70000 40 ++ am_un 72000 20 ++ am_un 73000 20 ++ am_un 74000 20)
def se_X10_ticks_3 : List (List am_V) := ([[(some 1000000098, 0)], [(some 67007, 0)], [(some 67008, 0)]] ++ am_un 68000 40 ++ am_un 69000 40 ++ am_un 70000 40 ++ am_un 72000 20 ++ am_un 73000 20 ++ am_un 74000 20)
def se_X10_ticks_4 : List (List am_V) := ([[(some 1000000097, 0)], [(some 67007, 0)], [(some 67008, 0)]] ++ am_un 68000 40 ++ am_un 69000 40 ++ am_un 70000 40 ++ am_un 72000 20 ++ am_un 73000 20 ++ am_un 74000 20)
def se_X10_ticks_5 : List (List am_V) := ([[(some 1000000096, 0)], [(some 67007, 0)], [(some 67008, 0)]] ++ am_un 68000 40 ++ am_un 69000 40 ++ am_un 70000 40 ++ am_un 72000 20 ++ am_un 73000 20 ++ am_un 74000 20)
def se_X10_ticks_6 : List (List am_V) := ([[(some 1000000095, 0)], [(some 67007, 0)], [(some 67008, 0)]] ++ am_un 68000 40 ++ am_un 69000 40 ++ am_un 70000 40 ++ am_un 72000 20 ++ am_un 73000 20 ++ am_un 74000 20)
def se_X10_ticks_7 : List (List am_V) := ([[(some 1000000094, 0)], [(some 67007, 0)], [(some 67008, 0)]] ++ am_un 68000 40 ++ am_un 69000 40 ++ am_un 70000 40 ++ am_un 72000 20 ++ am_un 73000 20 ++ am_un 74000 20)
def se_X10_ticks_8 : List (List am_V) := ([[(some 1000000093, 0)], [(some 67007, 0)], [(some 67008, 0)]] ++ am_un 68000 40 ++ am_un 69000 40 ++ am_un 70000 40 ++ am_un 72000 20 ++ am_un 73000 20 ++ am_un 74000 20)
def se_X10_ticks_9 : List (List am_V) := ([[(some 1000000092, 0)], [(some 67007, 0)], [(some 67008, 0)]] ++ am_un 68000 40 ++ am_un 69000 40 ++ am_un 70000 40 ++ am_un 72000 20 ++ am_un 73000 20 ++ am_un 74000 20)
def se_X10_ticks_10 : List (List am_V) := ([[(some 1000000091, 0)], [(some 67007, 0)], [(some 67008, 0)]] ++ am_un 68000 40 ++ am_un 69000 40 ++ am_un 70000 40 ++ am_un 72000 20 ++ am_un 73000 20 ++ am_un 74000 20)
def se_X10_ticks_11 : List (List am_V) := ([[(some 1000000090, 0)], [(some 67007, 0)], [(some 67008, 0)]] ++ am_un 68000 40 ++ am_un 69000 40 ++ am_un 70000 40 ++ am_un 72000 20 ++ am_un 73000 20 ++ am_un 74000 20)
def se_X10_ticks_12 : List (List am_V) := ([[(some 1000000089, 0)], [(some 67007, 0)], [(some 67008, 0)]] ++ am_un 68000 40 ++ am_un 69000 40 ++ am_un 70000 40 ++ am_un 72000 20 ++ am_un 73000 20 ++ am_un 74000 20)
def se_X10_ticks_13 : List (List am_V) := ([[(some 1000000088, 0)], [(some 67007, 0)], [(some 67008, 0)]] ++ am_un 68000 40 ++ am_un 69000 40 ++ am_un 70000 40 ++ am_un 72000 20 ++ am_un 73000 20 ++ am_un 74000 20)
def se_X10_ticks_14 : List (List am_V) := ([[(some 1000000087, 0)], [(some 67007, 0)], [(some 67008, 0)]] ++ am_un 68000 40 ++ am_un 69000 40 ++ am_un 70000 40 ++ am_un 72000 20 ++ am_un 73000 20 ++ am_un 74000 20)
def se_X10_ticks_15 : List (List am_V) := ([[(some 1000000086, 0)], [(some 67007, 0)], [(some 67008, 0)]] ++ am_un 68000 40 ++ am_un 69000 40 ++ am_un 70000 40 ++ am_un 72000 20 ++ am_un 73000 20 ++ am_un 74000 20)
def se_X10_ticks_16 : List (List am_V) := ([[(some 1000000085, 0)], [(some 67007, 0)], [(some 67008, 0)]] ++ am_un 68000 40 ++ am_un 69000 40 ++ am_un 70000 40 ++ am_un 72000 20 ++ am_un 73000 20 ++ am_un 74000 20)
def se_X10_ticks_17 : List (List am_V) := ([[(some 1000000084, 0)], [(some 67007, 0)], [(some 67008, 0)]] ++ am_un 68000 40 ++ am_un 69000 40 ++ am_un 70000 40 ++ am_un 72000 20 ++ am_un 73000 20 ++ am_un 74000 20)
def se_X10_ticks_18 : List (List am_V) := ([[(some 1000000083, 0)], [(some 67007, 0)], [(some 67008, 0)]] ++ am_un 68000 40 ++ am_un 69000 40 ++ am_un 70000 40 ++ am_un 72000 20 ++ am_un 73000 20 ++ am_un 74000 20)
def se_X10_ticks_19 : List (List am_V) := ([[(some 1000000082, 0)], [(some 67007, 0)], [(some 67008, 0)]] ++ am_un 68000 40 ++ am_un 69000 40 ++ am_un 70000 40 ++ am_un 72000 20 ++ am_un 73000 20 ++ am_un 74000 20)
def se_X10_ticks_20 : List (List am_V) := ([[(some 1000000081, 0)], [(some 67007, 0)], [(some 67008, 0)]] ++ am_un 68000 40 ++ am_un 69000 40 ++ am_un 70000 40 ++ am_un 72000 20 ++ am_un 73000 20 ++ am_un 74000 20)
def se_X10_ticks_21 : List (List am_V) := ([[(some 1000000080, 0)], [(some 67007, 0)], [(some 67008, 0)]] ++ am_un 68000 40 ++ am_un 69000 40 ++ am_un 70000 40 ++ am_un 72000 20 ++ am_un 73000 20 ++ am_un 74000 20)
def se_X10_ticks_22 : List (List am_V) := ([[(some 1000000079, 0)], [(some 67007, 0)], [(some 67008, 0)]] ++ am_un 68000 40 ++ am_un 69000 40 ++ am_un 70000 40 ++ am_un 72000 20 ++ am_un 73000 20 ++ am_un 74000 20)
def se_X10_ticks_23 : List (List am_V) := ([[(some 1000000078, 0)], [(some 67007, 0)], [(some 67008, 0)]] ++ am_un 68000 40 ++ am_un 69000 40 ++ am_un 70000 40 ++ am_un 72000 20 ++ am_un 73000 20 ++ am_un 74000 20)
def se_X10_ticks_24 : List (List am_V) := ([[(some 1000000077, 0)], [(some 67007, 0)], [(some 67008, 0)]] ++ am_un 68000 40 ++ am_un 69000 40 ++ am_un 70000 40 ++ am_un 72000 20 ++ am_un 73000 20 ++ am_un 74000 20)
def se_X10_ticks_25 : List (List am_V) := ([[(some 1000000076, 0)], [(some 67007, 0)], [(some 67008, 0)]] ++ am_un 68000 40 ++ am_un 69000 40 ++ am_un 70000 40 ++ am_un 72000 20 ++ am_un 73000 20 ++ am_un 74000 20)
def se_X10_ticks_26 : List (List am_V) := ([[(some 1000000075, 0)], [(some 67007, 0)], [(some 67008, 0)]] ++ am_un 68000 40 ++ am_un 69000 40 ++ am_un 70000 40 ++ am_un 72000 20 ++ am_un 73000 20 ++ am_un 74000 20)
def se_X10_ticks_27 : List (List am_V) := ([[(some 1000000074, 0)], [(some 67007, 0)], [(some 67008, 0)]] ++ am_un 68000 40 ++ am_un 69000 40 ++ am_un 70000 40 ++ am_un 72000 20 ++ am_un 73000 20 ++ am_un 74000 20)
def se_X10_ticks_28 : List (List am_V) := ([[(some 1000000073, 0)], [(some 67007, 0)], [(some 67008, 0)]] ++ am_un 68000 40 ++ am_un 69000 40 ++ am_un 70000 40 ++ am_un 72000 20 ++ am_un 73000 20 ++ am_un 74000 20)
def se_X10_ticks_29 : List (List am_V) := ([[(some 1000000072, 0)], [(some 67007, 0)], [(some 67008, 0)]] ++ am_un 68000 40 ++ am_un 69000 40 ++ am_un 70000 40 ++ am_un 72000 20 ++ am_un 73000 20 ++ am_un 74000 20)
def se_X10_ticks_30 : List (List am_V) := ([[(some 1000000071, 0)], [(some 67007, 0)], [(some 67008, 0)]] ++ am_un 68000 40 ++ am_un 69000 40 ++ am_un 70000 40 ++ am_un 72000 20 ++ am_un 73000 20 ++ am_un 74000 20)
def se_X10_ticks_31 : List (List am_V) := ([[(some 1000000070, 0)], [(some 67007, 0)], [(some 67008, 0)]] ++ am_un 68000 40 ++ am_un 69000 40 ++ am_un 70000 40 ++ am_un 72000 20 ++ am_un 73000 20 ++ am_un 74000 20)
def se_X10_ticks_32 : List (List am_V) := ([[(some 1000000069, 0)], [(some 67007, 0)], [(some 67008, 0)]] ++ am_un 68000 40 ++ am_un 69000 40 ++ am_un 70000 40 ++ am_un 72000 20 ++ am_un 73000 20 ++ am_un 74000 20)
def se_X10_ticks_33 : List (List am_V) := ([[(some 1000000068, 0)], [(some 67007, 0)], [(some 67008, 0)]] ++ am_un 68000 40 ++ am_un 69000 40 ++ am_un 70000 40 ++ am_un 72000 20 ++ am_un 73000 20 ++ am_un 74000 20)
def se_X10_ticks_34 : List (List am_V) := ([[(some 1000000067, 0)], [(some 67007, 0)], [(some 67008, 0)]] ++ am_un 68000 40 ++ am_un 69000 40 ++ am_un 70000 40 ++ am_un 72000 20 ++ am_un 73000 20 ++ am_un 74000 20)
def se_X10_ticks_35 : List (List am_V) := ([[(some 1000000066, 0)], [(some 67007, 0)], [(some 67008, 0)]] ++ am_un 68000 40 ++ am_un 69000 40 ++ am_un 70000 40 ++ am_un 72000 20 ++ am_un 73000 20 ++ am_un 74000 20)
def se_X10_ticks_36 : List (List am_V) := ([[(some 1000000065, 0)], [(some 67007, 0)], [(some 67008, 0)]] ++ am_un 68000 40 ++ am_un 69000 40 ++ am_un 70000 40 ++ am_un 72000 20 ++ am_un 73000 20 ++ am_un 74000 20)
def se_X10_ticks_37 : List (List am_V) := ([[(some 1000000064, 0)], [(some 67007, 0)], [(some 67008, 0)]] ++ am_un 68000 40 ++ am_un 69000 40 ++ am_un 70000 40 ++ am_un 72000 20 ++ am_un 73000 20 ++ am_un 74000 20)
def se_X10_ticks_38 : List (List am_V) := ([[(some 1000000063, 0)], [(some 67007, 0)], [(some 67008, 0)]] ++ am_un 68000 40 ++ am_un 69000 40 ++ am_un 70000 40 ++ am_un 72000 20 ++ am_un 73000 20 ++ am_un 74000 20)
def se_X10_ticks_39 : List (List am_V) := ([[(some 1000000062, 0)], [(some 67007, 0)], [(some 67008, 0)]] ++ am_un 68000 40 ++ am_un 69000 40 ++ am_un 70000 40 ++ am_un 72000 20 ++ am_un 73000 20 ++ am_un 74000 20)
def se_X10_ticks_40 : List (List am_V) := ([[(some 1000000061, 0)], [(some 67007, 0)], [(some 67008, 0)]] ++ am_un 68000 40 ++ am_un 69000 40 ++ am_un 70000 40 ++ am_un 72000 20 ++ am_un 73000 20 ++ am_un 74000 20)
def se_X10_ticks_41 : List (List am_V) := ([[(some 1000000060, 0)], [(some 67007, 0)], [(some 67008, 0)]] ++ am_un 68000 40 ++ am_un 69000 40 ++ am_un 70000 40 ++ am_un 72000 20 ++ am_un 73000 20 ++ am_un 74000 20)
def se_X10_ticks_42 : List (List am_V) := ([[(some 1000000059, 0)], [(some 67007, 0)], [(some 67008, 0)]] ++ am_un 68000 40 ++ am_un 69000 40 ++ am_un 70000 40 ++ am_un 72000 20 ++ am_un 73000 20 ++ am_un 74000 20)
def se_X10_ticks_43 : List (List am_V) := ([[(some 1000000058, 0)], [(some 67007, 0)], [(some 67008, 0)]] ++ am_un 68000 40 ++ am_un 69000 40 ++ am_un 70000 40 ++ am_un 72000 20 ++ am_un 73000 20 ++ am_un 74000 20)
def se_X10_ticks_44 : List (List am_V) := ([[(some 1000000057, 0)], [(some 67007, 0)], [(some 67008, 0)]] ++ am_un 68000 40 ++ am_un 69000 40 ++ am_un 70000 40 ++ am_un 72000 20 ++ am_un 73000 20 ++ am_un 74000 20)
def se_X10_ticks_45 : List (List am_V) := ([[(some 1000000056, 0)], [(some 67007, 0)], [(some 67008, 0)]] ++ am_un 68000 40 ++ am_un 69000 40 ++ am_un 70000 40 ++ am_un 72000 20 ++ am_un 73000 20 ++ am_un 74000 20)
def se_X10_ticks_46 : List (List am_V) := ([[(some 1000000055, 0)], [(some 67007, 0)], [(some 67008, 0)]] ++ am_un 68000 40 ++ am_un 69000 40 ++ am_un 70000 40 ++ am_un 72000 20 ++ am_un 73000 20 ++ am_un 74000 20)
def se_X10_ticks_47 : List (List am_V) := ([[(some 1000000054, 0)], [(some 67007, 0)], [(some 67008, 0)]] ++ am_un 68000 40 ++ am_un 69000 40 ++ am_un 70000 40 ++ am_un 72000 20 ++ am_un 73000 20 ++ am_un 74000 20)
def se_X10_ticks_48 : List (List am_V) := ([[(some 1000000053, 0)], [(some 67007, 0)], [(some 67008, 0)]] ++ am_un 68000 40 ++ am_un 69000 40 ++ am_un 70000 40 ++ am_un 72000 20 ++ am_un 73000 20 ++ am_un 74000 20)
def se_X10_ticks_49 : List (List am_V) := ([[(some 1000000052, 0)], [(some 67007, 0)], [(some 67008, 0)]] ++ am_un 68000 40 ++ am_un 69000 40 ++ am_un 70000 40 ++ am_un 72000 20 ++ am_un 73000 20 ++ am_un 74000 20)
def se_X10_ticks_50 : List (List am_V) := ([[(some 1000000051, 0)], [(some 67007, 0)], [(some 67008, 0)]] ++ am_un 68000 40 ++ am_un 69000 40 ++ am_un 70000 40 ++ am_un 72000 20 ++ am_un 73000 20 ++ am_un 74000 20)
def se_X10_ticks_51 : List (List am_V) := ([[(some 1000000050, 0)], [(some 67007, 0)], [(some 67008, 0)]] ++ am_un 68000 40 ++ am_un 69000 40 ++ am_un 70000 40 ++ am_un 72000 20 ++ am_un 73000 20 ++ am_un 74000 20)
def se_X10_ticks_52 : List (List am_V) := ([[(some 1000000049, 0)], [(some 67007, 0)], [(some 67008, 0)]] ++ am_un 68000 40 ++ am_un 69000 40 ++ am_un 70000 40 ++ am_un 72000 20 ++ am_un 73000 20 ++ am_un 74000 20)
def se_X10_ticks_53 : List (List am_V) := ([[(some 1000000048, 0)], [(some 67007, 0)], [(some 67008, 0)]] ++ am_un 68000 40 ++ am_un 69000 40 ++ am_un 70000 40 ++ am_un 72000 20 ++ am_un 73000 20 ++ am_un 74000 20)
def se_X10_ticks_54 : List (List am_V) := ([[(some 1000000047, 0)], [(some 67007, 0)], [(some 67008, 0)]] ++ am_un 68000 40 ++ am_un 69000 40 ++ am_un 70000 40 ++ am_un 72000 20 ++ am_un 73000 20 ++ am_un 74000 20)
def se_X10_ticks_55 : List (List am_V) := ([[(some 1000000046, 0)], [(some 67007, 0)], [(some 67008, 0)]] ++ am_un 68000 40 ++ am_un 69000 40 ++ am_un 70000 40 ++ am_un 72000 20 ++ am_un 73000 20 ++ am_un 74000 20)
def se_X10_ticks_56 : List (List am_V) := ([[(some 1000000045, 0)], [(some 67007, 0)], [(some 67008, 0)]] ++ am_un 68000 40 ++ am_un 69000 40 ++ am_un 70000 40 ++ am_un 72000 20 ++ am_un 73000 20 ++ am_un 74000 20)
def se_X10_ticks_57 : List (List am_V) := ([[(some 1000000044, 0)], [(some 67007, 0)], [(some 67008, 0)]] ++ am_un 68000 40 ++ am_un 69000 40 ++ am_un 70000 40 ++ am_un 72000 20 ++ am_un 73000 20 ++ am_un 74000 20)
def se_X10_ticks_58 : List (List am_V) := ([[(some 1000000043, 0)], [(some 67007, 0)], [(some 67008, 0)]] ++ am_un 68000 40 ++ am_un 69000 40 ++ am_un 70000 40 ++ am_un 72000 20 ++ am_un 73000 20 ++ am_un 74000 20)
def se_X10_ticks_59 : List (List am_V) := ([[(some 1000000042, 0)], [(some 67007, 0)], [(some 67008, 0)]] ++ am_un 68000 40 ++ am_un 69000 40 ++ am_un 70000 40 ++ am_un 72000 20 ++ am_un 73000 20 ++ am_un 74000 20)
def se_X10_ticks_60 : List (List am_V) := ([[(some 1000000041, 0)], [(some 67007, 0)], [(some 67008, 0)]] ++ am_un 68000 40 ++ am_un 69000 40 ++ am_un 70000 40 ++ am_un 72000 20 ++ am_un 73000 20 ++ am_un 74000 20)
def se_X10_ticks_61 : List (List am_V) := ([[(some 1000000040, 0)], [(some 67007, 0)], [(some 67008, 0)]] ++ am_un 68000 40 ++ am_un 69000 40 ++ am_un 70000 40 ++ am_un 72000 20 ++ am_un 73000 20 ++ am_un 74000 20)
def se_X10_ticks_62 : List (List am_V) := ([[(some 1000000039, 0)], [(some 67007, 0)], [(some 67008, 0)]] ++ am_un 68000 40 ++ am_un 69000 40 ++ am_un 70000 40 ++ am_un 72000 20 ++ am_un 73000 20 ++ am_un 74000 20)
def se_X10_ticks_63 : List (List am_V) := ([[(some 1000000038, 0)], [(some 67007, 0)], [(some 67008, 0)]] ++ am_un 68000 40 ++ am_un 69000 40 ++ am_un 70000 40 ++ am_un 72000 20 ++ am_un 73000 20 ++ am_un 74000 20)
def se_X10_ticks_64 : List (List am_V) := ([[(some 1000000037, 0)], [(some 67007, 0)], [(some 67008, 0)]] ++ am_un 68000 40 ++ am_un 69000 40 ++ am_un 70000 40 ++ am_un 72000 20 ++ am_un 73000 20 ++ am_un 74000 20)
def se_X10_ticks_65 : List (List am_V) := ([[(some 1000000036, 0)], [(some 67007, 0)], [(some 67008, 0)]] ++ am_un 68000 40 ++ am_un 69000 40 ++ am_un 70000 40 ++ am_un 72000 20 ++ am_un 73000 20 ++ am_un 74000 20)
def se_X10_ticks_66 : List (List am_V) := ([[(some 1000000035, 0)], [(some 67007, 0)], [(some 67008, 0)]] ++ am_un 68000 40 ++ am_un 69000 40 ++ am_un 70000 40 ++ am_un 72000 20 ++ am_un 73000 20 ++ am_un 74000 20)
def se_X10_ticks_67 : List (List am_V) := ([[(some 1000000034, 0)], [(some 67007, 0)], [(some 67008, 0)]] ++ am_un 68000 40 ++ am_un 69000 40 ++ am_un 70000 40 ++ am_un 72000 20 ++ am_un 73000 20 ++ am_un 74000 20)
def se_X10_ticks_68 : List (List am_V) := ([[(some 1000000033, 0)], [(some 67007, 0)], [(some 67008, 0)]] ++ am_un 68000 40 ++ am_un 69000 40 ++ am_un 70000 40 ++ am_un 72000 20 ++ am_un 73000 20 ++ am_un 74000 20)
def se_X10_ticks_69 : List (List am_V) := ([[(some 1000000032, 0)], [(some 67007, 0)], [(some 67008, 0)]] ++ am_un 68000 40 ++ am_un 69000 40 ++ am_un 70000 40 ++ am_un 72000 20 ++ am_un 73000 20 ++ am_un 74000 20)
def se_X10_ticks_70 : List (List am_V) := ([[(some 1000000031, 0)], [(some 67007, 0)], [(some 67008, 0)]] ++ am_un 68000 40 ++ am_un 69000 40 ++ am_un 70000 40 ++ am_un 72000 20 ++ am_un 73000 20 ++ am_un 74000 20)
def se_X10_ticks_71 : List (List am_V) := ([[(some 1000000030, 0)], [(some 67007, 0)], [(some 67008, 0)]] ++ am_un 68000 40 ++ am_un 69000 40 ++ am_un 70000 40 ++ am_un 72000 20 ++ am_un 73000 20 ++ am_un 74000 20)
def se_X10_ticks_72 : List (List am_V) := ([[(some 1000000029, 0)], [(some 67007, 0)], [(some 67008, 0)]] ++ am_un 68000 40 ++ am_un 69000 40 ++ am_un 70000 40 ++ am_un 72000 20 ++ am_un 73000 20 ++ am_un 74000 20)
def se_X10_ticks_73 : List (List am_V) := ([[(some 1000000028, 0)], [(some 67007, 0)], [(some 67008, 0)]] ++ am_un 68000 40 ++ am_un 69000 40 ++ am_un 70000 40 ++ am_un 72000 20 ++ am_un 73000 20 ++ am_un 74000 20)
def se_X10_ticks_74 : List (List am_V) := ([[(some 1000000027, 0)], [(some 67007, 0)], [(some 67008, 0)]] ++ am_un 68000 40 ++ am_un 69000 40 ++ am_un 70000 40 ++ am_un 72000 20 ++ am_un 73000 20 ++ am_un 74000 20)
def se_X10_ticks_75 : List (List am_V) := ([[(some 1000000026, 0)], [(some 67007, 0)], [(some 67008, 0)]] ++ am_un 68000 40 ++ am_un 69000 40 ++ am_un 70000 40 ++ am_un 72000 20 ++ am_un 73000 20 ++ am_un 74000 20)
def se_X10_ticks_76 : List (List am_V) := ([[(some 1000000025, 0)], [(some 67007, 0)], [(some 67008, 0)]] ++ am_un 68000 40 ++ am_un 69000 40 ++ am_un 70000 40 ++ am_un 72000 20 ++ am_un 73000 20 ++ am_un 74000 20)
def se_X10_ticks_77 : List (List am_V) := ([[(some 1000000024, 0)], [(some 67007, 0)], [(some 67008, 0)]] ++ am_un 68000 40 ++ am_un 69000 40 ++ am_un 70000 40 ++ am_un 72000 20 ++ am_un 73000 20 ++ am_un 74000 20)
def se_X10_ticks_78 : List (List am_V) := ([[(some 1000000023, 0)], [(some 67007, 0)], [(some 67008, 0)]] ++ am_un 68000 40 ++ am_un 69000 40 ++ am_un 70000 40 ++ am_un 72000 20 ++ am_un 73000 20 ++ am_un 74000 20)
def se_X10_ticks_79 : List (List am_V) := ([[(some 1000000022, 0)], [(some 67007, 0)], [(some 67008, 0)]] ++ am_un 68000 40 ++ am_un 69000 40 ++ am_un 70000 40 ++ am_un 72000 20 ++ am_un 73000 20 ++ am_un 74000 20)
def se_X10_ticks_80 : List (List am_V) := ([[(some 1000000021, 0)], [(some 67007, 0)], [(some 67008, 0)]] ++ am_un 68000 40 ++ am_un 69000 40 ++ am_un 70000 40 ++ am_un 72000 20 ++ am_un 73000 20 ++ am_un 74000 20)
def se_X10_ticks_81 : List (List am_V) := ([[(some 1000000020, 0)], [(some 67007, 0)], [(some 67008, 0)]] ++ am_un 68000 40 ++ am_un 69000 40 ++ am_un 70000 40 ++ am_un 72000 20 ++ am_un 73000 20 ++ am_un 74000 20)
def se_X10_ticks_82 : List (List am_V) := ([[(some 1000000019, 0)], [(some 67007, 0)], [(some 67008, 0)]] ++ am_un 68000 40 ++ am_un 69000 40 ++ am_un 70000 40 ++ am_un 72000 20 ++ am_un 73000 20 ++ am_un 74000 20)
def se_X10_ticks_83 : List (List am_V) := ([[(some 1000000018, 0)], [(some 67007, 0)], [(some 67008, 0)]] ++ am_un 68000 40 ++ am_un 69000 40 ++ am_un 70000 40 ++ am_un 72000 20 ++ am_un 73000 20 ++ am_un 74000 20)
def se_X10_ticks_84 : List (List am_V) := ([[(some 1000000017, 0)], [(some 67007, 0)], [(some 67008, 0)]] ++ am_un 68000 40 ++ am_un 69000 40 ++ am_un 70000 40 ++ am_un 72000 20 ++ am_un 73000 20 ++ am_un 74000 20)
def se_X10_ticks_85 : List (List am_V) := ([[(some 1000000016, 0)], [(some 67007, 0)], [(some 67008, 0)]] ++ am_un 68000 40 ++ am_un 69000 40 ++ am_un 70000 40 ++ am_un 72000 20 ++ am_un 73000 20 ++ am_un 74000 20)
def se_X10_ticks_86 : List (List am_V) := ([[(some 1000000015, 0)], [(some 67007, 0)], [(some 67008, 0)]] ++ am_un 68000 40 ++ am_un 69000 40 ++ am_un 70000 40 ++ am_un 72000 20 ++ am_un 73000 20 ++ am_un 74000 20)
def se_X10_ticks_87 : List (List am_V) := ([[(some 1000000014, 0)], [(some 67007, 0)], [(some 67008, 0)]] ++ am_un 68000 40 ++ am_un 69000 40 ++ am_un 70000 40 ++ am_un 72000 20 ++ am_un 73000 20 ++ am_un 74000 20)
def se_X10_ticks_88 : List (List am_V) := ([[(some 1000000013, 0)], [(some 67007, 0)], [(some 67008, 0)]] ++ am_un 68000 40 ++ am_un 69000 40 ++ am_un 70000 40 ++ am_un 72000 20 ++ am_un 73000 20 ++ am_un 74000 20)
def se_X10_ticks_89 : List (List am_V) := ([[(some 1000000012, 0)], [(some 67007, 0)], [(some 67008, 0)]] ++ am_un 68000 40 ++ am_un 69000 40 ++ am_un 70000 40 ++ am_un 72000 20 ++ am_un 73000 20 ++ am_un 74000 20)
def se_X10_ticks_90 : List (List am_V) := ([[(some 1000000011, 0)], [(some 67007, 0)], [(some 67008, 0)]] ++ am_un 68000 40 ++ am_un 69000 40 ++ am_un 70000 40 ++ am_un 72000 20 ++ am_un 73000 20 ++ am_un 74000 20)
def se_X10_ticks_91 : List (List am_V) := ([[(some 1000000010, 0)], [(some 67007, 0)], [(some 67008, 0)]] ++ am_un 68000 40 ++ am_un 69000 40 ++ am_un 70000 40 ++ am_un 72000 20 ++ am_un 73000 20 ++ am_un 74000 20)
def se_X10_ticks_92 : List (List am_V) := ([[(some 1000000009, 0)], [(some 67007, 0)], [(some 67008, 0)]] ++ am_un 68000 40 ++ am_un 69000 40 ++ am_un 70000 40 ++ am_un 72000 20 ++ am_un 73000 20 ++ am_un 74000 20)
def se_X10_ticks_93 : List (List am_V) := ([[(some 1000000008, 0)], [(some 67007, 0)], [(some 67008, 0)]] ++ am_un 68000 40 ++ am_un 69000 40 ++ am_un 70000 40 ++ am_un 72000 20 ++ am_un 73000 20 ++ am_un 74000 20)
def se_X10_ticks_94 : List (List am_V) := ([[(some 1000000007, 0)], [(some 67007, 0)], [(some 67008, 0)]] ++ am_un 68000 40 ++ am_un 69000 40 ++ am_un 70000 40 ++ am_un 72000 20 ++ am_un 73000 20 ++ am_un 74000 20)
def se_X10_ticks_95 : List (List am_V) := ([[(some 1000000006, 0)], [(some 67007, 0)], [(some 67008, 0)]] ++ am_un 68000 40 ++ am_un 69000 40 ++ am_un 70000 40 ++ am_un 72000 20 ++ am_un 73000 20 ++ am_un 74000 20)
def se_X10_ticks_96 : List (List am_V) := ([[(some 1000000005, 0)], [(some 67007, 0)], [(some 67008, 0)]] ++ am_un 68000 40 ++ am_un 69000 40 ++ am_un 70000 40 ++ am_un 72000 20 ++ am_un 73000 20 ++ am_un 74000 20)
def se_X10_ticks_97 : List (List am_V) := ([[(some 1000000004, 0)], [(some 67007, 0)], [(some 67008, 0)]] ++ am_un 68000 40 ++ am_un 69000 40 ++ am_un 70000 40 ++ am_un 72000 20 ++ am_un 73000 20 ++ am_un 74000 20)
def se_X10_ticks_98 : List (List am_V) := ([[(some 1000000003, 0)], [(some 67007, 0)], [(some 67008, 0)]] ++ am_un 68000 40 ++ am_un 69000 40 ++ am_un 70000 40 ++ am_un 72000 20 ++ am_un 73000 20 ++ am_un 74000 20)
def se_X10_ticks_99 : List (List am_V) := ([[(some 1000000002, 0)], [(some 67007, 0)], [(some 67008, 0)]] ++ am_un 68000 40 ++ am_un 69000 40 ++ am_un 70000 40 ++ am_un 72000 20 ++ am_un 73000 20 ++ am_un 74000 20)
def se_X10_ticks_100 : List (List am_V) := ([[(some 1000000001, 0)], [(some 67007, 0)], [(some 67008, 0)]] ++ am_un 68000 40 ++ am_un 69000 40 ++ am_un 70000 40 ++ am_un 72000 20 ++ am_un 73000 20 ++ am_un 74000 20)
def sn_X10_ticks_0 : List am_N := [([((8, 1, 0), (-2147483648), 0)], [(none, (-1000000001))], se_X10_ticks_0),
  ([((8, 1, 0), 101, 2147483647)], [(none, (-1000000001))], se_X10_ticks_0),
  ([((8, 1, 0), 1, 100), ((8, 1000000000, 0), 3001, 2147483647)], [(none, (-1000000004))], se_X10_ticks_0),
  ([((8, 1, 0), 100, 100), ((8, 1000000000, 0), (-2147483648), 3000)], [(some 1000000100, 0)], se_X10_ticks_1),
  ([((8, 1, 0), 99, 99), ((8, 1000000000, 0), (-2147483648), 3000)], [(some 1000000099, 0)], se_X10_ticks_2),
  ([((8, 1, 0), 98, 98), ((8, 1000000000, 0), (-2147483648), 3000)], [(some 1000000098, 0)], se_X10_ticks_3),
  ([((8, 1, 0), 97, 97), ((8, 1000000000, 0), (-2147483648), 3000)], [(some 1000000097, 0)], se_X10_ticks_4),
  ([((8, 1, 0), 96, 96), ((8, 1000000000, 0), (-2147483648), 3000)], [(some 1000000096, 0)], se_X10_ticks_5),
  ([((8, 1, 0), 95, 95), ((8, 1000000000, 0), (-2147483648), 3000)], [(some 1000000095, 0)], se_X10_ticks_6),
  ([((8, 1, 0), 94, 94), ((8, 1000000000, 0), (-2147483648), 3000)], [(some 1000000094, 0)], se_X10_ticks_7),
  ([((8, 1, 0), 93, 93), ((8, 1000000000, 0), (-2147483648), 3000)], [(some 1000000093, 0)], se_X10_ticks_8),
  ([((8, 1, 0), 92, 92), ((8, 1000000000, 0), (-2147483648), 3000)], [(some 1000000092, 0)], se_X10_ticks_9),
  ([((8, 1, 0), 91, 91), ((8, 1000000000, 0), (-2147483648), 3000)], [(some 1000000091, 0)], se_X10_ticks_10),
  ([((8, 1, 0), 90, 90), ((8, 1000000000, 0), (-2147483648), 3000)], [(some 1000000090, 0)], se_X10_ticks_11),
  ([((8, 1, 0), 89, 89), ((8, 1000000000, 0), (-2147483648), 3000)], [(some 1000000089, 0)], se_X10_ticks_12),
  ([((8, 1, 0), 88, 88), ((8, 1000000000, 0), (-2147483648), 3000)], [(some 1000000088, 0)], se_X10_ticks_13),
  ([((8, 1, 0), 87, 87), ((8, 1000000000, 0), (-2147483648), 3000)], [(some 1000000087, 0)], se_X10_ticks_14),
  ([((8, 1, 0), 86, 86), ((8, 1000000000, 0), (-2147483648), 3000)], [(some 1000000086, 0)], se_X10_ticks_15),
  ([((8, 1, 0), 85, 85), ((8, 1000000000, 0), (-2147483648), 3000)], [(some 1000000085, 0)], se_X10_ticks_16),
  ([((8, 1, 0), 84, 84), ((8, 1000000000, 0), (-2147483648), 3000)], [(some 1000000084, 0)], se_X10_ticks_17),
  ([((8, 1, 0), 83, 83), ((8, 1000000000, 0), (-2147483648), 3000)], [(some 1000000083, 0)], se_X10_ticks_18),
  ([((8, 1, 0), 82, 82), ((8, 1000000000, 0), (-2147483648), 3000)], [(some 1000000082, 0)], se_X10_ticks_19),
  ([((8, 1, 0), 81, 81), ((8, 1000000000, 0), (-2147483648), 3000)], [(some 1000000081, 0)], se_X10_ticks_20),
  ([((8, 1, 0), 80, 80), ((8, 1000000000, 0), (-2147483648), 3000)], [(some 1000000080, 0)], se_X10_ticks_21),
  ([((8, 1, 0), 79, 79), ((8, 1000000000, 0), (-2147483648), 3000)], [(some 1000000079, 0)], se_X10_ticks_22),
  ([((8, 1, 0), 78, 78), ((8, 1000000000, 0), (-2147483648), 3000)], [(some 1000000078, 0)], se_X10_ticks_23),
  ([((8, 1, 0), 77, 77), ((8, 1000000000, 0), (-2147483648), 3000)], [(some 1000000077, 0)], se_X10_ticks_24),
  ([((8, 1, 0), 76, 76), ((8, 1000000000, 0), (-2147483648), 3000)], [(some 1000000076, 0)], se_X10_ticks_25),
  ([((8, 1, 0), 75, 75), ((8, 1000000000, 0), (-2147483648), 3000)], [(some 1000000075, 0)], se_X10_ticks_26),
  ([((8, 1, 0), 74, 74), ((8, 1000000000, 0), (-2147483648), 3000)], [(some 1000000074, 0)], se_X10_ticks_27),
  ([((8, 1, 0), 73, 73), ((8, 1000000000, 0), (-2147483648), 3000)], [(some 1000000073, 0)], se_X10_ticks_28),
  ([((8, 1, 0), 72, 72), ((8, 1000000000, 0), (-2147483648), 3000)], [(some 1000000072, 0)], se_X10_ticks_29),
  ([((8, 1, 0), 71, 71), ((8, 1000000000, 0), (-2147483648), 3000)], [(some 1000000071, 0)], se_X10_ticks_30),
  ([((8, 1, 0), 70, 70), ((8, 1000000000, 0), (-2147483648), 3000)], [(some 1000000070, 0)], se_X10_ticks_31),
  ([((8, 1, 0), 69, 69), ((8, 1000000000, 0), (-2147483648), 3000)], [(some 1000000069, 0)], se_X10_ticks_32),
  ([((8, 1, 0), 68, 68), ((8, 1000000000, 0), (-2147483648), 3000)], [(some 1000000068, 0)], se_X10_ticks_33),
  ([((8, 1, 0), 67, 67), ((8, 1000000000, 0), (-2147483648), 3000)], [(some 1000000067, 0)], se_X10_ticks_34),
  ([((8, 1, 0), 66, 66), ((8, 1000000000, 0), (-2147483648), 3000)], [(some 1000000066, 0)], se_X10_ticks_35),
  ([((8, 1, 0), 65, 65), ((8, 1000000000, 0), (-2147483648), 3000)], [(some 1000000065, 0)], se_X10_ticks_36),
  ([((8, 1, 0), 64, 64), ((8, 1000000000, 0), (-2147483648), 3000)], [(some 1000000064, 0)], se_X10_ticks_37),
  ([((8, 1, 0), 63, 63), ((8, 1000000000, 0), (-2147483648), 3000)], [(some 1000000063, 0)], se_X10_ticks_38),
  ([((8, 1, 0), 62, 62), ((8, 1000000000, 0), (-2147483648), 3000)], [(some 1000000062, 0)], se_X10_ticks_39),
  ([((8, 1, 0), 61, 61), ((8, 1000000000, 0), (-2147483648), 3000)], [(some 1000000061, 0)], se_X10_ticks_40),
  ([((8, 1, 0), 60, 60), ((8, 1000000000, 0), (-2147483648), 3000)], [(some 1000000060, 0)], se_X10_ticks_41),
  ([((8, 1, 0), 59, 59), ((8, 1000000000, 0), (-2147483648), 3000)], [(some 1000000059, 0)], se_X10_ticks_42),
  ([((8, 1, 0), 58, 58), ((8, 1000000000, 0), (-2147483648), 3000)], [(some 1000000058, 0)], se_X10_ticks_43),
  ([((8, 1, 0), 57, 57), ((8, 1000000000, 0), (-2147483648), 3000)], [(some 1000000057, 0)], se_X10_ticks_44)]
def sn_X10_ticks_1 : List am_N := [([((8, 1, 0), 56, 56), ((8, 1000000000, 0), (-2147483648), 3000)], [(some 1000000056, 0)], se_X10_ticks_45),
  ([((8, 1, 0), 55, 55), ((8, 1000000000, 0), (-2147483648), 3000)], [(some 1000000055, 0)], se_X10_ticks_46),
  ([((8, 1, 0), 54, 54), ((8, 1000000000, 0), (-2147483648), 3000)], [(some 1000000054, 0)], se_X10_ticks_47),
  ([((8, 1, 0), 53, 53), ((8, 1000000000, 0), (-2147483648), 3000)], [(some 1000000053, 0)], se_X10_ticks_48),
  ([((8, 1, 0), 52, 52), ((8, 1000000000, 0), (-2147483648), 3000)], [(some 1000000052, 0)], se_X10_ticks_49),
  ([((8, 1, 0), 51, 51), ((8, 1000000000, 0), (-2147483648), 3000)], [(some 1000000051, 0)], se_X10_ticks_50),
  ([((8, 1, 0), 50, 50), ((8, 1000000000, 0), (-2147483648), 3000)], [(some 1000000050, 0)], se_X10_ticks_51),
  ([((8, 1, 0), 49, 49), ((8, 1000000000, 0), (-2147483648), 3000)], [(some 1000000049, 0)], se_X10_ticks_52),
  ([((8, 1, 0), 48, 48), ((8, 1000000000, 0), (-2147483648), 3000)], [(some 1000000048, 0)], se_X10_ticks_53),
  ([((8, 1, 0), 47, 47), ((8, 1000000000, 0), (-2147483648), 3000)], [(some 1000000047, 0)], se_X10_ticks_54),
  ([((8, 1, 0), 46, 46), ((8, 1000000000, 0), (-2147483648), 3000)], [(some 1000000046, 0)], se_X10_ticks_55),
  ([((8, 1, 0), 45, 45), ((8, 1000000000, 0), (-2147483648), 3000)], [(some 1000000045, 0)], se_X10_ticks_56),
  ([((8, 1, 0), 44, 44), ((8, 1000000000, 0), (-2147483648), 3000)], [(some 1000000044, 0)], se_X10_ticks_57),
  ([((8, 1, 0), 43, 43), ((8, 1000000000, 0), (-2147483648), 3000)], [(some 1000000043, 0)], se_X10_ticks_58),
  ([((8, 1, 0), 42, 42), ((8, 1000000000, 0), (-2147483648), 3000)], [(some 1000000042, 0)], se_X10_ticks_59),
  ([((8, 1, 0), 41, 41), ((8, 1000000000, 0), (-2147483648), 3000)], [(some 1000000041, 0)], se_X10_ticks_60),
  ([((8, 1, 0), 40, 40), ((8, 1000000000, 0), (-2147483648), 3000)], [(some 1000000040, 0)], se_X10_ticks_61),
  ([((8, 1, 0), 39, 39), ((8, 1000000000, 0), (-2147483648), 3000)], [(some 1000000039, 0)], se_X10_ticks_62),
  ([((8, 1, 0), 38, 38), ((8, 1000000000, 0), (-2147483648), 3000)], [(some 1000000038, 0)], se_X10_ticks_63),
  ([((8, 1, 0), 37, 37), ((8, 1000000000, 0), (-2147483648), 3000)], [(some 1000000037, 0)], se_X10_ticks_64),
  ([((8, 1, 0), 36, 36), ((8, 1000000000, 0), (-2147483648), 3000)], [(some 1000000036, 0)], se_X10_ticks_65),
  ([((8, 1, 0), 35, 35), ((8, 1000000000, 0), (-2147483648), 3000)], [(some 1000000035, 0)], se_X10_ticks_66),
  ([((8, 1, 0), 34, 34), ((8, 1000000000, 0), (-2147483648), 3000)], [(some 1000000034, 0)], se_X10_ticks_67),
  ([((8, 1, 0), 33, 33), ((8, 1000000000, 0), (-2147483648), 3000)], [(some 1000000033, 0)], se_X10_ticks_68),
  ([((8, 1, 0), 32, 32), ((8, 1000000000, 0), (-2147483648), 3000)], [(some 1000000032, 0)], se_X10_ticks_69),
  ([((8, 1, 0), 31, 31), ((8, 1000000000, 0), (-2147483648), 3000)], [(some 1000000031, 0)], se_X10_ticks_70),
  ([((8, 1, 0), 30, 30), ((8, 1000000000, 0), (-2147483648), 3000)], [(some 1000000030, 0)], se_X10_ticks_71),
  ([((8, 1, 0), 29, 29), ((8, 1000000000, 0), (-2147483648), 3000)], [(some 1000000029, 0)], se_X10_ticks_72),
  ([((8, 1, 0), 28, 28), ((8, 1000000000, 0), (-2147483648), 3000)], [(some 1000000028, 0)], se_X10_ticks_73),
  ([((8, 1, 0), 27, 27), ((8, 1000000000, 0), (-2147483648), 3000)], [(some 1000000027, 0)], se_X10_ticks_74),
  ([((8, 1, 0), 26, 26), ((8, 1000000000, 0), (-2147483648), 3000)], [(some 1000000026, 0)], se_X10_ticks_75),
  ([((8, 1, 0), 25, 25), ((8, 1000000000, 0), (-2147483648), 3000)], [(some 1000000025, 0)], se_X10_ticks_76),
  ([((8, 1, 0), 24, 24), ((8, 1000000000, 0), (-2147483648), 3000)], [(some 1000000024, 0)], se_X10_ticks_77),
  ([((8, 1, 0), 23, 23), ((8, 1000000000, 0), (-2147483648), 3000)], [(some 1000000023, 0)], se_X10_ticks_78),
  ([((8, 1, 0), 22, 22), ((8, 1000000000, 0), (-2147483648), 3000)], [(some 1000000022, 0)], se_X10_ticks_79),
  ([((8, 1, 0), 21, 21), ((8, 1000000000, 0), (-2147483648), 3000)], [(some 1000000021, 0)], se_X10_ticks_80),
  ([((8, 1, 0), 20, 20), ((8, 1000000000, 0), (-2147483648), 3000)], [(some 1000000020, 0)], se_X10_ticks_81),
  ([((8, 1, 0), 19, 19), ((8, 1000000000, 0), (-2147483648), 3000)], [(some 1000000019, 0)], se_X10_ticks_82),
  ([((8, 1, 0), 18, 18), ((8, 1000000000, 0), (-2147483648), 3000)], [(some 1000000018, 0)], se_X10_ticks_83),
  ([((8, 1, 0), 17, 17), ((8, 1000000000, 0), (-2147483648), 3000)], [(some 1000000017, 0)], se_X10_ticks_84),
  ([((8, 1, 0), 16, 16), ((8, 1000000000, 0), (-2147483648), 3000)], [(some 1000000016, 0)], se_X10_ticks_85),
  ([((8, 1, 0), 15, 15), ((8, 1000000000, 0), (-2147483648), 3000)], [(some 1000000015, 0)], se_X10_ticks_86),
  ([((8, 1, 0), 14, 14), ((8, 1000000000, 0), (-2147483648), 3000)], [(some 1000000014, 0)], se_X10_ticks_87),
  ([((8, 1, 0), 13, 13), ((8, 1000000000, 0), (-2147483648), 3000)], [(some 1000000013, 0)], se_X10_ticks_88),
  ([((8, 1, 0), 12, 12), ((8, 1000000000, 0), (-2147483648), 3000)], [(some 1000000012, 0)], se_X10_ticks_89),
  ([((8, 1, 0), 11, 11), ((8, 1000000000, 0), (-2147483648), 3000)], [(some 1000000011, 0)], se_X10_ticks_90)]
def sn_X10_ticks_2 : List am_N := [([((8, 1, 0), 10, 10), ((8, 1000000000, 0), (-2147483648), 3000)], [(some 1000000010, 0)], se_X10_ticks_91),
  ([((8, 1, 0), 9, 9), ((8, 1000000000, 0), (-2147483648), 3000)], [(some 1000000009, 0)], se_X10_ticks_92),
  ([((8, 1, 0), 8, 8), ((8, 1000000000, 0), (-2147483648), 3000)], [(some 1000000008, 0)], se_X10_ticks_93),
  ([((8, 1, 0), 7, 7), ((8, 1000000000, 0), (-2147483648), 3000)], [(some 1000000007, 0)], se_X10_ticks_94),
  ([((8, 1, 0), 6, 6), ((8, 1000000000, 0), (-2147483648), 3000)], [(some 1000000006, 0)], se_X10_ticks_95),
  ([((8, 1, 0), 5, 5), ((8, 1000000000, 0), (-2147483648), 3000)], [(some 1000000005, 0)], se_X10_ticks_96),
  ([((8, 1, 0), 4, 4), ((8, 1000000000, 0), (-2147483648), 3000)], [(some 1000000004, 0)], se_X10_ticks_97),
  ([((8, 1, 0), 3, 3), ((8, 1000000000, 0), (-2147483648), 3000)], [(some 1000000003, 0)], se_X10_ticks_98),
  ([((8, 1, 0), 2, 2), ((8, 1000000000, 0), (-2147483648), 3000)], [(some 1000000002, 0)], se_X10_ticks_99),
  ([((8, 1, 0), 1, 1), ((8, 1000000000, 0), (-2147483648), 3000)], [(some 1000000001, 0)], se_X10_ticks_100)]
def sn_X10_ticks : List am_N := sn_X10_ticks_0 ++ sn_X10_ticks_1 ++ sn_X10_ticks_2
theorem sq_ticks : am_chk rel_p rel_g bc_X9_ticks bc_X10_ticks sc_X9_ticks sc_X10_ticks sn_X9_ticks sn_X10_ticks = true := by decide +kernel
theorem sa_ticks : sn_X9_ticks.all (fun n => sn_X10_ticks.all (am_ok false n)) = true := by decide +kernel
theorem sb_ticks : bc_X9_ticks.all (fun c => c.2.2.2.all (am_bc2 rel_b c.2.2.1)) = true := by decide +kernel
theorem step_ticks {c0 c1 : ab_C} {a x y : Int32} {cs cs1 cs2 : ex_C} (hc : bc_X9_ticks = [c0]) (hc' : bc_X10_ticks = [c1]) (h : ab_post ab_hd c0 [.ref 0, .int a] cs (some (.int x)) cs1) (h' : ab_post ab_hd c1 [.ref 76, .int a] cs1 (some (.int y)) cs2) (hR : rel_R cs) : rel_R cs2 := by
  have q := sq_ticks
  rw [hc, hc'] at q
  have w := sb_ticks
  rw [hc] at w
  have w1 := List.all_eq_true.mp w c0 List.mem_cons_self
  obtain ⟨q1, f9, f10, q2, q3⟩ := am_chkk q
  have r := am_main q1 f9 f10 q2 q3 sa_ticks h h' hR.1 (rel_gh hR.2)
  exact ⟨r.2, am_bstep2 rel_bp rel_bw w1 q1 h h' hR.2⟩
def sc_X9_worked : List ((Nat × Nat) × Bool) := [((6, 6), false), ((66, 7), false), ((66, 8), false), ((67, 0), false), ((67, 1), false), ((67, 2), false), ((67, 3), false), ((67, 4), false), ((67, 5), false), ((67, 6), false), ((67, 7), false), ((67, 8), false), ((67, 9), false), ((67, 10), false), ((67, 11), false), ((67, 12), false), ((67, 13), false), ((67, 14), false), ((67, 15), false), ((67, 16), false), ((67, 17), false), ((67, 18), false), ((67, 19), false), ((67, 20), false), ((67, 21), false), ((67, 22), false), ((67, 23), false), ((67, 24), false), ((67, 25), false), ((67, 26), false), ((67, 27), false), ((67, 28), false), ((67, 29), false), ((67, 30), false), ((67, 31), false), ((67, 32), false), ((67, 33), false), ((67, 34), false), ((67, 35), false), ((67, 36), false), ((67, 37), false), ((67, 38), false), ((67, 39), false), ((68, 0), false), ((68, 1), false), ((68, 2), false), ((68, 3), false), ((68, 4), false), ((68, 5), false), ((68, 6), false), ((68, 7), false), ((68, 8), false), ((68, 9), false), ((68, 10), false), ((68, 11), false), ((68, 12), false), ((68, 13), false), ((68, 14), false), ((68, 15), false), ((68, 16), false), ((68, 17), false), ((68, 18), false), ((68, 19), false), ((68, 20), false), ((68, 21), false), ((68, 22), false), ((68, 23), false), ((68, 24), false), ((68, 25), false), ((68, 26), false), ((68, 27), false), ((68, 28), false), ((68, 29), false), ((68, 30), false), ((68, 31), false), ((68, 32), false), ((68, 33), false), ((68, 34), false), ((68, 35), false), ((68, 36), false), ((68, 37), false), ((68, 38), false), ((68, 39), false), ((69, 0), false), ((69, 1), false), ((69, 2), false), ((69, 3), false), ((69, 4), false), ((69, 5), false), ((69, 6), false), ((69, 7), false), ((69, 8), false), ((69, 9), false), ((69, 10), false), ((69, 11), false), ((69, 12), false), ((69, 13), false), ((69, 14), false), ((69, 15), false), ((69, 16), false), ((69, 17), false), ((69, 18), false), ((69, 19), false), ((69, 20), false), ((69, 21), false), ((69, 22), false), ((69, 23), false), ((69, 24), false), ((69, 25), false), ((69, 26), false), ((69, 27), false), ((69, 28), false), ((69, 29), false), ((69, 30), false), ((69, 31), false), ((69, 32), false), ((69, 33), false), ((69, 34), false), ((69, 35), false), ((69, 36), false), ((69, 37), false), ((69, 38), false), ((69, 39), false), ((71, 0), false), ((71, 1), false), ((71, 2), false), ((71, 3), false), ((71, 4), false), ((71, 5), false), ((71, 6), false), ((71, 7), false), ((71, 8), false), ((71, 9), false), ((71, 10), false), ((71, 11), false), ((71, 12), false), ((71, 13), false), ((71, 14), false), ((71, 15), false), ((71, 16), false), ((71, 17), false), ((71, 18), false), ((71, 19), false), ((72, 0), false), ((72, 1), false), ((72, 2), false), ((72, 3), false), ((72, 4), false), ((72, 5), false), ((72, 6), false), ((72, 7), false), ((72, 8), false), ((72, 9), false), ((72, 10), false), ((72, 11), false), ((72, 12), false), ((72, 13), false), ((72, 14), false), ((72, 15), false), ((72, 16), false), ((72, 17), false), ((72, 18), false), ((72, 19), false), ((73, 0), false), ((73, 1), false), ((73, 2), false), ((73, 3), false), ((73, 4), false), ((73, 5), false), ((73, 6), false), ((73, 7), false), ((73, 8), false), ((73, 9), false), ((73, 10), false), ((73, 11), false), ((73, 12), false), ((73, 13), false), ((73, 14), false), ((73, 15), false), ((73, 16), false), ((73, 17), false), ((73, 18), false), ((73, 19), false)]
def sc_X10_worked : List ((Nat × Nat) × Bool) := [((101, 0), false), ((76, 40), false), ((76, 45), false), ((106, 0), false), ((106, 1), false), ((106, 2), false), ((106, 3), false), ((106, 4), false), ((106, 5), false), ((106, 6), false), ((106, 7), false), ((106, 8), false), ((106, 9), false), ((106, 10), false), ((106, 11), false), ((106, 12), false), ((106, 13), false), ((106, 14), false), ((106, 15), false), ((106, 16), false), ((106, 17), false), ((106, 18), false), ((106, 19), false), ((106, 20), false), ((106, 21), false), ((106, 22), false), ((106, 23), false), ((106, 24), false), ((106, 25), false), ((106, 26), false), ((106, 27), false), ((106, 28), false), ((106, 29), false), ((106, 30), false), ((106, 31), false), ((106, 32), false), ((106, 33), false), ((106, 34), false), ((106, 35), false), ((106, 36), false), ((106, 37), false), ((106, 38), false), ((106, 39), false), ((107, 0), false), ((107, 1), false), ((107, 2), false), ((107, 3), false), ((107, 4), false), ((107, 5), false), ((107, 6), false), ((107, 7), false), ((107, 8), false), ((107, 9), false), ((107, 10), false), ((107, 11), false), ((107, 12), false), ((107, 13), false), ((107, 14), false), ((107, 15), false), ((107, 16), false), ((107, 17), false), ((107, 18), false), ((107, 19), false), ((107, 20), false), ((107, 21), false), ((107, 22), false), ((107, 23), false), ((107, 24), false), ((107, 25), false), ((107, 26), false), ((107, 27), false), ((107, 28), false), ((107, 29), false), ((107, 30), false), ((107, 31), false), ((107, 32), false), ((107, 33), false), ((107, 34), false), ((107, 35), false), ((107, 36), false), ((107, 37), false), ((107, 38), false), ((107, 39), false), ((108, 0), false), ((108, 1), false), ((108, 2), false), ((108, 3), false), ((108, 4), false), ((108, 5), false), ((108, 6), false), ((108, 7), false), ((108, 8), false), ((108, 9), false), ((108, 10), false), ((108, 11), false), ((108, 12), false), ((108, 13), false), ((108, 14), false), ((108, 15), false), ((108, 16), false), ((108, 17), false), ((108, 18), false), ((108, 19), false), ((108, 20), false), ((108, 21), false), ((108, 22), false), ((108, 23), false), ((108, 24), false), ((108, 25), false), ((108, 26), false), ((108, 27), false), ((108, 28), false), ((108, 29), false), ((108, 30), false), ((108, 31), false), ((108, 32), false), ((108, 33), false), ((108, 34), false), ((108, 35), false), ((108, 36), false), ((108, 37), false), ((108, 38), false), ((108, 39), false), ((110, 0), false), ((110, 1), false), ((110, 2), false), ((110, 3), false), ((110, 4), false), ((110, 5), false), ((110, 6), false), ((110, 7), false), ((110, 8), false), ((110, 9), false), ((110, 10), false), ((110, 11), false), ((110, 12), false), ((110, 13), false), ((110, 14), false), ((110, 15), false), ((110, 16), false), ((110, 17), false), ((110, 18), false), ((110, 19), false), ((111, 0), false), ((111, 1), false), ((111, 2), false), ((111, 3), false), ((111, 4), false), ((111, 5), false), ((111, 6), false), ((111, 7), false), ((111, 8), false), ((111, 9), false), ((111, 10), false), ((111, 11), false), ((111, 12), false), ((111, 13), false), ((111, 14), false), ((111, 15), false), ((111, 16), false), ((111, 17), false), ((111, 18), false), ((111, 19), false), ((112, 0), false), ((112, 1), false), ((112, 2), false), ((112, 3), false), ((112, 4), false), ((112, 5), false), ((112, 6), false), ((112, 7), false), ((112, 8), false), ((112, 9), false), ((112, 10), false), ((112, 11), false), ((112, 12), false), ((112, 13), false), ((112, 14), false), ((112, 15), false), ((112, 16), false), ((112, 17), false), ((112, 18), false), ((112, 19), false)]
def sn_X9_worked : List am_N := [([], [(some 900000000, 0)], ([[(some 7006, 0)], [(some 67007, 0)], [(some 67008, 0)]] ++ am_un 68000 40 ++ am_un 69000 40 ++ am_un 70000 40 ++ am_un 72000 20 ++ am_un 73000 20 ++ am_un 74000 20))]
def sn_X10_worked : List am_N := [([], [(some 900000000, 0)], ([[(some 7006, 0)], [(some 67007, 0)], [(some 67008, 0)]] ++ am_un 68000 40 ++ am_un 69000 40 ++ am_un 70000 40 ++ am_un 72000 20 ++ am_un 73000 20 ++ am_un 74000 20))]
theorem sq_worked : am_chk rel_p rel_g bc_X9_worked bc_X10_worked sc_X9_worked sc_X10_worked sn_X9_worked sn_X10_worked = true := by decide +kernel
theorem sa_worked : sn_X9_worked.all (fun n => sn_X10_worked.all (am_ok true n)) = true := by decide +kernel
theorem sb_worked : bc_X9_worked.all (fun c => c.2.2.2.all (am_bc2 rel_b c.2.2.1)) = true := by decide +kernel
theorem step_worked {c0 c1 : ab_C} {a x y : Int32} {cs cs1 cs2 : ex_C} (hc : bc_X9_worked = [c0]) (hc' : bc_X10_worked = [c1]) (h : ab_post ab_hd c0 [.ref 0, .int a] cs (some (.int x)) cs1) (h' : ab_post ab_hd c1 [.ref 76, .int a] cs1 (some (.int y)) cs2) (hR : rel_R cs) : x = y ∧ rel_R cs2 := by
  have q := sq_worked
  rw [hc, hc'] at q
  have w := sb_worked
  rw [hc] at w
  have w1 := List.all_eq_true.mp w c0 List.mem_cons_self
  obtain ⟨q1, f9, f10, q2, q3⟩ := am_chkk q
  have r := am_main q1 f9 f10 q2 q3 sa_worked h h' hR.1 (rel_gh hR.2)
  exact ⟨r.1 rfl, ⟨r.2, am_bstep2 rel_bp rel_bw w1 q1 h h' hR.2⟩⟩
theorem ini_R : rel_R ini_cs := ⟨am_ink (by first | decide +kernel | decide | rfl), am_inbk (by first | decide +kernel | decide | rfl)⟩

def am_xs : List ((Nat × Nat) × (Nat × Nat) × Bool) := [((10, 0), (7, 6), true), ((10, 1), (7, 6), true), ((10, 2), (7, 6), true), ((10, 3), (7, 6), true), ((10, 4), (7, 6), true), ((10, 5), (7, 6), true), ((10, 6), (7, 6), true), ((10, 7), (7, 6), true), ((11, 0), (7, 6), true), ((11, 1), (7, 6), true), ((11, 2), (7, 6), true), ((11, 3), (7, 6), true), ((11, 4), (7, 6), true), ((11, 5), (7, 6), true), ((11, 6), (7, 6), true), ((11, 7), (7, 6), true), ((7, 7), (7, 6), false)]
/-! bounds of cells of the class, kept by every call -/
abbrev am_D : Type := List ((Nat × Nat) × Int × Int)
def am_B0 (bs : am_D) (cs : ex_C) : Prop := ∀ b ∈ bs, ∃ z, ab_ri cs b.1.1 b.1.2 = some z ∧ b.2.1 ≤ z ∧ z ≤ b.2.2
def am_9f (i : Nat) (o : Option (Nat × Nat × Nat)) : Option (Nat × Nat) := match o with
  | some e => if e.1 = 9 ∧ i / 1000000000 = 1 ∧ e.2.1 / 1000000000 = 0 then some e.2 else none
  | none => none
def am_d9c (i : Nat) : Option (Nat × Nat) := am_9f i ab_dt[i - 1000000000]?
def am_bl (bs : am_D) (fs : ab_F) (i : Nat) (v : Int) : Bool := fs.any (fun f => decide (f.1 = (8, i, 0) ∧ v ≤ f.2.1)) || (bs.any (fun b => decide (am_no b.1 = i ∧ v ≤ b.2.1)) || (match am_d9c i with
  | some e => bs.any (fun b => decide (am_no b.1 = e.1 ∧ v ≤ b.2.1 + (e.2 : Int) ∧ -2147483648 ≤ b.2.1 + (e.2 : Int) ∧ b.2.2 + (e.2 : Int) ≤ 2147483647))
  | none => false))
def am_bh (bs : am_D) (fs : ab_F) (i : Nat) (v : Int) : Bool := fs.any (fun f => decide (f.1 = (8, i, 0) ∧ f.2.2.1 ≤ v)) || (bs.any (fun b => decide (am_no b.1 = i ∧ b.2.2 ≤ v)) || (match am_d9c i with
  | some e => bs.any (fun b => decide (am_no b.1 = e.1 ∧ b.2.2 + (e.2 : Int) ≤ v ∧ -2147483648 ≤ b.2.1 + (e.2 : Int) ∧ b.2.2 + (e.2 : Int) ≤ 2147483647))
  | none => false))
def am_bd (f : Int → Int → Bool) (k : Nat → Int → Bool) (a b : Int) (d : Option (Nat × Int)) : Bool := f a b || (match d with
  | some d => k d.1 (a - d.2)
  | none => false)
def am_bc0 (bs : am_D) (W : ab_W) (s : ab_Cs) : Bool := bs.all (fun b => !ab_cov W b.1.1 b.1.2 || s.2.2.any (fun f => decide (f.1 = (1, b.1.1, b.1.2)) && (am_bd (fun x y => decide (x ≤ y)) (am_bl bs s.2.1) b.2.1 f.2.1 f.2.2.2 && am_bd (fun x y => decide (y ≤ x)) (am_bh bs s.2.1) b.2.2 f.2.2.1 f.2.2.2)))
def am_bw0 (bs : am_D) : Bool := bs.all (fun b => decide (b.1.2 < 1000 ∧ am_no b.1 < 900000000))
theorem am_bn {bs : am_D} {lv : ex_L} {cs : ex_C} (hw : am_bw0 bs = true) (hB : am_B0 bs cs) {b : (Nat × Nat) × Int × Int} (hb : b ∈ bs) : b.2.1 ≤ ab_oo lv cs (am_no b.1) ∧ ab_oo lv cs (am_no b.1) ≤ b.2.2 := by
  obtain ⟨z, h1, h2, h3⟩ := hB b hb
  obtain ⟨w1, w2⟩ := of_decide_eq_true (List.all_eq_true.mp hw b hb)
  rw [am_onc (lv := lv) w1 w2 h1]
  exact ⟨h2, h3⟩
theorem am_dg9 {x y : Int} {c : Nat} : ab_dg 9 x y c = (x + (c : Int)).bmod (2 ^ 32) := by
  unfold ab_dg
  rfl
theorem am_9i {i : Nat} (h : i / 1000000000 = 1) : i = 1000000000 + (i - 1000000000) := by omega
theorem am_9j {i : Nat} (h : i / 1000000000 = 0) : i < 1000000000 := by omega
theorem am_9q {q : Nat × Nat × Nat} {e : Nat × Nat} (h1 : q.1 = 9) (h2 : q.2 = e) : q = (9, e.1, e.2) := by
  obtain ⟨a, b, c⟩ := q
  cases h2
  have h1' : a = 9 := h1
  rw [h1']
theorem am_9z {o : Option (Nat × Nat × Nat)} {i : Nat} {e : Nat × Nat} (h : am_9f i o = some e) : o = some (9, e.1, e.2) ∧ i / 1000000000 = 1 ∧ e.1 / 1000000000 = 0 := by
  cases o with
  | none => cases h
  | some q =>
    have h' : (if q.1 = 9 ∧ i / 1000000000 = 1 ∧ q.2.1 / 1000000000 = 0 then some q.2 else none) = some e := h
    by_cases c : q.1 = 9 ∧ i / 1000000000 = 1 ∧ q.2.1 / 1000000000 = 0
    · rw [if_pos c] at h'
      have e1 := Option.some.inj h'
      refine ⟨congrArg some (am_9q c.1 e1), c.2.1, ?_⟩
      rw [← e1]
      exact c.2.2
    · rw [if_neg c] at h'
      cases h'
theorem am_9a {i : Nat} {e : Nat × Nat} (h : am_d9c i = some e) : ∃ n, i = 1000000000 + n ∧ ab_dt[n]? = some (9, e.1, e.2) ∧ e.1 < 1000000000 := by
  unfold am_d9c at h
  obtain ⟨h1, h2, h3⟩ := am_9z h
  exact ⟨i - 1000000000, am_9i h2, h1, am_9j h3⟩
theorem am_9k {lv : ex_L} {cs : ex_C} {i : Nat} {e : Nat × Nat} (h : am_d9c i = some e) {lo hi : Int} (h1 : lo ≤ ab_oo lv cs e.1) (h2 : ab_oo lv cs e.1 ≤ hi) (h3 : -2147483648 ≤ lo + (e.2 : Int)) (h4 : hi + (e.2 : Int) ≤ 2147483647) : ab_oo lv cs i = ab_oo lv cs e.1 + (e.2 : Int) := by
  obtain ⟨n, e1, hq, ha⟩ := am_9a h
  have ho := ab_oon (lv := lv) (cs := cs) hq (Nat.lt_of_lt_of_le ha (Nat.le_add_right _ _)) (Or.inr (Or.inl rfl))
  rw [am_dg9] at ho
  rw [e1, ho]
  generalize ab_oo lv cs e.1 = x at h1 h2 ⊢
  exact ab_bm (by omega) (by omega)
theorem am_blk {bs : am_D} {lv : ex_L} {cs : ex_C} {fs : ab_F} {lw : ex_L} (hw : am_bw0 bs = true) (hB : am_B0 bs cs) (hf : ab_cf (ab_oo lv cs) lw [] fs) {i : Nat} {v : Int} (h : am_bl bs fs i v = true) : v ≤ ab_oo lv cs i := by
  unfold am_bl at h
  rcases (Bool.or_eq_true _ _).mp h with h | h
  · obtain ⟨f, h1, h2⟩ := List.any_eq_true.mp h
    obtain ⟨h3, h4⟩ := of_decide_eq_true h2
    obtain ⟨x, hx, x1, -, -⟩ := hf f h1
    rw [h3] at hx
    have : some (ab_oo lv cs i) = some x := hx
    cases this
    omega
  · rcases (Bool.or_eq_true _ _).mp h with h | h
    · obtain ⟨b, h1, h2⟩ := List.any_eq_true.mp h
      obtain ⟨h3, h4⟩ := of_decide_eq_true h2
      have := (am_bn (lv := lv) hw hB h1).1
      rw [h3] at this
      omega
    · split at h
      · rename_i e he
        obtain ⟨b, h1, h2⟩ := List.any_eq_true.mp h
        obtain ⟨h3, h4, h5, h6⟩ := of_decide_eq_true h2
        have h7 := am_bn (lv := lv) hw hB h1
        rw [h3] at h7
        have := am_9k he h7.1 h7.2 h5 h6
        omega
      · cases h
theorem am_bhk {bs : am_D} {lv : ex_L} {cs : ex_C} {fs : ab_F} {lw : ex_L} (hw : am_bw0 bs = true) (hB : am_B0 bs cs) (hf : ab_cf (ab_oo lv cs) lw [] fs) {i : Nat} {v : Int} (h : am_bh bs fs i v = true) : ab_oo lv cs i ≤ v := by
  unfold am_bh at h
  rcases (Bool.or_eq_true _ _).mp h with h | h
  · obtain ⟨f, h1, h2⟩ := List.any_eq_true.mp h
    obtain ⟨h3, h4⟩ := of_decide_eq_true h2
    obtain ⟨x, hx, -, x1, -⟩ := hf f h1
    rw [h3] at hx
    have : some (ab_oo lv cs i) = some x := hx
    cases this
    omega
  · rcases (Bool.or_eq_true _ _).mp h with h | h
    · obtain ⟨b, h1, h2⟩ := List.any_eq_true.mp h
      obtain ⟨h3, h4⟩ := of_decide_eq_true h2
      have := (am_bn (lv := lv) hw hB h1).2
      rw [h3] at this
      omega
    · split at h
      · rename_i e he
        obtain ⟨b, h1, h2⟩ := List.any_eq_true.mp h
        obtain ⟨h3, h4, h5, h6⟩ := of_decide_eq_true h2
        have h7 := am_bn (lv := lv) hw hB h1
        rw [h3] at h7
        have := am_9k he h7.1 h7.2 h5 h6
        omega
      · cases h
/-- a cell is 0, or below another one (true), or the other one is above 0 (false) -/
def am_xr (k : Bool) (a b : Int) : Prop := a ≤ 0 ∨ (k = true ∧ a < b) ∨ (k = false ∧ 0 < b)
def am_X (cs : ex_C) : Prop := ∀ x ∈ am_xs, ∃ a b, ab_ri cs x.1.1 x.1.2 = some a ∧ ab_ri cs x.2.1.1 x.2.1.2 = some b ∧ am_xr x.2.2 a b
def am_x1 (b : Nat × Nat) (f : ab_F) : Bool := f.any (fun f => decide (f.1 = (1, b.1, b.2)) && (match f.2.2.2 with
  | some d => decide (d.1 = am_no b ∧ 0 ≤ d.2)
  | none => false))
def am_x2 (a b : Nat × Nat) (fs ff : ab_F) : Bool := ff.any (fun f => decide (f.1 = (1, a.1, a.2)) && (match f.2.2.2 with
  | some d => fs.any (fun g => decide (g.1 = (9, d.1, am_no b) ∧ g.2.2.1 + d.2 ≤ -1) || decide (g.1 = (9, am_no b, d.1) ∧ 1 + d.2 ≤ g.2.1))
  | none => false))
def am_x3 (a b : Nat × Nat) (fs ff : ab_F) : Bool := ff.any (fun f => decide (f.1 = (1, a.1, a.2))) && fs.any (fun g => decide (g.1 = (8, am_no b, 0) ∧ 1 ≤ g.2.1))
def am_x0 (a : Nat × Nat) (f : ab_F) : Bool := f.any (fun f => decide (f.1 = (1, a.1, a.2)) && (match f.2.2.2 with
  | some d => decide (d = (am_no a, 0))
  | none => false))
theorem am_x0k {o : Nat → Int} {lw' : ex_L} {cs' : ex_C} {a : Nat × Nat} {ff : ab_F} {z : Int} (h : am_x0 a ff = true) (hf : ab_cf o lw' cs' ff) (e : o (am_no a) = z) : ab_ri cs' a.1 a.2 = some z := by
  obtain ⟨f, h1, h2⟩ := List.any_eq_true.mp h
  obtain ⟨h3, h4⟩ := ab_b h2
  have hk : f.1 = (1, a.1, a.2) := of_decide_eq_true h3
  obtain ⟨x, hx, x1, x2, x3⟩ := hf f h1
  rw [hk] at hx
  split at h4
  · rename_i d hd
    have e4 : d = (am_no a, (0 : Int)) := of_decide_eq_true h4
    have e5 := x3 d hd
    rw [e4] at e5
    have e6 : x = o (am_no a) + (0 : Int) := e5
    have hx' : ab_ri cs' a.1 a.2 = some x := hx
    rw [hx', e6, e, Int.add_zero]
  · cases h4
def am_xc (W : ab_W) (s : ab_Cs) : Bool := am_xs.all (fun x => ((!ab_cov W x.1.1 x.1.2 || am_x0 x.1 s.2.2) && (!ab_cov W x.2.1.1 x.2.1.2 || am_x1 x.2.1 s.2.2)) || (!ab_cov W x.2.1.1 x.2.1.2 && ((x.2.2 && am_x2 x.1 x.2.1 s.2.1 s.2.2) || (!x.2.2 && am_x3 x.1 x.2.1 s.2.1 s.2.2))))
def am_xw : Bool := am_xs.all (fun x => decide (x.2.1.2 < 1000 ∧ am_no x.2.1 < 900000000 ∧ x.1.2 < 1000 ∧ am_no x.1 < 900000000))
def am_xp (prs : am_P) : Bool := am_xs.all (fun x => prs.any (fun p => decide (p.1 = x.1)) && prs.any (fun p => decide (p.1 = x.2.1)))
theorem am_x1k {o : Nat → Int} {lw : ex_L} {cs' : ex_C} {b : Nat × Nat} {f : ab_F} (h : am_x1 b f = true) (hf : ab_cf o lw cs' f) : ∃ z, ab_ri cs' b.1 b.2 = some z ∧ o (am_no b) ≤ z := by
  obtain ⟨f, h1, h2⟩ := List.any_eq_true.mp h
  obtain ⟨h3, h4⟩ := ab_b h2
  have hk : f.1 = (1, b.1, b.2) := of_decide_eq_true h3
  obtain ⟨x, hx, x1, x2, x3⟩ := hf f h1
  rw [hk] at hx
  split at h4
  · rename_i d hd
    obtain ⟨d1, d2⟩ := of_decide_eq_true h4
    have := x3 d hd
    rw [d1] at this
    exact ⟨x, hx, by omega⟩
  · cases h4
theorem am_x2k {o : Nat → Int} {lw lw' : ex_L} {cs' : ex_C} {a b : Nat × Nat} {fs ff : ab_F} (h : am_x2 a b fs ff = true) (hs : ab_cf o lw [] fs) (hf : ab_cf o lw' cs' ff) : ∃ z, ab_ri cs' a.1 a.2 = some z ∧ z < o (am_no b) := by
  obtain ⟨f, h1, h2⟩ := List.any_eq_true.mp h
  obtain ⟨h3, h4⟩ := ab_b h2
  have hk : f.1 = (1, a.1, a.2) := of_decide_eq_true h3
  obtain ⟨x, hx, x1, x2, x3⟩ := hf f h1
  rw [hk] at hx
  split at h4
  · rename_i d hd
    have e := x3 d hd
    obtain ⟨g, g1, g2⟩ := List.any_eq_true.mp h4
    obtain ⟨y, hy, y1, y2, -⟩ := hs g g1
    rcases (Bool.or_eq_true _ _).mp g2 with g2 | g2
    · obtain ⟨g3, g4⟩ := of_decide_eq_true g2
      rw [g3] at hy
      have hy' : some (o d.1 - o (am_no b)) = some y := hy
      cases hy'
      exact ⟨x, hx, by omega⟩
    · obtain ⟨g3, g4⟩ := of_decide_eq_true g2
      rw [g3] at hy
      have hy' : some (o (am_no b) - o d.1) = some y := hy
      cases hy'
      exact ⟨x, hx, by omega⟩
  · cases h4
theorem am_x3k {o : Nat → Int} {lw lw' : ex_L} {cs' : ex_C} {a b : Nat × Nat} {fs ff : ab_F} (h : am_x3 a b fs ff = true) (hs : ab_cf o lw [] fs) (hf : ab_cf o lw' cs' ff) : ∃ z, ab_ri cs' a.1 a.2 = some z ∧ 0 < o (am_no b) := by
  obtain ⟨h1, h2⟩ := ab_b h
  obtain ⟨f, f1, f2⟩ := List.any_eq_true.mp h1
  have hk : f.1 = (1, a.1, a.2) := of_decide_eq_true f2
  obtain ⟨x, hx, -, -, -⟩ := hf f f1
  rw [hk] at hx
  obtain ⟨g, g1, g2⟩ := List.any_eq_true.mp h2
  obtain ⟨g3, g4⟩ := of_decide_eq_true g2
  obtain ⟨y, hy, y1, y2, -⟩ := hs g g1
  rw [g3] at hy
  have hy' : some (o (am_no b)) = some y := hy
  cases hy'
  exact ⟨x, hx, by omega⟩
theorem am_xk {c : ab_C} {av : ex_V} {cs cs' : ex_C} {r : Option Value} (hw : am_xw = true) (h : c.2.2.2.all (am_xc c.2.2.1) = true) (hp : ab_post ab_hd c av cs r cs') (hB : am_X cs) : am_X cs' := by
  obtain ⟨-, hfr, s, hs, -, h1, h2⟩ := hp
  have hc := List.all_eq_true.mp h s hs
  intro x hx
  have h3 := List.all_eq_true.mp hc x hx
  obtain ⟨w1, w2, w3, w4⟩ := of_decide_eq_true (List.all_eq_true.mp hw x hx)
  obtain ⟨a, b, ha, hb, hr⟩ := hB x hx
  have eb := am_onc (lv := av.map some) w1 w2 hb
  have ea := am_onc (lv := av.map some) w3 w4 ha
  rcases (Bool.or_eq_true _ _).mp h3 with h3 | h3
  · obtain ⟨h4, h5⟩ := ab_b h3
    have ha' : ab_ri cs' x.1.1 x.1.2 = some a := by
      rcases (Bool.or_eq_true _ _).mp h4 with h4 | h4
      · rw [am_frr hfr (by simpa using h4)]
        exact ha
      · exact am_x0k h4 h2 ea
    rcases (Bool.or_eq_true _ _).mp h5 with h5 | h5
    · exact ⟨a, b, ha', by rw [am_frr hfr (by simpa using h5)]; exact hb, hr⟩
    · obtain ⟨z, z1, z2⟩ := am_x1k h5 h2
      have z3 : ab_oo (av.map some) cs (am_no (x.2.1.1, x.2.1.2)) ≤ z := z2
      rw [eb] at z3
      refine ⟨a, z, ha', z1, ?_⟩
      rcases hr with hr | hr | hr
      · exact Or.inl hr
      · exact Or.inr (Or.inl ⟨hr.1, by omega⟩)
      · exact Or.inr (Or.inr ⟨hr.1, by omega⟩)
  · obtain ⟨h4, h5⟩ := ab_b h3
    have hb' : ab_ri cs' x.2.1.1 x.2.1.2 = some b := by
      rw [am_frr hfr (by simpa using h4)]
      exact hb
    rcases (Bool.or_eq_true _ _).mp h5 with h5 | h5
    · obtain ⟨h6, h7⟩ := ab_b h5
      obtain ⟨z, z1, z2⟩ := am_x2k h7 h1 h2
      have z3 : z < ab_oo (av.map some) cs (am_no (x.2.1.1, x.2.1.2)) := z2
      rw [eb] at z3
      exact ⟨z, b, z1, hb', Or.inr (Or.inl ⟨h6, z3⟩)⟩
    · obtain ⟨h6, h7⟩ := ab_b h5
      obtain ⟨z, z1, z2⟩ := am_x3k h7 h1 h2
      have z3 : 0 < ab_oo (av.map some) cs (am_no (x.2.1.1, x.2.1.2)) := z2
      rw [eb] at z3
      exact ⟨z, b, z1, hb', Or.inr (Or.inr ⟨by simpa using h6, z3⟩)⟩
theorem am_xf {prs : am_P} {W : ab_W} {cs cs' : ex_C} (hs : am_xp prs = true) (hW : ∀ p ∈ prs, ab_cov W p.1.1 p.1.2 = false) (hf : ab_fr W cs cs') (hB : am_X cs) : am_X cs' := by
  intro x hx
  obtain ⟨a, b, ha, hb, hr⟩ := hB x hx
  obtain ⟨s1, s2⟩ := ab_b (List.all_eq_true.mp hs x hx)
  obtain ⟨p, hp, he⟩ := List.any_eq_true.mp s1
  obtain ⟨q, hq, hf'⟩ := List.any_eq_true.mp s2
  have he' : p.1 = x.1 := of_decide_eq_true he
  have hf'' : q.1 = x.2.1 := of_decide_eq_true hf'
  refine ⟨a, b, ?_, ?_, hr⟩
  · rw [← he', am_frr hf (hW p hp), he']
    exact ha
  · rw [← hf'', am_frr hf (hW q hq), hf'']
    exact hb
def am_inx (cs : ex_C) : Bool := am_xs.all (fun x => match ab_ri cs x.1.1 x.1.2 with
  | some a => (match ab_ri cs x.2.1.1 x.2.1.2 with
    | some _ => decide (a ≤ 0)
    | none => false)
  | none => false)
theorem am_inxk {cs : ex_C} (h : am_inx cs = true) : am_X cs := by
  intro x hx
  have h1 := List.all_eq_true.mp h x hx
  split at h1
  · rename_i a ha
    split at h1
    · rename_i b hb
      exact ⟨a, b, ha, hb, Or.inl (of_decide_eq_true h1)⟩
    · cases h1
  · cases h1
def am_B (bs : am_D) (cs : ex_C) : Prop := am_B0 bs cs ∧ am_X cs
def am_bc (bs : am_D) (W : ab_W) (s : ab_Cs) : Bool := am_bc0 bs W s && am_xc W s
theorem am_bk0 {bs : am_D} {c : ab_C} {av : ex_V} {cs cs' : ex_C} {r : Option Value} (hw : am_bw0 bs = true) (h : c.2.2.2.all (am_bc0 bs c.2.2.1) = true) (hp : ab_post ab_hd c av cs r cs') (hB : am_B0 bs cs) : am_B0 bs cs' := by
  obtain ⟨-, hfr, s, hs, -, h1, h2⟩ := hp
  have hc := List.all_eq_true.mp h s hs
  intro b hb
  have h3 := List.all_eq_true.mp hc b hb
  rcases (Bool.or_eq_true _ _).mp h3 with h3 | h3
  · obtain ⟨z, z1, z2⟩ := hB b hb
    exact ⟨z, by rw [am_frr hfr (by simpa using h3)]; exact z1, z2⟩
  · obtain ⟨f, hf, h4⟩ := List.any_eq_true.mp h3
    obtain ⟨h5, h6⟩ := ab_b h4
    obtain ⟨h7, h8⟩ := ab_b h6
    have hk : f.1 = (1, b.1.1, b.1.2) := of_decide_eq_true h5
    obtain ⟨x, hx, x1, x2, x3⟩ := h2 f hf
    rw [hk] at hx
    refine ⟨x, hx, ?_, ?_⟩
    · unfold am_bd at h7
      rcases (Bool.or_eq_true _ _).mp h7 with h7 | h7
      · have := of_decide_eq_true h7
        omega
      · split at h7
        · rename_i d hd
          have h9 := am_blk hw hB h1 h7
          have := x3 d hd
          omega
        · cases h7
    · unfold am_bd at h8
      rcases (Bool.or_eq_true _ _).mp h8 with h8 | h8
      · have := of_decide_eq_true h8
        omega
      · split at h8
        · rename_i d hd
          have h9 := am_bhk hw hB h1 h8
          have := x3 d hd
          omega
        · cases h8
/-- every bounded cell stands in a pair -/
def am_bp0 (prs : am_P) (bs : am_D) : Bool := bs.all (fun b => prs.any (fun p => decide (p.1 = b.1)))
theorem am_bf0 {prs : am_P} {bs : am_D} {W : ab_W} {cs cs' : ex_C} (hs : am_bp0 prs bs = true) (hW : ∀ p ∈ prs, ab_cov W p.1.1 p.1.2 = false) (hf : ab_fr W cs cs') (hB : am_B0 bs cs) : am_B0 bs cs' := by
  intro b hb
  obtain ⟨z, z1, z2⟩ := hB b hb
  obtain ⟨p, hp, he⟩ := List.any_eq_true.mp (List.all_eq_true.mp hs b hb)
  have he' : p.1 = b.1 := of_decide_eq_true he
  refine ⟨z, ?_, z2⟩
  rw [← he', am_frr hf (hW p hp), he']
  exact z1
def am_inb0 (bs : am_D) (cs : ex_C) : Bool := bs.all (fun b => match ab_ri cs b.1.1 b.1.2 with
  | some z => decide (b.2.1 ≤ z ∧ z ≤ b.2.2)
  | none => false)
theorem am_inbk0 {bs : am_D} {cs : ex_C} (h : am_inb0 bs cs = true) : am_B0 bs cs := by
  intro b hb
  have h1 := List.all_eq_true.mp h b hb
  split at h1
  · rename_i z hz
    have := of_decide_eq_true h1
    exact ⟨z, hz, this⟩
  · cases h1
def am_bw (bs : am_D) : Bool := am_bw0 bs && am_xw
def am_bp (prs : am_P) (bs : am_D) : Bool := am_bp0 prs bs && am_xp prs
def am_inb (bs : am_D) (cs : ex_C) : Bool := am_inb0 bs cs && am_inx cs
theorem am_inbk {bs : am_D} {cs : ex_C} (h : am_inb bs cs = true) : am_B bs cs := ⟨am_inbk0 (ab_b h).1, am_inxk (ab_b h).2⟩
theorem am_bk {bs : am_D} {c : ab_C} {av : ex_V} {cs cs' : ex_C} {r : Option Value} (hw : am_bw bs = true) (h : c.2.2.2.all (am_bc bs c.2.2.1) = true) (hp : ab_post ab_hd c av cs r cs') (hB : am_B bs cs) : am_B bs cs' := by
  refine ⟨am_bk0 (ab_b hw).1 (List.all_eq_true.mpr (fun s hs => (ab_b (List.all_eq_true.mp h s hs)).1)) hp hB.1, am_xk (ab_b hw).2 (List.all_eq_true.mpr (fun s hs => (ab_b (List.all_eq_true.mp h s hs)).2)) hp hB.2⟩
theorem am_bf {prs : am_P} {bs : am_D} {W : ab_W} {cs cs' : ex_C} (hs : am_bp prs bs = true) (hW : ∀ p ∈ prs, ab_cov W p.1.1 p.1.2 = false) (hf : ab_fr W cs cs') (hB : am_B bs cs) : am_B bs cs' := ⟨am_bf0 (ab_b hs).1 hW hf hB.1, am_xf (ab_b hs).2 hW hf hB.2⟩
theorem am_bkeep {prs : am_P} {bs : am_D} {W1 W2 : ab_W} {cs cs1 cs2 : ex_C} (hs : am_bp prs bs = true) (h1 : ab_fr W1 cs cs1) (h2 : ab_fr W2 cs1 cs2) (hW1 : prs.all (fun p => !ab_cov W1 p.1.1 p.1.2 && !ab_cov W1 p.2.1 p.2.2) = true) (hW2 : prs.all (fun p => !ab_cov W2 p.1.1 p.1.2 && !ab_cov W2 p.2.1 p.2.2) = true) (hB : am_B bs cs) : am_B bs cs2 := by
  refine am_bf hs (fun p hp => ?_) h2 (am_bf hs (fun p hp => ?_) h1 hB)
  · simpa using (ab_b (List.all_eq_true.mp hW2 p hp)).1
  · simpa using (ab_b (List.all_eq_true.mp hW1 p hp)).1
theorem am_bstep {prs : am_P} {bs : am_D} {c d : ab_C} {av av' : ex_V} {cs cs1 cs2 : ex_C} {r r' : Option Value} (hs : am_bp prs bs = true) (hw : am_bw bs = true) (h : c.2.2.2.all (am_bc bs c.2.2.1) = true) (hwf : am_wf prs c d = true) (hp : ab_post ab_hd c av cs r cs1) (hp' : ab_post ab_hd d av' cs1 r' cs2) (hB : am_B bs cs) : am_B bs cs2 := by
  refine am_bf hs (fun p hp => ?_) hp'.2.1 (am_bk hw h hp hB)
  obtain ⟨-, a2⟩ := ab_b (List.all_eq_true.mp hwf p hp)
  simpa using (ab_b a2).2

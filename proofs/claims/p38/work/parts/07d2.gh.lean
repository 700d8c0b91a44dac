/-! a reading worked back -/
def gi (cs : ex_C) (k j : Nat) : Int32 := match ab_rd cs k j with
  | some (.int x) => x
  | _ => 0
theorem gi_c {cs cs' : ex_C} {k : Nat} (h : ∀ j, ab_rd cs k j = ab_rd cs' k j) : gi cs k = gi cs' k := by
  funext j
  unfold gi
  rw [h j]
theorem gi_a {cs : ex_C} {k n t : Nat} {f : Nat → Int32} (h : cs[k]? = some (.inl (t, n, .inl f))) : gi cs k = f := by
  funext j
  unfold gi ab_rd
  rw [h]
theorem gi_o {cs : ex_C} {k j ci : Nat} {fs : List Value} {x : Int32} (h : cs[k]? = some (.inr (ci, fs))) (hj : fs[j]? = some (.int x)) : gi cs k j = x := by
  unfold gi ab_rd
  rw [h]
  simp only [hj]
theorem gi_r {cs cs' : ex_C} {k j k' j' : Nat} {z : Int} (h : ab_ri cs k j = some z) (h' : ab_ri cs' k' j' = some z) : gi cs k j = gi cs' k' j' := by
  unfold ab_ri at h h'
  unfold gi
  split at h
  · rename_i x hx
    split at h'
    · rename_i y hy
      rw [hx, hy]
      cases h
      have : y.toInt = x.toInt := Option.some.inj h'
      exact (Int32.toInt_inj.mp this).symm
    · cases h'
  · cases h
theorem gi_t {cs : ex_C} {k j : Nat} {z : Int} (h : ab_ri cs k j = some z) : (gi cs k j).toInt = z := by
  unfold ab_ri at h
  unfold gi
  split at h
  · rename_i x hx
    rw [hx]
    exact Option.some.inj h
  · cases h
def wk_l (f g : Nat → Int32) (s t : Int32) : Nat → Int × Int
  | 0 => (-1, -1)
  | n + 1 => if f n = s then (if (g n).toInt ≤ t.toInt then ((n : Int), (wk_l f g s t n).2) else if (wk_l f g s t n).2 < 0 ∨ g n = g (wk_l f g s t n).2.toNat then ((wk_l f g s t n).1, (n : Int)) else wk_l f g s t n) else wk_l f g s t n
theorem wk_l0 {f g : Nat → Int32} {s t : Int32} {n : Nat} (h : ¬ f n = s) : wk_l f g s t (n + 1) = wk_l f g s t n := by
  show (if f n = s then _ else _) = _
  rw [if_neg h]
theorem wk_l1 {f g : Nat → Int32} {s t : Int32} {n : Nat} (h : f n = s) (h1 : (g n).toInt ≤ t.toInt) : wk_l f g s t (n + 1) = ((n : Int), (wk_l f g s t n).2) := by
  show (if f n = s then _ else _) = _
  rw [if_pos h, if_pos h1]
theorem wk_l2 {f g : Nat → Int32} {s t : Int32} {n : Nat} (h : f n = s) (h1 : ¬ (g n).toInt ≤ t.toInt) (h2 : (wk_l f g s t n).2 < 0 ∨ g n = g (wk_l f g s t n).2.toNat) : wk_l f g s t (n + 1) = ((wk_l f g s t n).1, (n : Int)) := by
  show (if f n = s then _ else _) = _
  rw [if_pos h, if_neg h1, if_pos h2]
theorem wk_l3 {f g : Nat → Int32} {s t : Int32} {n : Nat} (h : f n = s) (h1 : ¬ (g n).toInt ≤ t.toInt) (h2 : ¬ ((wk_l f g s t n).2 < 0 ∨ g n = g (wk_l f g s t n).2.toNat)) : wk_l f g s t (n + 1) = wk_l f g s t n := by
  show (if f n = s then _ else _) = _
  rw [if_pos h, if_neg h1, if_neg h2]
/-- where they stand, and on which side -/
theorem wk_b {f g : Nat → Int32} {s t : Int32} : ∀ n : Nat, ((wk_l f g s t n).1 = -1 ∨ (0 ≤ (wk_l f g s t n).1 ∧ (wk_l f g s t n).1 < (n : Int) ∧ (g (wk_l f g s t n).1.toNat).toInt ≤ t.toInt)) ∧ ((wk_l f g s t n).2 = -1 ∨ (0 ≤ (wk_l f g s t n).2 ∧ (wk_l f g s t n).2 < (n : Int) ∧ t.toInt < (g (wk_l f g s t n).2.toNat).toInt))
  | 0 => ⟨Or.inl rfl, Or.inl rfl⟩
  | n + 1 => by
    obtain ⟨h1, h2⟩ := wk_b (f := f) (g := g) (s := s) (t := t) n
    have k1 : (wk_l f g s t n).1 = -1 ∨ (0 ≤ (wk_l f g s t n).1 ∧ (wk_l f g s t n).1 < ((n + 1 : Nat) : Int) ∧ (g (wk_l f g s t n).1.toNat).toInt ≤ t.toInt) := by
      rcases h1 with h1 | h1
      · exact Or.inl h1
      · exact Or.inr ⟨h1.1, by omega, h1.2.2⟩
    have k2 : (wk_l f g s t n).2 = -1 ∨ (0 ≤ (wk_l f g s t n).2 ∧ (wk_l f g s t n).2 < ((n + 1 : Nat) : Int) ∧ t.toInt < (g (wk_l f g s t n).2.toNat).toInt) := by
      rcases h2 with h2 | h2
      · exact Or.inl h2
      · exact Or.inr ⟨h2.1, by omega, h2.2.2⟩
    have e : ((n : Int)).toNat = n := by omega
    by_cases c : f n = s
    · by_cases c1 : (g n).toInt ≤ t.toInt
      · rw [wk_l1 c c1]
        exact ⟨Or.inr ⟨by show (0 : Int) ≤ (n : Int); omega, by show (n : Int) < _; omega, by show (g (n : Int).toNat).toInt ≤ _; rw [e]; exact c1⟩, k2⟩
      · by_cases c2 : (wk_l f g s t n).2 < 0 ∨ g n = g (wk_l f g s t n).2.toNat
        · rw [wk_l2 c c1 c2]
          exact ⟨k1, Or.inr ⟨by show (0 : Int) ≤ (n : Int); omega, by show (n : Int) < _; omega, by show _ < (g (n : Int).toNat).toInt; rw [e]; omega⟩⟩
        · rw [wk_l3 c c1 c2]
          exact ⟨k1, k2⟩
    · rw [wk_l0 c]
      exact ⟨k1, k2⟩
theorem wk_c {f g f' g' : Nat → Int32} {s t : Int32} : ∀ n : Nat, (∀ j, j < n → f j = f' j ∧ g j = g' j) → wk_l f g s t n = wk_l f' g' s t n
  | 0, _ => rfl
  | n + 1, h => by
    have h1 := h n (Nat.lt_succ_self n)
    have ih := wk_c (s := s) (t := t) n (fun j hj => h j (Nat.lt_succ_of_lt hj))
    have hb := (wk_b (f := f) (g := g) (s := s) (t := t) n).2
    by_cases c : f n = s
    · have c' : f' n = s := h1.1 ▸ c
      by_cases c1 : (g n).toInt ≤ t.toInt
      · rw [wk_l1 c c1, wk_l1 c' (h1.2 ▸ c1), ih]
      · have c1' : ¬ (g' n).toInt ≤ t.toInt := h1.2 ▸ c1
        by_cases c2 : (wk_l f g s t n).2 < 0 ∨ g n = g (wk_l f g s t n).2.toNat
        · have c2' : (wk_l f' g' s t n).2 < 0 ∨ g' n = g' (wk_l f' g' s t n).2.toNat := by
            rw [← ih]
            rcases c2 with c2 | c2
            · exact Or.inl c2
            · rcases hb with hb | hb
              · exact Or.inl (by omega)
              · right
                rw [← h1.2, ← (h (wk_l f g s t n).2.toNat (by omega)).2]
                exact c2
          rw [wk_l2 c c1 c2, wk_l2 c' c1' c2', ih]
        · have c2' : ¬ ((wk_l f' g' s t n).2 < 0 ∨ g' n = g' (wk_l f' g' s t n).2.toNat) := by
            rw [← ih]
            intro q
            apply c2
            rcases q with q | q
            · exact Or.inl q
            · rcases hb with hb | hb
              · exact Or.inl (by omega)
              · right
                rw [h1.2, (h (wk_l f g s t n).2.toNat (by omega)).2]
                exact q
          rw [wk_l3 c c1 c2, wk_l3 c' c1' c2', ih]
    · have c' : ¬ f' n = s := h1.1 ▸ c
      rw [wk_l0 c, wk_l0 c', ih]
def wk_d (c : Bool) (g e : Nat → Int32) (t : Int32) (b a : Nat) : Int32 := if c = true ∧ (g a - g b).toInt ≤ 0 then e b else e b + (e a - e b) * (t - g b) / (g a - g b)
def wk_t (c : Bool) (f g e : Nat → Int32) (s t : Int32) (n : Nat) : Int32 := if (wk_l f g s t n).1 < 0 then (if (wk_l f g s t n).2 < 0 then 0 else e (wk_l f g s t n).2.toNat) else if (wk_l f g s t n).2 < 0 then e (wk_l f g s t n).1.toNat else wk_d c g e t (wk_l f g s t n).1.toNat (wk_l f g s t n).2.toNat
def wk_w (c : Bool) (n m : Int32) (rs rt rv f g e : Nat → Int32) (r : Int) : Int := if r < 0 ∨ n.toInt ≤ r then -1000000001 else (rv r.toNat - wk_t c f g e (rs r.toNat) (rt r.toNat) m.toInt.toNat).toInt
def gh_0 (p : Nat → Int) (cs : ex_C) : Int := wk_w true (gi cs 66 7) (gi cs 66 8) (gi cs 67) (gi cs 68) (gi cs 69) (gi cs 71) (gi cs 72) (gi cs 73) (p 1)
def gh_1 (p : Nat → Int) (cs : ex_C) : Int := wk_w false (gi cs 76 40) (gi cs 76 45) (gi cs 106) (gi cs 107) (gi cs 108) (gi cs 110) (gi cs 111) (gi cs 112) (p 1)
def gh_2 (p : Nat → Int) (cs : ex_C) : Int := (wk_t true (gi cs 71) (gi cs 72) (gi cs 73) (Int32.ofInt (p 1)) (Int32.ofInt (p 2)) (gi cs 66 8).toInt.toNat).toInt
def gh_3 (p : Nat → Int) (cs : ex_C) : Int := (wk_t false (gi cs 110) (gi cs 111) (gi cs 112) (Int32.ofInt (p 1)) (Int32.ofInt (p 2)) (gi cs 76 45).toInt.toNat).toInt
def gh_4 (p : Nat → Int) (cs : ex_C) : Int := (wk_d true (gi cs 72) (gi cs 73) (Int32.ofInt (p 3)) (p 1).toNat (p 2).toNat).toInt
def ab_gh (n : Nat) (p : Nat → Int) (cs : ex_C) : Int := match n with
  | 0 => gh_0 p cs
  | 1 => gh_1 p cs
  | 2 => gh_2 p cs
  | 3 => gh_3 p cs
  | _ => gh_4 p cs
theorem ge_0 (p : Nat → Int) (cs : ex_C) : ab_gh 0 p cs = gh_0 p cs := by
  unfold ab_gh
  rfl
theorem ge_1 (p : Nat → Int) (cs : ex_C) : ab_gh 1 p cs = gh_1 p cs := by
  unfold ab_gh
  rfl
theorem ge_2 (p : Nat → Int) (cs : ex_C) : ab_gh 2 p cs = gh_2 p cs := by
  unfold ab_gh
  rfl
theorem ge_3 (p : Nat → Int) (cs : ex_C) : ab_gh 3 p cs = gh_3 p cs := by
  unfold ab_gh
  rfl
theorem ge_4 (p : Nat → Int) (cs : ex_C) : ab_gh 4 p cs = gh_4 p cs := by
  unfold ab_gh
  rfl
def ab_gm (n : Nat) : Nat := match n with
  | 0 => 1
  | 1 => 1
  | 2 => 2
  | 3 => 2
  | _ => 3
def ab_gs (n : Nat) : List Nat := match n with
  | 0 => [66, 67, 68, 69, 71, 72, 73]
  | 1 => [76, 106, 107, 108, 110, 111, 112]
  | 2 => [66, 71, 72, 73]
  | 3 => [76, 110, 111, 112]
  | _ => [72, 73]
theorem ab_gmk (n : Nat) : ab_gm n ≤ 9 := by
  unfold ab_gm
  split <;> omega
theorem ab_ghk {n : Nat} {p p' : Nat → Int} {cs cs' : ex_C} (h1 : ∀ i, i < ab_gm n → p (i + 1) = p' (i + 1)) (h2 : ∀ k ∈ ab_gs n, ∀ j, ab_rd cs k j = ab_rd cs' k j) : ab_gh n p cs = ab_gh n p' cs' := by
  have h3 : ∀ k ∈ ab_gs n, gi cs k = gi cs' k := fun k hk => gi_c (h2 k hk)
  match n, h1, h3 with
  | 0, h1, h3 =>
    show gh_0 p cs = gh_0 p' cs'
    have e0 : p 1 = p' 1 := h1 0 (by show 0 < 1; decide)
    have k66 : gi cs 66 = gi cs' 66 := h3 66 (by show 66 ∈ [66, 67, 68, 69, 71, 72, 73]; decide)
    have k67 : gi cs 67 = gi cs' 67 := h3 67 (by show 67 ∈ [66, 67, 68, 69, 71, 72, 73]; decide)
    have k68 : gi cs 68 = gi cs' 68 := h3 68 (by show 68 ∈ [66, 67, 68, 69, 71, 72, 73]; decide)
    have k69 : gi cs 69 = gi cs' 69 := h3 69 (by show 69 ∈ [66, 67, 68, 69, 71, 72, 73]; decide)
    have k71 : gi cs 71 = gi cs' 71 := h3 71 (by show 71 ∈ [66, 67, 68, 69, 71, 72, 73]; decide)
    have k72 : gi cs 72 = gi cs' 72 := h3 72 (by show 72 ∈ [66, 67, 68, 69, 71, 72, 73]; decide)
    have k73 : gi cs 73 = gi cs' 73 := h3 73 (by show 73 ∈ [66, 67, 68, 69, 71, 72, 73]; decide)
    unfold gh_0
    rw [e0, k66, k67, k68, k69, k71, k72, k73]
  | 1, h1, h3 =>
    show gh_1 p cs = gh_1 p' cs'
    have e0 : p 1 = p' 1 := h1 0 (by show 0 < 1; decide)
    have k76 : gi cs 76 = gi cs' 76 := h3 76 (by show 76 ∈ [76, 106, 107, 108, 110, 111, 112]; decide)
    have k106 : gi cs 106 = gi cs' 106 := h3 106 (by show 106 ∈ [76, 106, 107, 108, 110, 111, 112]; decide)
    have k107 : gi cs 107 = gi cs' 107 := h3 107 (by show 107 ∈ [76, 106, 107, 108, 110, 111, 112]; decide)
    have k108 : gi cs 108 = gi cs' 108 := h3 108 (by show 108 ∈ [76, 106, 107, 108, 110, 111, 112]; decide)
    have k110 : gi cs 110 = gi cs' 110 := h3 110 (by show 110 ∈ [76, 106, 107, 108, 110, 111, 112]; decide)
    have k111 : gi cs 111 = gi cs' 111 := h3 111 (by show 111 ∈ [76, 106, 107, 108, 110, 111, 112]; decide)
    have k112 : gi cs 112 = gi cs' 112 := h3 112 (by show 112 ∈ [76, 106, 107, 108, 110, 111, 112]; decide)
    unfold gh_1
    rw [e0, k76, k106, k107, k108, k110, k111, k112]
  | 2, h1, h3 =>
    show gh_2 p cs = gh_2 p' cs'
    have e0 : p 1 = p' 1 := h1 0 (by show 0 < 2; decide)
    have e1 : p 2 = p' 2 := h1 1 (by show 1 < 2; decide)
    have k66 : gi cs 66 = gi cs' 66 := h3 66 (by show 66 ∈ [66, 71, 72, 73]; decide)
    have k71 : gi cs 71 = gi cs' 71 := h3 71 (by show 71 ∈ [66, 71, 72, 73]; decide)
    have k72 : gi cs 72 = gi cs' 72 := h3 72 (by show 72 ∈ [66, 71, 72, 73]; decide)
    have k73 : gi cs 73 = gi cs' 73 := h3 73 (by show 73 ∈ [66, 71, 72, 73]; decide)
    unfold gh_2
    rw [e0, e1, k66, k71, k72, k73]
  | 3, h1, h3 =>
    show gh_3 p cs = gh_3 p' cs'
    have e0 : p 1 = p' 1 := h1 0 (by show 0 < 2; decide)
    have e1 : p 2 = p' 2 := h1 1 (by show 1 < 2; decide)
    have k76 : gi cs 76 = gi cs' 76 := h3 76 (by show 76 ∈ [76, 110, 111, 112]; decide)
    have k110 : gi cs 110 = gi cs' 110 := h3 110 (by show 110 ∈ [76, 110, 111, 112]; decide)
    have k111 : gi cs 111 = gi cs' 111 := h3 111 (by show 111 ∈ [76, 110, 111, 112]; decide)
    have k112 : gi cs 112 = gi cs' 112 := h3 112 (by show 112 ∈ [76, 110, 111, 112]; decide)
    unfold gh_3
    rw [e0, e1, k76, k110, k111, k112]
  | n + 4, h1, h3 =>
    show gh_4 p cs = gh_4 p' cs'
    have e0 : p 1 = p' 1 := h1 0 (by show 0 < 3; decide)
    have e1 : p 2 = p' 2 := h1 1 (by show 1 < 3; decide)
    have e2 : p 3 = p' 3 := h1 2 (by show 2 < 3; decide)
    have k72 : gi cs 72 = gi cs' 72 := h3 72 (by show 72 ∈ [72, 73]; decide)
    have k73 : gi cs 73 = gi cs' 73 := h3 73 (by show 73 ∈ [72, 73]; decide)
    unfold gh_4
    rw [e0, e1, e2, k72, k73]
/-- the class and the reference: the same, where the hours of calibrations aren't negative -/
theorem wk_dd {g e : Nat → Int32} {t : Int32} {b a : Nat} (h1 : (g b).toInt ≤ t.toInt) (h2 : t.toInt < (g a).toInt) (h3 : 0 ≤ (g b).toInt) : wk_d true g e t b a = wk_d false g e t b a := by
  unfold wk_d
  have hs : ¬ (g a - g b).toInt ≤ 0 := by
    have l1 := Int32.toInt_lt (g a)
    have e1 : (g a - g b).toInt = (g a).toInt - (g b).toInt := by
      rw [Int32.toInt_sub]
      rw [Int.bmod_eq_of_le (by omega) (by omega)]
    omega
  rw [if_neg (fun q => hs q.2), if_neg (fun q => hs q.2)]
theorem wk_tt {f g e f' g' e' : Nat → Int32} {s t : Int32} {n : Nat} (hn : n ≤ 20) (h : ∀ j, j < 20 → f j = f' j ∧ g j = g' j ∧ e j = e' j ∧ 0 ≤ (g j).toInt) : wk_t true f g e s t n = wk_t false f' g' e' s t n := by
  have hl : wk_l f g s t n = wk_l f' g' s t n := wk_c n (fun j hj => ⟨(h j (by omega)).1, (h j (by omega)).2.1⟩)
  obtain ⟨b1, b2⟩ := wk_b (f := f) (g := g) (s := s) (t := t) n
  unfold wk_t
  rw [← hl]
  generalize wk_l f g s t n = q at b1 b2 ⊢
  by_cases c1 : q.1 < 0
  · rw [if_pos c1, if_pos c1]
    by_cases c2 : q.2 < 0
    · rw [if_pos c2, if_pos c2]
    · rw [if_neg c2, if_neg c2]
      exact (h _ (by omega)).2.2.1
  · rw [if_neg c1, if_neg c1]
    by_cases c2 : q.2 < 0
    · rw [if_pos c2, if_pos c2]
      exact (h _ (by omega)).2.2.1
    · rw [if_neg c2, if_neg c2]
      have ha := h q.1.toNat (by omega)
      have hb := h q.2.toNat (by omega)
      rw [wk_dd (by omega) (by omega) ha.2.2.2]
      unfold wk_d
      rw [ha.2.1, ha.2.2.1, hb.2.1, hb.2.2.1]

def ab_hd : List ab_H := [.inl (9, [.inl 1, .inl 6, .inl 35, .inl 64, .inl 66, .inl 74, .inl 75, .inr (0, 24), .inr (1, 10000000), .inr ((-2147483648), 2147483647)]),
  .inl (7, [.inl 2, .inl 3, .inl 4, .inl 5, .inr (0, 40)]),
  .inr (0, 40, [(40, (-2147483648), 2147483647)]),
  .inr (0, 40, [(40, (-2147483648), 2147483647)]),
  .inr (0, 40, [(40, (-2147483648), 2147483647)]),
  .inr (0, 40, [(40, (-2147483648), 2147483647)]),
  .inl (8, [.inl 1, .inl 7, .inl 14, .inl 21, .inl 33, .inl 34, .inr ((-2147483648), 2147483647)]),
  .inl (0, [.inl 8, .inl 9, .inl 10, .inl 11, .inl 12, .inl 13, .inr (0, 6), .inr (0, 8)]),
  .inr (0, 30, [(30, (-2147483648), 2147483647)]),
  .inr (0, 6, [(6, (-2147483648), 2147483647)]),
  .inr (0, 8, [(8, 0, 5)]),
  .inr (0, 8, [(8, 0, 5)]),
  .inr (1, 8, [(8, 0, 1)]),
  .inr (0, 6, [(6, (-2147483648), 2147483647)]),
  .inl (3, [.inl 15, .inl 16, .inl 17, .inl 18, .inl 19, .inl 20, .inr (0, 6)]),
  .inr (0, 6, [(6, 0, 5)]),
  .inr (0, 6, [(6, 0, 2)]),
  .inr (0, 6, [(6, (-1), 9)]),
  .inr (0, 6, [(6, (-2147483648), 2147483647)]),
  .inr (0, 6, [(6, (-2147483648), 2147483647)]),
  .inr (0, 6, [(6, (-2147483648), 2147483647)]),
  .inl (6, [.inl 22, .inl 23, .inl 24, .inl 25, .inl 26, .inl 27, .inl 28, .inl 29, .inl 30, .inl 31, .inl 32, .inr (0, 10), .inr ((-2147483648), 2147483647), .inr ((-2147483648), 2147483647), .inr ((-2147483648), 2147483647)]),
  .inr (0, 10, [(10, 0, 5)]),
  .inr (0, 10, [(10, 0, 5)]),
  .inr (0, 10, [(10, (-2147483648), 2147483647)]),
  .inr (0, 10, [(10, (-2147483648), 2147483647)]),
  .inr (0, 10, [(10, (-2147483648), 2147483647)]),
  .inr (0, 10, [(10, (-2147483648), 2147483647)]),
  .inr (0, 10, [(10, (-2147483648), 2147483647)]),
  .inr (1, 10, [(10, 0, 1)]),
  .inr (1, 10, [(10, 0, 1)]),
  .inr (1, 10, [(10, 0, 1)]),
  .inr (0, 6, [(6, (-2147483648), 2147483647)]),
  .inl (1, [.inr ((-2147483648), 2147483647), .inr ((-2147483648), 2147483647), .inr ((-2147483648), 2147483647), .inr (0, 1), .inr ((-2147483648), 2147483647), .inr ((-2147483648), 2147483647)]),
  .inl (2, [.inr (0, 1), .inr (0, 1), .inr (0, 1), .inr ((-2147483648), 2147483647), .inr ((-2147483648), 2147483647), .inr ((-2147483648), 2147483647), .inr ((-2147483648), 2147483647)]),
  .inl (8, [.inl 1, .inl 36, .inl 43, .inl 50, .inl 62, .inl 63, .inr ((-2147483648), 2147483647)]),
  .inl (0, [.inl 37, .inl 38, .inl 39, .inl 40, .inl 41, .inl 42, .inr (0, 6), .inr (0, 8)]),
  .inr (0, 30, [(30, (-2147483648), 2147483647)]),
  .inr (0, 6, [(6, (-2147483648), 2147483647)]),
  .inr (0, 8, [(8, 0, 5)]),
  .inr (0, 8, [(8, 0, 5)]),
  .inr (1, 8, [(8, 0, 1)]),
  .inr (0, 6, [(6, (-2147483648), 2147483647)]),
  .inl (3, [.inl 44, .inl 45, .inl 46, .inl 47, .inl 48, .inl 49, .inr (0, 6)]),
  .inr (0, 6, [(6, 0, 5)]),
  .inr (0, 6, [(6, 0, 2)]),
  .inr (0, 6, [(6, (-1), 9)]),
  .inr (0, 6, [(6, (-2147483648), 2147483647)]),
  .inr (0, 6, [(6, (-2147483648), 2147483647)]),
  .inr (0, 6, [(6, (-2147483648), 2147483647)]),
  .inl (6, [.inl 51, .inl 52, .inl 53, .inl 54, .inl 55, .inl 56, .inl 57, .inl 58, .inl 59, .inl 60, .inl 61, .inr (0, 10), .inr ((-2147483648), 2147483647), .inr ((-2147483648), 2147483647), .inr ((-2147483648), 2147483647)]),
  .inr (0, 10, [(10, 0, 5)]),
  .inr (0, 10, [(10, 0, 5)]),
  .inr (0, 10, [(10, (-2147483648), 2147483647)]),
  .inr (0, 10, [(10, (-2147483648), 2147483647)]),
  .inr (0, 10, [(10, (-2147483648), 2147483647)]),
  .inr (0, 10, [(10, (-2147483648), 2147483647)]),
  .inr (0, 10, [(10, (-2147483648), 2147483647)]),
  .inr (1, 10, [(10, 0, 1)]),
  .inr (1, 10, [(10, 0, 1)]),
  .inr (1, 10, [(10, 0, 1)]),
  .inr (0, 6, [(6, (-2147483648), 2147483647)]),
  .inl (1, [.inr ((-2147483648), 2147483647), .inr ((-2147483648), 2147483647), .inr ((-2147483648), 2147483647), .inr (0, 1), .inr ((-2147483648), 2147483647), .inr ((-2147483648), 2147483647)]),
  .inl (2, [.inr (0, 1), .inr (0, 1), .inr (0, 1), .inr ((-2147483648), 2147483647), .inr ((-2147483648), 2147483647), .inr ((-2147483648), 2147483647), .inr ((-2147483648), 2147483647)]),
  .inl (4, [.inl 65, .inr ((-2147483648), 2147483647)]),
  .inr (0, 6, [(6, (-2147483648), 2147483647)]),
  .inl (5, [.inl 67, .inl 68, .inl 69, .inl 70, .inl 71, .inl 72, .inl 73, .inr (0, 40), .inr (0, 20), .inr ((-2147483648), 2147483647)]),
  .inr (0, 40, [(40, (-2147483648), 2147483647)]),
  .inr (0, 40, [(40, (-2147483648), 2147483647)]),
  .inr (0, 40, [(40, (-2147483648), 2147483647)]),
  .inr (0, 40, [(40, (-2147483648), 2147483647)]),
  .inr (0, 20, [(20, (-2147483648), 2147483647)]),
  .inr (0, 20, [(20, (-2147483648), 2147483647)]),
  .inr (0, 20, [(20, (-2147483648), 2147483647)]),
  .inr (0, 24, [(24, (-2147483648), 2147483647)]),
  .inr (0, 6, [(6, (-2147483648), 2147483647)]),
  .inl (10, [.inr (0, 6), .inl 77, .inl 78, .inl 79, .inr (0, 8), .inl 80, .inl 81, .inl 82, .inl 83, .inr (0, 6), .inl 84, .inl 85, .inl 86, .inl 87, .inl 88, .inl 89, .inr (0, 10), .inl 90, .inl 91, .inl 92, .inl 93, .inl 94, .inl 95, .inl 96, .inl 97, .inl 98, .inl 99, .inl 100, .inl 101, .inr ((-2147483648), 2147483647), .inr ((-2147483648), 2147483647), .inr ((-2147483648), 2147483647), .inr ((-2147483648), 2147483647), .inr ((-2147483648), 2147483647), .inr (0, 40), .inl 102, .inl 103, .inl 104, .inl 105, .inr ((-2147483648), 2147483647), .inr (0, 40), .inl 106, .inl 107, .inl 108, .inl 109, .inr (0, 20), .inl 110, .inl 111, .inl 112, .inr ((-2147483648), 2147483647), .inr (1, 10000000), .inr ((-2147483648), 2147483647), .inr (0, 24), .inl 113, .inl 114, .inl 115, .inr ((-2147483648), 2147483647)]),
  .inr (0, 24, [(24, (-2147483648), 2147483647)]),
  .inr (0, 6, [(6, (-2147483648), 2147483647)]),
  .inr (0, 6, [(6, (-2147483648), 2147483647)]),
  .inr (0, 8, [(8, 0, 5)]),
  .inr (0, 8, [(8, 0, 5)]),
  .inr (0, 8, [(8, (-2147483648), 2147483647)]),
  .inr (0, 6, [(6, (-2147483648), 2147483647)]),
  .inr (0, 6, [(6, 0, 5)]),
  .inr (0, 6, [(6, (-2147483648), 2147483647)]),
  .inr (0, 6, [(6, (-1), 9)]),
  .inr (0, 6, [(6, (-2147483648), 2147483647)]),
  .inr (0, 6, [(6, (-2147483648), 2147483647)]),
  .inr (0, 6, [(6, (-2147483648), 2147483647)]),
  .inr (0, 10, [(10, 0, 5)]),
  .inr (0, 10, [(10, 0, 5)]),
  .inr (0, 10, [(10, (-2147483648), 2147483647)]),
  .inr (0, 10, [(10, (-2147483648), 2147483647)]),
  .inr (0, 10, [(10, (-2147483648), 2147483647)]),
  .inr (0, 10, [(10, (-2147483648), 2147483647)]),
  .inr (0, 10, [(10, (-2147483648), 2147483647)]),
  .inr (0, 10, [(10, (-2147483648), 2147483647)]),
  .inr (0, 10, [(10, (-2147483648), 2147483647)]),
  .inr (0, 10, [(10, (-2147483648), 2147483647)]),
  .inr (0, 6, [(6, (-2147483648), 2147483647)]),
  .inr (0, 11, [(11, (-2147483648), 2147483647)]),
  .inr (0, 40, [(40, (-2147483648), 2147483647)]),
  .inr (0, 40, [(40, (-2147483648), 2147483647)]),
  .inr (0, 40, [(40, (-2147483648), 2147483647)]),
  .inr (0, 40, [(40, (-2147483648), 2147483647)]),
  .inr (0, 40, [(40, (-2147483648), 2147483647)]),
  .inr (0, 40, [(40, (-2147483648), 2147483647)]),
  .inr (0, 40, [(40, (-2147483648), 2147483647)]),
  .inr (0, 40, [(40, (-2147483648), 2147483647)]),
  .inr (0, 20, [(20, (-2147483648), 2147483647)]),
  .inr (0, 20, [(20, (-2147483648), 2147483647)]),
  .inr (0, 20, [(20, (-2147483648), 2147483647)]),
  .inr (0, 24, [(24, (-2147483648), 2147483647)]),
  .inr (0, 6, [(6, (-2147483648), 2147483647)]),
  .inr (0, 160, [(24, (-2147483648), 2147483647), (6, (-2147483648), 2147483647), (8, (-2147483648), 2147483647), (6, (-2147483648), 2147483647), (6, 0, 5), (6, (-2147483648), 2147483647), (6, (-1), 9), (6, (-2147483648), 2147483647), (6, (-2147483648), 2147483647), (6, (-2147483648), 2147483647), (10, (-2147483648), 2147483647), (10, (-2147483648), 2147483647), (10, (-2147483648), 2147483647), (10, (-2147483648), 2147483647), (6, (-2147483648), 2147483647), (11, (-2147483648), 2147483647), (160, (-2147483648), 2147483647)])]
def ab_xs : List (Nat × Int × Int × List Int) := [(6, (-1), 3, [(-1), 0, 0, 0, 3, 0]), (3, 4, 14, [4, 6, 14]), (3, 10, 40, [10, 15, 40])]
/-- many words at once -/
def ec_al : List (Nat × Cond) → Prop
  | [] => True
  | q :: r => q.2 ∈ ec_tb ∧ ec_al r
theorem ec_alk : ∀ {l : List (Nat × Cond)}, l.all (fun q => decide (lw_tbl[q.1]? = some q.2) && goodWord q.2) = true → ec_al l
  | [], _ => trivial
  | q :: r, h => by
    obtain ⟨h1, h2⟩ := ab_b h
    obtain ⟨h3, h4⟩ := ab_a h1
    exact ⟨ec_in h3 h4, ec_alk h2⟩
theorem ec_okp {l : Launch} {fr lo : Nat} {own : String} {fp : List (Nat × Nat)} {fl : List (Nat × Nat × Nat × Bool × FieldType)} {cl : List (Nat × Int32)} {sl : Nat → Option Nat} {ca : Nat → Option (Nat × Option Nat × ex_S)} (hf : fl.all (ec_fchk own fp) = true) (hc : cl.all (fun q => decide (Cond.constant own q.1 q.2 ∈ lw_tbl) && goodWord (Cond.constant own q.1 q.2)) = true) (hs : ∀ (ix j : Nat), sl ix = some j → ∃ C n dd, (C, n, dd, j) ∈ ec_zs ∧ Cond.fieldLink own ix C n dd ∈ ec_tb) (hk : ∀ (ix n : Nat) (rc : Option Nat) (sp : ex_S), ca ix = some (n, rc, sp) → ex_cok l own fr lo ix n rc sp) : ex_ok l fr lo (own, ec_fx fl, ec_cx cl, sl, ca, ec_nz, ec_no) := ⟨ec_fok hf, ec_cok hc, hs, hk, fun _ h => (by cases h), fun _ h => (by cases h), fun _ h => (by cases h), fun _ _ h => (by cases h)⟩
theorem ec_okn {l : Launch} {own : String} {fr lo : Nat} : ∀ (ix n : Nat) (rc : Option Nat) (sp : ex_S), (ec_no ix : Option (Nat × Option Nat × List ab_C)).map (fun q => (q.1, q.2.1, ab_sp ab_hd q.2.2)) = some (n, rc, sp) → ex_cok l own fr lo ix n rc sp := fun _ _ _ _ h => (by cases h)
theorem pn_RJ6 : plainName RJ6 = true := by decide
theorem pn_RX0 : plainName RX0 = true := by decide
theorem pn_RX1 : plainName RX1 = true := by decide
theorem pn_RX10 : plainName RX10 = true := by decide
theorem pn_RX2 : plainName RX2 = true := by decide
theorem pn_RX3 : plainName RX3 = true := by decide
theorem pn_RX4 : plainName RX4 = true := by decide
theorem pn_RX5 : plainName RX5 = true := by decide
theorem pn_RX6 : plainName RX6 = true := by decide
theorem pn_RX7 : plainName RX7 = true := by decide
theorem pn_RX8 : plainName RX8 = true := by decide
theorem pn_RX9 : plainName RX9 = true := by decide
theorem nc_RJ6 : RJ6 ≠ "java/lang/invoke/MethodHandle" ∧ RJ6 ≠ "java/lang/invoke/VarHandle" := ⟨by decide, by decide⟩
theorem nc_RX0 : RX0 ≠ "java/lang/invoke/MethodHandle" ∧ RX0 ≠ "java/lang/invoke/VarHandle" := ⟨by decide, by decide⟩
theorem nc_RX1 : RX1 ≠ "java/lang/invoke/MethodHandle" ∧ RX1 ≠ "java/lang/invoke/VarHandle" := ⟨by decide, by decide⟩
theorem nc_RX10 : RX10 ≠ "java/lang/invoke/MethodHandle" ∧ RX10 ≠ "java/lang/invoke/VarHandle" := ⟨by decide, by decide⟩
theorem nc_RX2 : RX2 ≠ "java/lang/invoke/MethodHandle" ∧ RX2 ≠ "java/lang/invoke/VarHandle" := ⟨by decide, by decide⟩
theorem nc_RX3 : RX3 ≠ "java/lang/invoke/MethodHandle" ∧ RX3 ≠ "java/lang/invoke/VarHandle" := ⟨by decide, by decide⟩
theorem nc_RX4 : RX4 ≠ "java/lang/invoke/MethodHandle" ∧ RX4 ≠ "java/lang/invoke/VarHandle" := ⟨by decide, by decide⟩
theorem nc_RX5 : RX5 ≠ "java/lang/invoke/MethodHandle" ∧ RX5 ≠ "java/lang/invoke/VarHandle" := ⟨by decide, by decide⟩
theorem nc_RX6 : RX6 ≠ "java/lang/invoke/MethodHandle" ∧ RX6 ≠ "java/lang/invoke/VarHandle" := ⟨by decide, by decide⟩
theorem nc_RX7 : RX7 ≠ "java/lang/invoke/MethodHandle" ∧ RX7 ≠ "java/lang/invoke/VarHandle" := ⟨by decide, by decide⟩
theorem nc_RX8 : RX8 ≠ "java/lang/invoke/MethodHandle" ∧ RX8 ≠ "java/lang/invoke/VarHandle" := ⟨by decide, by decide⟩
theorem nc_RX9 : RX9 ≠ "java/lang/invoke/MethodHandle" ∧ RX9 ≠ "java/lang/invoke/VarHandle" := ⟨by decide, by decide⟩
def ab_tr : List (Nat × Nat) := [(7, 6), (76, 0), (7, 7), (76, 4), (10, 0), (80, 0), (10, 1), (80, 1), (10, 2), (80, 2), (10, 3), (80, 3), (10, 4), (80, 4), (10, 5), (80, 5), (10, 6), (80, 6), (10, 7), (80, 7), (11, 0), (81, 0), (11, 1), (81, 1), (11, 2), (81, 2), (11, 3), (81, 3), (11, 4), (81, 4), (11, 5), (81, 5), (11, 6), (81, 6), (11, 7), (81, 7), (64, 1), (76, 39)]
theorem ab_xk : ab_xo ab_xs ec_xt := by
  intro j q h
  match j, h with
  | 0, h =>
    cases h
    refine ⟨_, rfl, fun i hi => ?_⟩
    rcases (show i = 0 ∨ i = 1 ∨ i = 2 ∨ i = 3 ∨ i = 4 ∨ i = 5 by omega) with rfl | rfl | rfl | rfl | rfl | rfl <;> exact ⟨by decide, fun v hv => by cases hv; decide⟩
  | 1, h =>
    cases h
    refine ⟨_, rfl, fun i hi => ?_⟩
    rcases (show i = 0 ∨ i = 1 ∨ i = 2 by omega) with rfl | rfl | rfl <;> exact ⟨by decide, fun v hv => by cases hv; decide⟩
  | 2, h =>
    cases h
    refine ⟨_, rfl, fun i hi => ?_⟩
    rcases (show i = 0 ∨ i = 1 ∨ i = 2 by omega) with rfl | rfl | rfl <;> exact ⟨by decide, fun v hv => by cases hv; decide⟩
  | n + 3, h => simp [ab_xs] at h
theorem ab_hcm {cm : Nat → Option (Nat × Option Nat × List ab_C)} {hd : List ab_H} : ∀ ix q, cm ix = some q → (cm ix).map (fun q => (q.1, q.2.1, ab_sp hd q.2.2)) = some (q.1, q.2.1, ab_sp hd q.2.2) := by
  intro ix q h
  rw [h]
  rfl
theorem ab_dmk {cm : Nat → Option (Nat × Option Nat × List ab_C)} {hd : List ab_H} {ix n : Nat} {rc : Option Nat} {sp : ex_S} (h : (cm ix).map (fun q => (q.1, q.2.1, ab_sp hd q.2.2)) = some (n, rc, sp)) : ∃ l, cm ix = some (n, rc, l) ∧ sp = ab_sp hd l := by
  cases hc : cm ix with
  | none => rw [hc] at h; cases h
  | some q =>
    rw [hc] at h
    cases h
    exact ⟨_, rfl, rfl⟩

/-! the last reading that fits -/
def kn_l (f g : Nat → Int) (s t : Int) : Nat → Int
  | 0 => -1
  | r + 1 => if f r = s ∧ g r ≤ t then (r : Int) else kn_l f g s t r
theorem kn_no {f g : Nat → Int} {s t : Int} {r : Nat} (h : ¬ (f r = s ∧ g r ≤ t)) : kn_l f g s t (r + 1) = kn_l f g s t r := by
  show (if f r = s ∧ g r ≤ t then (r : Int) else kn_l f g s t r) = _
  rw [if_neg h]
theorem kn_ye {f g : Nat → Int} {s t : Int} {r : Nat} (h : f r = s ∧ g r ≤ t) : kn_l f g s t (r + 1) = (r : Int) := by
  show (if f r = s ∧ g r ≤ t then (r : Int) else kn_l f g s t r) = _
  rw [if_pos h]
theorem kn_b {f g : Nat → Int} {s t : Int} : ∀ n : Nat, -1 ≤ kn_l f g s t n ∧ kn_l f g s t n < (n : Int)
  | 0 => ⟨Int.le_refl _, (by show (-1 : Int) < 0; omega)⟩
  | n + 1 => by
    have ih := kn_b (f := f) (g := g) (s := s) (t := t) n
    by_cases h : f n = s ∧ g n ≤ t
    · rw [kn_ye h]
      omega
    · rw [kn_no h]
      omega
theorem kn_c {f g f' g' : Nat → Int} {s t : Int} : ∀ n : Nat, (∀ j, j < n → f j = f' j ∧ g j = g' j) → kn_l f g s t n = kn_l f' g' s t n
  | 0, _ => rfl
  | n + 1, h => by
    have h1 := h n (Nat.lt_succ_self n)
    have ih := kn_c (s := s) (t := t) n (fun j hj => h j (Nat.lt_succ_of_lt hj))
    show (if f n = s ∧ g n ≤ t then (n : Int) else kn_l f g s t n) = (if f' n = s ∧ g' n ≤ t then (n : Int) else kn_l f' g' s t n)
    rw [h1.1, h1.2, ih]
def gh_a (cs : ex_C) (k j : Nat) : Int := (ab_ri cs k j).getD 0
theorem gh_ac {cs cs' : ex_C} {k : Nat} (h : ∀ j, ab_rd cs k j = ab_rd cs' k j) : gh_a cs k = gh_a cs' k := by
  funext j
  unfold gh_a ab_ri
  rw [h j]
def kn_g (cs : ex_C) (a b c d : Nat) (p : Nat → Int) : Int := kn_l (gh_a cs c) (gh_a cs d) (p 1) (p 2) (min (gh_a cs a b).toNat 40)
def ab_gh (n : Nat) (p : Nat → Int) (cs : ex_C) : Int := if n = 0 then kn_g cs 66 7 67 70 p else kn_g cs 76 40 106 109 p
def ab_gm (_ : Nat) : Nat := 2
def ab_gs (n : Nat) : List Nat := if n = 0 then [66, 67, 70] else [76, 106, 109]
theorem ab_gmk (n : Nat) : ab_gm n ≤ 9 := by unfold ab_gm; omega
theorem kn_gc {cs cs' : ex_C} {p p' : Nat → Int} {a b c d : Nat} (h1 : ∀ i, i < 2 → p (i + 1) = p' (i + 1)) (h2 : ∀ k ∈ [a, c, d], ∀ j, ab_rd cs k j = ab_rd cs' k j) : kn_g cs a b c d p = kn_g cs' a b c d p' := by
  unfold kn_g
  rw [gh_ac (h2 a (by simp)), gh_ac (h2 c (by simp)), gh_ac (h2 d (by simp)), h1 0 (by omega), h1 1 (by omega)]
theorem ab_ghk {n : Nat} {p p' : Nat → Int} {cs cs' : ex_C} (h1 : ∀ i, i < ab_gm n → p (i + 1) = p' (i + 1)) (h2 : ∀ k ∈ ab_gs n, ∀ j, ab_rd cs k j = ab_rd cs' k j) : ab_gh n p cs = ab_gh n p' cs' := by
  unfold ab_gh
  unfold ab_gs at h2
  split
  · rename_i e
    rw [if_pos e] at h2
    exact kn_gc h1 h2
  · rename_i e
    rw [if_neg e] at h2
    exact kn_gc h1 h2

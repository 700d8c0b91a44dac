/-! calls told apart by the value of a cell -/
def am_tc (base : am_P) (c d : ab_C) (prs : am_P) : am_P := prs.filter (fun p => ab_cov c.2.2.1 p.1.1 p.1.2 || (ab_cov d.2.2.1 p.2.1 p.2.2 || decide (p ∈ base)))
def am_jm (prs base : am_P) (cmp : Bool) (c d : ab_C) : Bool := (c.2.2.2.map (am_nm some ((am_tc base c d prs).map (fun p => (p.1, ab_cov c.2.2.1 p.1.1 p.1.2))))).all (fun n => (d.2.2.2.map (am_nm (am_tr (am_tc base c d prs) [] 9) ((am_tc base c d prs).map (fun p => (p.2, ab_cov d.2.2.1 p.2.1 p.2.2))))).all (am_ok cmp n))
theorem am_mainj {prs base : am_P} {cmp : Bool} {c d : ab_C} {v0 v1 : Value} {ps : ex_V} {x y : Int32} {cs cs1 cs2 : ex_C} (hw : am_wf prs c d = true) (h : am_jm prs base cmp c d = true) (h1 : ab_post ab_hd c (v0 :: ps) cs (some (.int x)) cs1) (h2 : ab_post ab_hd d (v1 :: ps) cs1 (some (.int y)) cs2) (hR : am_R prs cs) : (cmp = true → x = y) ∧ am_R prs cs2 := by
  have hsub : ∀ p ∈ am_tc base c d prs, p ∈ prs := fun p hp => (List.mem_filter.mp hp).1
  have hw' : am_wf (am_tc base c d prs) c d = true := by
    unfold am_wf at hw ⊢
    rw [List.all_eq_true] at hw ⊢
    exact fun p hp => hw p (hsub p hp)
  have r := am_main (gp := []) hw' rfl rfl rfl rfl h h1 h2 (fun p hp => hR p (hsub p hp)) (fun _ p hp => (by cases hp))
  refine ⟨r.1, fun p hp => ?_⟩
  by_cases hm : p ∈ am_tc base c d prs
  · exact r.2 p hm
  · have hn : (ab_cov c.2.2.1 p.1.1 p.1.2 || (ab_cov d.2.2.1 p.2.1 p.2.2 || decide (p ∈ base))) = false := by
      cases hq : (ab_cov c.2.2.1 p.1.1 p.1.2 || (ab_cov d.2.2.1 p.2.1 p.2.2 || decide (p ∈ base))) with
      | false => rfl
      | true => exact absurd (List.mem_filter.mpr ⟨hp, hq⟩) hm
    obtain ⟨n1, n2⟩ := (Bool.or_eq_false_iff).mp hn
    obtain ⟨n3, -⟩ := (Bool.or_eq_false_iff).mp n2
    obtain ⟨-, a2⟩ := ab_b (List.all_eq_true.mp hw p hp)
    obtain ⟨a3, a4⟩ := ab_b a2
    obtain ⟨z, z1, z2⟩ := hR p hp
    refine ⟨z, ?_, ?_⟩
    · rw [am_frr h2.2.1 (by simpa using a4), am_frr h1.2.1 n1]
      exact z1
    · rw [am_frr h2.2.1 n3, am_frr h1.2.1 (by simpa using a3)]
      exact z2
def am_jck (prs base : am_P) (cmp : Bool) (bs : am_D) (ts9 ts10 : List ab_T) (k9 k10 : Nat × Nat) (j : Nat) (c d : ab_C) : Bool := (decide (c.1 = ts9) && (decide (d.1 = ts10) && (decide (c.2.1 = [((1, k9.1, k9.2), (j : Int), (j : Int), none)]) && decide (d.2.1 = [((1, k10.1, k10.2), (j : Int), (j : Int), none)])))) && (c.2.2.2.all (fun k => k.1.isSome) && (d.2.2.2.all (fun k => k.1.isSome) && (am_wf prs c d && (c.2.2.2.all (am_bc bs c.2.2.1) && am_jm prs base cmp c d))))
def am_jal (prs base : am_P) (cmp : Bool) (bs : am_D) (ts9 ts10 : List ab_T) (k9 k10 : Nat × Nat) (l m : List ab_C) (n : Nat) : Bool := (List.range n).all (fun j => match l[j]?, m[j]? with
  | some c, some d => am_jck prs base cmp bs ts9 ts10 k9 k10 j c d
  | _, _ => false)
theorem am_jpre {c : ab_C} {ts : List ab_T} {k : Nat × Nat} {j : Nat} {av : ex_V} {cs : ex_C} (h1 : c.1 = ts) (h2 : c.2.1 = [((1, k.1, k.2), (j : Int), (j : Int), none)]) (hz : ab_ri cs k.1 k.2 = some (j : Int)) (hp : av.length = ts.length ∧ ∀ (i : Nat) t, ts[i]? = some t → ∃ v, av[i]? = some v ∧ ab_ct t v) : ab_pre c av cs := by
  refine ⟨by rw [h1]; exact hp.1, fun i t ht => hp.2 i t (by rw [← h1]; exact ht), fun q hq => ?_⟩
  rw [h2] at hq
  rcases List.mem_singleton.mp hq with rfl
  exact ⟨(j : Int), hz, Int.le_refl _, Int.le_refl _, fun _ h => (by cases h)⟩
theorem am_pick {prs base : am_P} {cmp : Bool} {bs : am_D} {ts9 ts10 : List ab_T} {k9 k10 : Nat × Nat} {l m : List ab_C} {n : Nat} {v0 v1 : Value} {ps : ex_V} {cs : ex_C} (hs : am_bp prs bs = true) (hw : am_bw bs = true) (hj : am_jal prs base cmp bs ts9 ts10 k9 k10 l m n = true) (hm : (k9, k10) ∈ prs) (hb : ∀ z, ab_ri cs k9.1 k9.2 = some z → 0 ≤ z ∧ z < (n : Int)) (hp9 : (v0 :: ps).length = ts9.length ∧ ∀ (i : Nat) t, ts9[i]? = some t → ∃ v, (v0 :: ps)[i]? = some v ∧ ab_ct t v) (hp10 : (v1 :: ps).length = ts10.length ∧ ∀ (i : Nat) t, ts10[i]? = some t → ∃ v, (v1 :: ps)[i]? = some v ∧ ab_ct t v) (hR : am_R prs cs) (hB : am_B bs cs) : ∃ c ∈ l, ab_pre c (v0 :: ps) cs ∧ c.2.2.2.all (fun k => k.1.isSome) = true ∧ ∀ x cs1, ab_post ab_hd c (v0 :: ps) cs (some (.int x)) cs1 → ∃ d ∈ m, ab_pre d (v1 :: ps) cs1 ∧ d.2.2.2.all (fun k => k.1.isSome) = true ∧ ∀ y cs2, ab_post ab_hd d (v1 :: ps) cs1 (some (.int y)) cs2 → (cmp = true → x = y) ∧ am_R prs cs2 ∧ am_B bs cs2 := by
  obtain ⟨z, z1, z2⟩ := hR _ hm
  obtain ⟨b1, b2⟩ := hb z z1
  obtain ⟨j, rfl⟩ : ∃ j : Nat, z = (j : Int) := ⟨z.toNat, by omega⟩
  have hjn : j < n := by omega
  have h1 := List.all_eq_true.mp hj j (List.mem_range.mpr hjn)
  split at h1
  · rename_i c d hc hd
    obtain ⟨h2, h3⟩ := ab_b h1
    obtain ⟨t1, h2⟩ := ab_b h2
    obtain ⟨t2, h2⟩ := ab_b h2
    obtain ⟨t3, t4⟩ := ab_b h2
    obtain ⟨i1, h3⟩ := ab_b h3
    obtain ⟨i2, h3⟩ := ab_b h3
    obtain ⟨wf, h3⟩ := ab_b h3
    obtain ⟨hbc, hjm⟩ := ab_b h3
    refine ⟨c, List.mem_of_getElem? hc, am_jpre (of_decide_eq_true t1) (of_decide_eq_true t3) z1 hp9, i1, fun x cs1 p1 => ?_⟩
    have wp := ab_b (List.all_eq_true.mp wf _ hm)
    have z3 : ab_ri cs1 k10.1 k10.2 = some (j : Int) := by
      rw [am_frr p1.2.1 (by simpa using (ab_b wp.2).1)]
      exact z2
    refine ⟨d, List.mem_of_getElem? hd, am_jpre (of_decide_eq_true t2) (of_decide_eq_true t4) z3 hp10, i2, fun y cs2 p2 => ?_⟩
    have r := am_mainj wf hjm p1 p2 hR
    exact ⟨r.1, r.2, am_bstep hs hw hbc wf p1 p2 hB⟩
  · cases h1
theorem am_hb {k j ci : Nat} {ts : List ab_T} {lo hi : Int} {cs : ex_C} (hk : ab_hk ab_hd cs) (ho : ab_hd[k]? = some (.inl (ci, ts))) (ht : ts[j]? = some (.inr (lo, hi))) : ∀ z, ab_ri cs k j = some z → lo ≤ z ∧ z ≤ hi := by
  intro z hz
  obtain ⟨fs, h1, -, h2⟩ := hk.2 k _ ho
  obtain ⟨v, h3, x, rfl, h4, h5⟩ := h2 j _ ht
  unfold ab_ri ab_rd at hz
  rw [h1] at hz
  simp only [h3] at hz
  cases hz
  exact ⟨h4, h5⟩

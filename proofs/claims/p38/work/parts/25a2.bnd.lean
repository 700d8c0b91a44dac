/-! bounds of cells of the class, kept by every call -/
abbrev am_D : Type := List ((Nat × Nat) × Int × Int)
def am_B (bs : am_D) (cs : ex_C) : Prop := ∀ b ∈ bs, ∃ z, ab_ri cs b.1.1 b.1.2 = some z ∧ b.2.1 ≤ z ∧ z ≤ b.2.2
def am_9f (i : Nat) (o : Option (Nat × Nat × Nat)) : Option (Nat × Nat) := match o with
  | some e => if e.1 = 9 ∧ i / 1000000000 = 1 ∧ e.2.1 / 1000000000 = 0 then some e.2 else none
  | none => none
def am_d9c (i : Nat) : Option (Nat × Nat) := am_9f i ab_dt[i - 1000000000]?
def am_bl (bs : am_D) (fs : ab_F) (i : Nat) (v : Int) : Bool := fs.any (fun f => decide (f.1 = (8, i, 0) ∧ v ≤ f.2.1)) || (bs.any (fun b => decide (am_no b.1 = i ∧ v ≤ b.2.1)) || (match am_d9c i with
  | some e => bs.any (fun b => decide (am_no b.1 = e.1 ∧ v ≤ b.2.1 + (e.2 : Int) ∧ -2147483648 ≤ b.2.1 + (e.2 : Int) ∧ b.2.2 + (e.2 : Int) ≤ 2147483647))
  | none => false))
def am_bh (bs : am_D) (fs : ab_F) (i : Nat) (v : Int) : Bool := fs.any (fun f => decide (f.1 = (8, i, 0) ∧ f.2.2.1 ≤ v)) || (bs.any (fun b => decide (am_no b.1 = i ∧ b.2.2 ≤ v)) || (match am_d9c i with
  | some e => bs.any (fun b => decide (am_no b.1 = e.1 ∧ b.2.2 + (e.2 : Int) ≤ v ∧ -2147483648 ≤ b.2.1 + (e.2 : Int) ∧ b.2.2 + (e.2 : Int) ≤ 2147483647))
  | none => false))
def am_bd (f : Int → Int → Bool) (k : Nat → Int → Bool) (a b : Int) (d : Option (Nat × Int)) : Bool := f a b || (match d with
  | some d => k d.1 (a - d.2)
  | none => false)
def am_bc (bs : am_D) (W : ab_W) (s : ab_Cs) : Bool := bs.all (fun b => !ab_cov W b.1.1 b.1.2 || s.2.2.any (fun f => decide (f.1 = (1, b.1.1, b.1.2)) && (am_bd (fun x y => decide (x ≤ y)) (am_bl bs s.2.1) b.2.1 f.2.1 f.2.2.2 && am_bd (fun x y => decide (y ≤ x)) (am_bh bs s.2.1) b.2.2 f.2.2.1 f.2.2.2)))
def am_bw (bs : am_D) : Bool := bs.all (fun b => decide (b.1.2 < 1000 ∧ am_no b.1 < 900000000))
theorem am_bn {bs : am_D} {lv : ex_L} {cs : ex_C} (hw : am_bw bs = true) (hB : am_B bs cs) {b : (Nat × Nat) × Int × Int} (hb : b ∈ bs) : b.2.1 ≤ ab_oo lv cs (am_no b.1) ∧ ab_oo lv cs (am_no b.1) ≤ b.2.2 := by
  obtain ⟨z, h1, h2, h3⟩ := hB b hb
  obtain ⟨w1, w2⟩ := of_decide_eq_true (List.all_eq_true.mp hw b hb)
  rw [am_onc (lv := lv) w1 w2 h1]
  exact ⟨h2, h3⟩
theorem am_dg9 {x y : Int} {c : Nat} : ab_dg 9 x y c = (x + (c : Int)).bmod (2 ^ 32) := by
  unfold ab_dg
  rfl
theorem am_9i {i : Nat} (h : i / 1000000000 = 1) : i = 1000000000 + (i - 1000000000) := by omega
theorem am_9j {i : Nat} (h : i / 1000000000 = 0) : i < 1000000000 := by omega
theorem am_9q {q : Nat × Nat × Nat} {e : Nat × Nat} (h1 : q.1 = 9) (h2 : q.2 = e) : q = (9, e.1, e.2) := by
  obtain ⟨a, b, c⟩ := q
  cases h2
  have h1' : a = 9 := h1
  rw [h1']
theorem am_9z {o : Option (Nat × Nat × Nat)} {i : Nat} {e : Nat × Nat} (h : am_9f i o = some e) : o = some (9, e.1, e.2) ∧ i / 1000000000 = 1 ∧ e.1 / 1000000000 = 0 := by
  cases o with
  | none => cases h
  | some q =>
    have h' : (if q.1 = 9 ∧ i / 1000000000 = 1 ∧ q.2.1 / 1000000000 = 0 then some q.2 else none) = some e := h
    by_cases c : q.1 = 9 ∧ i / 1000000000 = 1 ∧ q.2.1 / 1000000000 = 0
    · rw [if_pos c] at h'
      have e1 := Option.some.inj h'
      refine ⟨congrArg some (am_9q c.1 e1), c.2.1, ?_⟩
      rw [← e1]
      exact c.2.2
    · rw [if_neg c] at h'
      cases h'
theorem am_9a {i : Nat} {e : Nat × Nat} (h : am_d9c i = some e) : ∃ n, i = 1000000000 + n ∧ ab_dt[n]? = some (9, e.1, e.2) ∧ e.1 < 1000000000 := by
  unfold am_d9c at h
  obtain ⟨h1, h2, h3⟩ := am_9z h
  exact ⟨i - 1000000000, am_9i h2, h1, am_9j h3⟩
theorem am_9k {lv : ex_L} {cs : ex_C} {i : Nat} {e : Nat × Nat} (h : am_d9c i = some e) {lo hi : Int} (h1 : lo ≤ ab_oo lv cs e.1) (h2 : ab_oo lv cs e.1 ≤ hi) (h3 : -2147483648 ≤ lo + (e.2 : Int)) (h4 : hi + (e.2 : Int) ≤ 2147483647) : ab_oo lv cs i = ab_oo lv cs e.1 + (e.2 : Int) := by
  obtain ⟨n, e1, hq, ha⟩ := am_9a h
  have ho := ab_oon (lv := lv) (cs := cs) hq (Nat.lt_of_lt_of_le ha (Nat.le_add_right _ _)) (Or.inr (Or.inl rfl))
  rw [am_dg9] at ho
  rw [e1, ho]
  generalize ab_oo lv cs e.1 = x at h1 h2 ⊢
  exact ab_bm (by omega) (by omega)
theorem am_blk {bs : am_D} {lv : ex_L} {cs : ex_C} {fs : ab_F} {lw : ex_L} (hw : am_bw bs = true) (hB : am_B bs cs) (hf : ab_cf (ab_oo lv cs) lw [] fs) {i : Nat} {v : Int} (h : am_bl bs fs i v = true) : v ≤ ab_oo lv cs i := by
  unfold am_bl at h
  rcases (Bool.or_eq_true _ _).mp h with h | h
  · obtain ⟨f, h1, h2⟩ := List.any_eq_true.mp h
    obtain ⟨h3, h4⟩ := of_decide_eq_true h2
    obtain ⟨x, hx, x1, -, -⟩ := hf f h1
    rw [h3] at hx
    have : some (ab_oo lv cs i) = some x := hx
    cases this
    omega
  · rcases (Bool.or_eq_true _ _).mp h with h | h
    · obtain ⟨b, h1, h2⟩ := List.any_eq_true.mp h
      obtain ⟨h3, h4⟩ := of_decide_eq_true h2
      have := (am_bn (lv := lv) hw hB h1).1
      rw [h3] at this
      omega
    · split at h
      · rename_i e he
        obtain ⟨b, h1, h2⟩ := List.any_eq_true.mp h
        obtain ⟨h3, h4, h5, h6⟩ := of_decide_eq_true h2
        have h7 := am_bn (lv := lv) hw hB h1
        rw [h3] at h7
        have := am_9k he h7.1 h7.2 h5 h6
        omega
      · cases h
theorem am_bhk {bs : am_D} {lv : ex_L} {cs : ex_C} {fs : ab_F} {lw : ex_L} (hw : am_bw bs = true) (hB : am_B bs cs) (hf : ab_cf (ab_oo lv cs) lw [] fs) {i : Nat} {v : Int} (h : am_bh bs fs i v = true) : ab_oo lv cs i ≤ v := by
  unfold am_bh at h
  rcases (Bool.or_eq_true _ _).mp h with h | h
  · obtain ⟨f, h1, h2⟩ := List.any_eq_true.mp h
    obtain ⟨h3, h4⟩ := of_decide_eq_true h2
    obtain ⟨x, hx, -, x1, -⟩ := hf f h1
    rw [h3] at hx
    have : some (ab_oo lv cs i) = some x := hx
    cases this
    omega
  · rcases (Bool.or_eq_true _ _).mp h with h | h
    · obtain ⟨b, h1, h2⟩ := List.any_eq_true.mp h
      obtain ⟨h3, h4⟩ := of_decide_eq_true h2
      have := (am_bn (lv := lv) hw hB h1).2
      rw [h3] at this
      omega
    · split at h
      · rename_i e he
        obtain ⟨b, h1, h2⟩ := List.any_eq_true.mp h
        obtain ⟨h3, h4, h5, h6⟩ := of_decide_eq_true h2
        have h7 := am_bn (lv := lv) hw hB h1
        rw [h3] at h7
        have := am_9k he h7.1 h7.2 h5 h6
        omega
      · cases h
theorem am_bk {bs : am_D} {c : ab_C} {av : ex_V} {cs cs' : ex_C} {r : Option Value} (hw : am_bw bs = true) (h : c.2.2.2.all (am_bc bs c.2.2.1) = true) (hp : ab_post ab_hd c av cs r cs') (hB : am_B bs cs) : am_B bs cs' := by
  obtain ⟨-, hfr, s, hs, -, h1, h2⟩ := hp
  have hc := List.all_eq_true.mp h s hs
  intro b hb
  have h3 := List.all_eq_true.mp hc b hb
  rcases (Bool.or_eq_true _ _).mp h3 with h3 | h3
  · obtain ⟨z, z1, z2⟩ := hB b hb
    exact ⟨z, by rw [am_frr hfr (by simpa using h3)]; exact z1, z2⟩
  · obtain ⟨f, hf, h4⟩ := List.any_eq_true.mp h3
    obtain ⟨h5, h6⟩ := ab_b h4
    obtain ⟨h7, h8⟩ := ab_b h6
    have hk : f.1 = (1, b.1.1, b.1.2) := of_decide_eq_true h5
    obtain ⟨x, hx, x1, x2, x3⟩ := h2 f hf
    rw [hk] at hx
    refine ⟨x, hx, ?_, ?_⟩
    · unfold am_bd at h7
      rcases (Bool.or_eq_true _ _).mp h7 with h7 | h7
      · have := of_decide_eq_true h7
        omega
      · split at h7
        · rename_i d hd
          have h9 := am_blk hw hB h1 h7
          have := x3 d hd
          omega
        · cases h7
    · unfold am_bd at h8
      rcases (Bool.or_eq_true _ _).mp h8 with h8 | h8
      · have := of_decide_eq_true h8
        omega
      · split at h8
        · rename_i d hd
          have h9 := am_bhk hw hB h1 h8
          have := x3 d hd
          omega
        · cases h8
/-- every bounded cell stands in a pair -/
def am_bp (prs : am_P) (bs : am_D) : Bool := bs.all (fun b => prs.any (fun p => decide (p.1 = b.1)))
theorem am_bf {prs : am_P} {bs : am_D} {W : ab_W} {cs cs' : ex_C} (hs : am_bp prs bs = true) (hW : ∀ p ∈ prs, ab_cov W p.1.1 p.1.2 = false) (hf : ab_fr W cs cs') (hB : am_B bs cs) : am_B bs cs' := by
  intro b hb
  obtain ⟨z, z1, z2⟩ := hB b hb
  obtain ⟨p, hp, he⟩ := List.any_eq_true.mp (List.all_eq_true.mp hs b hb)
  have he' : p.1 = b.1 := of_decide_eq_true he
  refine ⟨z, ?_, z2⟩
  rw [← he', am_frr hf (hW p hp), he']
  exact z1
theorem am_bkeep {prs : am_P} {bs : am_D} {W1 W2 : ab_W} {cs cs1 cs2 : ex_C} (hs : am_bp prs bs = true) (h1 : ab_fr W1 cs cs1) (h2 : ab_fr W2 cs1 cs2) (hW1 : prs.all (fun p => !ab_cov W1 p.1.1 p.1.2 && !ab_cov W1 p.2.1 p.2.2) = true) (hW2 : prs.all (fun p => !ab_cov W2 p.1.1 p.1.2 && !ab_cov W2 p.2.1 p.2.2) = true) (hB : am_B bs cs) : am_B bs cs2 := by
  refine am_bf hs (fun p hp => ?_) h2 (am_bf hs (fun p hp => ?_) h1 hB)
  · simpa using (ab_b (List.all_eq_true.mp hW2 p hp)).1
  · simpa using (ab_b (List.all_eq_true.mp hW1 p hp)).1
theorem am_bstep {prs : am_P} {bs : am_D} {c d : ab_C} {av av' : ex_V} {cs cs1 cs2 : ex_C} {r r' : Option Value} (hs : am_bp prs bs = true) (hw : am_bw bs = true) (h : c.2.2.2.all (am_bc bs c.2.2.1) = true) (hwf : am_wf prs c d = true) (hp : ab_post ab_hd c av cs r cs1) (hp' : ab_post ab_hd d av' cs1 r' cs2) (hB : am_B bs cs) : am_B bs cs2 := by
  refine am_bf hs (fun p hp => ?_) hp'.2.1 (am_bk hw h hp hB)
  obtain ⟨-, a2⟩ := ab_b (List.all_eq_true.mp hwf p hp)
  simpa using (ab_b a2).2
def am_inb (bs : am_D) (cs : ex_C) : Bool := bs.all (fun b => match ab_ri cs b.1.1 b.1.2 with
  | some z => decide (b.2.1 ≤ z ∧ z ≤ b.2.2)
  | none => false)
theorem am_inbk {bs : am_D} {cs : ex_C} (h : am_inb bs cs = true) : am_B bs cs := by
  intro b hb
  have h1 := List.all_eq_true.mp h b hb
  split at h1
  · rename_i z hz
    have := of_decide_eq_true h1
    exact ⟨z, hz, this⟩
  · cases h1

/-! methods with loops: a place in the code where the walk is cut, the bounds of the variables there, and a number that falls from cut to cut -/
def ab_ev : List Int → (Nat → Int) → Nat → Int
  | [], _, _ => 0
  | c :: r, o, k => c * o k + ab_ev r o (k + 1)
def ab_va : List Int → List Int → List Int
  | [], v => v
  | a :: u, [] => a :: u
  | a :: u, b :: v => (a + b) :: ab_va u v
def ab_un (i : Nat) (c : Int) : List Int := List.replicate i 0 ++ [c]
theorem ab_eva : ∀ (u v : List Int) (o : Nat → Int) (k : Nat), ab_ev (ab_va u v) o k = ab_ev u o k + ab_ev v o k
  | [], v, o, k => by simp [ab_va, ab_ev]
  | a :: u, [], o, k => by simp [ab_va, ab_ev]
  | a :: u, b :: v, o, k => by
    simp only [ab_va, ab_ev, ab_eva u v o (k + 1), Int.add_mul]
    omega
theorem ab_evn : ∀ (u : List Int) (o : Nat → Int) (k : Nat), ab_ev (u.map (fun c => -c)) o k = - ab_ev u o k
  | [], o, k => by simp [ab_ev]
  | a :: u, o, k => by
    simp only [List.map_cons, ab_ev, ab_evn u o (k + 1), Int.neg_mul]
    omega
theorem ab_evu : ∀ (i : Nat) (c : Int) (o : Nat → Int) (k : Nat), ab_ev (ab_un i c) o k = c * o (k + i)
  | 0, c, o, k => by simp [ab_un, ab_ev]
  | i + 1, c, o, k => by
    have := ab_evu i c o (k + 1)
    unfold ab_un at this ⊢
    rw [List.replicate_succ, List.cons_append, ab_ev, this, show k + 1 + i = k + (i + 1) by omega]
    omega
def ab_nb (al : ab_L) : List Int → Nat → Option (Int × List Int)
  | [], _ => some (0, [])
  | c :: r, k => match ab_nb al r (k + 1) with
    | none => none
    | some q => if c = 0 then some q else if 1000 ≤ k then none else match al[k]? with
      | some (some (.inr (.inl (lo, hi, _, dl)))) => (match dl with
        | some d => if d.1 < 1000 then some (q.1 + c * d.2, ab_va (ab_un d.1 c) q.2) else some (q.1 + (if 0 ≤ c then c * hi else c * lo), q.2)
        | none => some (q.1 + (if 0 ≤ c then c * hi else c * lo), q.2))
      | _ => none
theorem ab_oi {lv : ex_L} {cs : ex_C} {k : Nat} {x : Int32} (hk : k < 1000) (h : lv[k]? = some (some (.int x))) : ab_oo lv cs k = x.toInt := by
  rw [ab_oob' (by omega)]
  unfold ab_ob
  rw [if_pos hk]
  unfold ab_li
  rw [h]
  rfl
theorem ab_lii {o : Nat → Int} {al : ab_L} {lv : ex_L} {cs : ex_C} {k : Nat} {a : ab_I} (hk : k < 1000) (g : ab_cl o al lv) (e : al[k]? = some (some (.inr (.inl a)))) : (a.1 ≤ ab_oo lv cs k ∧ ab_oo lv cs k ≤ a.2.1) ∧ ∀ q, a.2.2.2 = some q → ab_oo lv cs k = o q.1 + q.2 := by
  obtain ⟨v, hv, x, rfl, h1, h2⟩ := g.2 _ _ e
  rw [ab_oi hk hv]
  exact ⟨h1, h2⟩
theorem ab_nbk {o : Nat → Int} {al : ab_L} {lv : ex_L} {cs : ex_C} (g : ab_cl o al lv) : ∀ {l : List Int} {k : Nat} {q : Int × List Int}, ab_nb al l k = some q → ab_ev l (ab_oo lv cs) k ≤ q.1 + ab_ev q.2 o 0
  | [], k, q, h => by
    cases h
    simp [ab_ev]
  | c :: r, k, q, h => by
    unfold ab_nb at h
    split at h
    · cases h
    · rename_i q0 e0
      have ih := ab_nbk (cs := cs) g e0
      show c * ab_oo lv cs k + ab_ev r (ab_oo lv cs) (k + 1) ≤ _
      split at h
      · rename_i hc
        cases h
        subst hc
        omega
      · split at h
        · cases h
        · rename_i hk
          split at h
          · rename_i lo hi og dl ea
            have hh := ab_lii (cs := cs) (by omega : k < 1000) g ea
            dsimp only at hh
            have hb : c * ab_oo lv cs k ≤ (if 0 ≤ c then c * hi else c * lo) := by
              split
              · rename_i h0
                exact Int.mul_le_mul_of_nonneg_left hh.1.2 h0
              · rename_i h0
                exact Int.mul_le_mul_of_nonpos_left (a := c) (by omega) hh.1.1
            split at h
            · rename_i d
              split at h
              · cases h
                have := hh.2 _ rfl
                rw [this]
                show _ ≤ q0.1 + c * d.2 + ab_ev (ab_va (ab_un d.1 c) q0.2) o 0
                rw [ab_eva, ab_evu, Nat.zero_add, Int.mul_add]
                omega
              · cases h
                show _ ≤ q0.1 + (if 0 ≤ c then c * hi else c * lo) + ab_ev q0.2 o 0
                omega
            · cases h
              show _ ≤ q0.1 + (if 0 ≤ c then c * hi else c * lo) + ab_ev q0.2 o 0
              omega
          · cases h
def ab_lb (ql : ab_L) : List Int → Nat → Option Int
  | [], _ => some 0
  | c :: r, k => match ab_lb ql r (k + 1) with
    | none => none
    | some s => if c = 0 then some s else if 1000 ≤ k then none else match ql[k]? with
      | some (some (.inr (.inl (lo, hi, _, _)))) => some (s + (if 0 ≤ c then c * lo else c * hi))
      | _ => none
theorem ab_lbk {o : Nat → Int} {ql : ab_L} (g : ∀ (i : Nat) a, i < 1000 → ql[i]? = some (some (.inr (.inl a))) → a.1 ≤ o i ∧ o i ≤ a.2.1) : ∀ {l : List Int} {k : Nat} {s : Int}, ab_lb ql l k = some s → s ≤ ab_ev l o k
  | [], k, s, h => by
    cases h
    simp [ab_ev]
  | c :: r, k, s, h => by
    unfold ab_lb at h
    split at h
    · cases h
    · rename_i s0 e0
      have ih := ab_lbk g e0
      show _ ≤ c * o k + ab_ev r o (k + 1)
      split at h
      · rename_i hc
        cases h
        subst hc
        omega
      · split at h
        · cases h
        · rename_i hk
          split at h
          · rename_i lo hi og dl ea
            have hh := g _ _ (by omega) ea
            dsimp only at hh
            cases h
            split
            · rename_i h0
              have := Int.mul_le_mul_of_nonneg_left hh.1 h0
              omega
            · rename_i h0
              have := Int.mul_le_mul_of_nonpos_left (a := c) (by omega) hh.2
              omega
          · cases h
def ab_rk (p : Option ab_Q) (q : ab_Q) (al : ab_L) : Bool := match p with
  | none => true
  | some p => match ab_nb al q.2.2.2.2 0 with
    | none => false
    | some n => match ab_lb p.2.1 (ab_va p.2.2.2.2 (n.2.map (fun c => -c))) 0 with
      | none => false
      | some b => decide (q.2.2.2.1 + n.1 + 1 ≤ p.2.2.2.1 + b)
def ab_ll (a : Option ab_V) (t : Option ab_V) : Bool := match t, a with
  | none, some (.inr (.inr _)) => false
  | none, _ => true
  | some (.inl k), some (.inl k') => decide (k' = k)
  | some (.inr (.inl x)), some (.inr (.inl y)) => decide (x.1 ≤ y.1) && decide (y.2.1 ≤ x.2.1)
  | some (.inr (.inr x)), some (.inr (.inr y)) => x.2.2.isNone && (decide (x.1 ≤ y.1) && decide (y.2.1 ≤ x.2.1))
  | _, _ => false
def ab_lle : ab_L → ab_L → Bool
  | [], [] => true
  | a :: r, t :: s => ab_ll a t && ab_lle r s
  | _, _ => false
def ab_nd1 (f : Nat → Option (Nat × Int)) (i : Nat) (a : Option ab_V) : Option ab_V := match a with
  | some (.inr (.inl x)) => some (.inr (.inl (x.1, x.2.1, none, f i)))
  | some (.inr (.inr l)) => some (.inr (.inr (l.1, l.2.1, none)))
  | b => b
def ab_nd (f : Nat → Option (Nat × Int)) (ql : ab_L) : ab_L := ql.mapIdx (ab_nd1 f)
abbrev ab_fn : Nat → Option (Nat × Int) := fun _ => none
abbrev ab_fi : Nat → Option (Nat × Int) := fun i => some (i, 0)
theorem ab_llek : ∀ {al ql : ab_L}, ab_lle al ql = true → al.length = ql.length ∧ ∀ (i : Nat) t, ql[i]? = some t → ∃ a, al[i]? = some a ∧ ab_ll a t = true
  | [], [], _ => ⟨rfl, fun i t h => by simp at h⟩
  | a :: r, t :: s, h => by
    obtain ⟨h1, h2⟩ := ab_b h
    obtain ⟨g1, g2⟩ := ab_llek h2
    refine ⟨by simp [g1], fun i t' ht => ?_⟩
    cases i with
    | zero =>
      simp at ht
      subst ht
      exact ⟨a, rfl, h1⟩
    | succ i =>
      simp at ht
      obtain ⟨b, hb, hc⟩ := g2 i t' ht
      exact ⟨b, by simpa using hb, hc⟩
  | [], _ :: _, h => by cases h
  | _ :: _, [], h => by cases h
theorem ab_llk {o o' : Nat → Int} {a t : Option ab_V} {v : Option Value} {i : Nat} (h : ab_ll a t = true) (g : ab_c1 o a v) : ab_c1 o' (ab_nd1 ab_fn i t) v := by
  unfold ab_ll at h
  split at h
  · cases h
  · rename_i hne
    show ∀ w, v = some w → w.category = 1
    intro w hw
    unfold ab_c1 at g
    split at g
    · exact g w hw
    · rw [g] at hw; cases hw; rfl
    · obtain ⟨x, e, -⟩ := g; rw [e] at hw; cases hw; rfl
    · rename_i l; exact absurd rfl (hne l)
  · have := of_decide_eq_true h
    subst this
    exact g
  · obtain ⟨h1, h2⟩ := ab_a h
    have h3 := of_decide_eq_true h2
    obtain ⟨x, e, h4, -⟩ := g
    exact ⟨x, e, ⟨(by dsimp only; omega), (by dsimp only; omega)⟩, fun _ h => (by cases h)⟩
  · obtain ⟨h0, h⟩ := ab_b h
    obtain ⟨h1, h2⟩ := ab_a h
    have h3 := of_decide_eq_true h2
    obtain ⟨x, e, h4, h5⟩ := g
    exact ⟨x, e, ⟨by dsimp only; omega, by dsimp only; omega⟩, fun q hq => (by cases hq)⟩
  · cases h
theorem ab_cutk {o o' : Nat → Int} {al ql : ab_L} {lv : ex_L} (h : ab_lle al ql = true) (g : ab_cl o al lv) : ab_cl o' (ab_nd ab_fn ql) lv := by
  obtain ⟨h1, h2⟩ := ab_llek h
  refine ⟨by unfold ab_nd; rw [List.length_mapIdx, ← h1]; exact g.1, fun i a ha => ?_⟩
  unfold ab_nd at ha
  rw [List.getElem?_mapIdx] at ha
  cases hq : ql[i]? with
  | none => rw [hq] at ha; cases ha
  | some t =>
    rw [hq] at ha
    cases ha
    obtain ⟨b, hb, hc⟩ := h2 i t hq
    obtain ⟨v, hv, g2⟩ := g.2 i b hb
    exact ⟨v, hv, ab_llk hc g2⟩
theorem ab_ndi {o : Nat → Int} {ql : ab_L} {lv : ex_L} (g : ab_cl o (ab_nd ab_fn ql) lv) {i : Nat} {t : Option ab_V} (e : ql[i]? = some t) : ∃ v, lv[i]? = some v ∧ ab_c1 o (ab_nd1 ab_fn i t) v := by
  refine g.2 i _ ?_
  unfold ab_nd
  rw [List.getElem?_mapIdx, e]
  rfl
theorem ab_inik {o : Nat → Int} {ql : ab_L} {lv : ex_L} {cs : ex_C} (hl : ql.length ≤ 1000) (g : ab_cl o (ab_nd ab_fn ql) lv) : ab_cl (ab_oo lv cs) (ab_nd ab_fi ql) lv := by
  refine ⟨?_, fun i a ha => ?_⟩
  · have := g.1
    unfold ab_nd at this ⊢
    rw [List.length_mapIdx] at this ⊢
    exact this
  · unfold ab_nd at ha
    rw [List.getElem?_mapIdx] at ha
    cases hq : ql[i]? with
    | none => rw [hq] at ha; cases ha
    | some t =>
      rw [hq] at ha
      cases ha
      have hi : i < 1000 := by
        have := (List.getElem?_eq_some_iff.mp hq).1
        omega
      obtain ⟨v, hv, g2⟩ := ab_ndi g hq
      refine ⟨v, hv, ?_⟩
      match t, g2 with
      | none, g2 => exact g2
      | some (.inl k), g2 => exact g2
      | some (.inr (.inl x)), g2 =>
        obtain ⟨y, e, h1, -⟩ := g2
        subst e
        refine ⟨y, rfl, h1, fun q hq => ?_⟩
        cases hq
        show y.toInt = ab_oo lv cs i + 0
        rw [ab_oi hi hv]
        omega
      | some (.inr (.inr l)), g2 =>
        obtain ⟨y, e, h1, -⟩ := g2
        exact ⟨y, e, h1, fun q hq => (by cases hq)⟩
theorem ab_cutb {o : Nat → Int} {ql : ab_L} {lv : ex_L} {cs : ex_C} (g : ab_cl o (ab_nd ab_fn ql) lv) : ∀ (i : Nat) a, i < 1000 → ql[i]? = some (some (.inr (.inl a))) → a.1 ≤ ab_oo lv cs i ∧ ab_oo lv cs i ≤ a.2.1 := by
  intro i a hi e
  obtain ⟨v, hv, x, rfl, h1, -⟩ := ab_ndi g e
  rw [ab_oi hi hv]
  exact h1
def ab_rank (q : ab_Q) (lv : ex_L) (cs : ex_C) : Int := q.2.2.2.1 + ab_ev q.2.2.2.2 (ab_oo lv cs) 0
theorem ab_rkk {o : Nat → Int} {p q : ab_Q} {al : ab_L} {lv0 lv : ex_L} {cs : ex_C} (h : ab_rk (some p) q al = true) (g : ab_cl (ab_oo lv0 cs) al lv) (g0 : ab_cl o (ab_nd ab_fn p.2.1) lv0) : ab_rank q lv cs < ab_rank p lv0 cs := by
  unfold ab_rk at h
  dsimp only at h
  split at h
  · cases h
  · rename_i n e1
    split at h
    · cases h
    · rename_i b e2
      have h1 := ab_nbk (cs := cs) g e1
      have h2 := ab_lbk (ab_cutb (cs := cs) g0) e2
      rw [ab_eva, ab_evn] at h2
      have h3 := of_decide_eq_true h
      unfold ab_rank
      omega
/-- the number of a slot -/
def ab_sm (i : Nat) : Bool := if i < 1000000000 then decide (1000 ≤ i ∧ i < 900000000) else match ab_dt[i - 1000000000]? with
  | some (9, a, _) => decide (1000 ≤ a ∧ a < 900000000)
  | _ => false
/-- facts that need no variable -/
def ab_gt (q : ab_Y × Int × Int × Option (Nat × Int)) : Bool := match q.1.1 with
  | 1 => (match q.2.2.2 with
    | none => true
    | some d => ab_sm d.1)
  | 8 => q.2.2.2.isNone && ab_sm q.1.2.1
  | 9 => q.2.2.2.isNone && (ab_sm q.1.2.1 && ab_sm q.1.2.2)
  | _ => false
theorem ab_gtk {o o' : Nat → Int} {lv lv' : ex_L} {cs : ex_C} {q : ab_Y × Int × Int × Option (Nat × Int)} (h : ab_gt q = true) (ho : ∀ i, ab_sm i = true → o' i = o i) (hq : ab_q1 o lv cs q) : ab_q1 o' lv' cs q := by
  obtain ⟨⟨a, b, c⟩, lo, hi, dl⟩ := q
  obtain ⟨x, hx, b1, b2, b3⟩ := hq
  unfold ab_gt at h
  split at h
  · rename_i e
    dsimp only at e
    subst e
    refine ⟨x, hx, b1, b2, fun d hd => ?_⟩
    have := b3 d hd
    dsimp only at hd h
    rw [hd] at h
    rw [ho _ h]
    exact this
  · rename_i e
    dsimp only at e
    subst e
    obtain ⟨h1, h2⟩ := ab_b h
    have h3 := h2
    dsimp only at h3
    have hx' : some (o b) = some x := hx
    cases hx'
    refine ⟨o' b, rfl, by rw [ho _ h3]; exact b1, by rw [ho _ h3]; exact b2, fun d hd => ?_⟩
    dsimp only at hd h1
    rw [hd] at h1
    cases h1
  · rename_i e
    dsimp only at e
    subst e
    obtain ⟨h1, h2⟩ := ab_b h
    obtain ⟨h2, h3⟩ := ab_b h2
    dsimp only at h3 h2
    have hx' : some (o b - o c) = some x := hx
    cases hx'
    refine ⟨o' b - o' c, rfl, by rw [ho _ h3, ho _ h2]; exact b1, by rw [ho _ h3, ho _ h2]; exact b2, fun d hd => ?_⟩
    dsimp only at hd h1
    rw [hd] at h1
    cases h1
  · cases h
/-- a fact that follows from one of ours -/
def ab_im (fc : ab_F) (q : ab_Y × Int × Int × Option (Nat × Int)) : Bool := fc.any (fun f => f.1 == q.1 && (decide (q.2.1 ≤ f.2.1) && (decide (f.2.2.1 ≤ q.2.2.1) && (q.2.2.2.isNone || f.2.2.2 == q.2.2.2))))
theorem ab_imk {o : Nat → Int} {lv : ex_L} {cs : ex_C} {fc : ab_F} {q : ab_Y × Int × Int × Option (Nat × Int)} (h : ab_im fc q = true) (hf : ab_cf o lv cs fc) : ab_q1 o lv cs q := by
  obtain ⟨f, hm, h1⟩ := List.any_eq_true.mp h
  obtain ⟨h2, h3⟩ := ab_b h1
  obtain ⟨h4, h5⟩ := ab_a h3
  obtain ⟨h6, h7⟩ := ab_a h5
  have e : f.1 = q.1 := by simpa using h2
  obtain ⟨x, hx, b1, b2, b3⟩ := hf f hm
  rw [e] at hx
  refine ⟨x, hx, by omega, by omega, fun d hd => ?_⟩
  rw [hd] at h7
  simp at h7
  exact b3 d h7
def ab_J (p : Option ab_Q) (qs : List ab_Q) (pc : Nat) : Option (ab_L → List ab_V → ab_F → Bool) := (qs.find? (fun q => q.1 == pc)).map (fun q al as fc => as.isEmpty && (ab_lle al q.2.1 && (ab_rk p q al && q.2.2.1.all (ab_im fc))))
def ab_pf (en : Bool) (ts : List ab_T) (al : ab_L) (fc : ab_F) (q : ab_Y × Int × Int × Option (Nat × Int)) : Bool := q.2.2.2.isNone && match q.1 with
  | (0, i, _) => en && (match ts[i]?, al[i]? with
    | some (.inr _), some (some (.inr (.inl (lo, hi, _, some d)))) => decide (d.1 = i) && (decide (d.2 = 0) && (decide (q.2.1 ≤ lo) && decide (hi ≤ q.2.2.1)))
    | _, _ => false)
  | (3, i, c) => en && (match ts[i]?, al[i]? with
    | some (.inr _), some (some (.inr (.inl (_, _, _, some d)))) => decide (d.1 = i) && (decide (d.2 = 0) && fc.any (fun f => f.1 == (3, i, c) && (decide (q.2.1 ≤ f.2.1) && decide (f.2.2.1 ≤ q.2.2.1))))
    | _, _ => false)
  | (6, i, c) => en && (match ts[i]?, al[i]? with
    | some (.inr _), some (some (.inr (.inl (_, _, _, some d)))) => decide (d.1 = i) && (decide (d.2 = 0) && fc.any (fun f => f.1 == (6, i, c) && (decide (q.2.1 ≤ f.2.1) && decide (f.2.2.1 ≤ q.2.2.1))))
    | _, _ => false)
  | (7, i, c) => en && (match ts[i]?, al[i]? with
    | some (.inr _), some (some (.inr (.inl (_, _, _, some d)))) => decide (d.1 = i) && (decide (d.2 = 0) && fc.any (fun f => f.1 == (7, i, c) && (decide (q.2.1 ≤ f.2.1) && decide (f.2.2.1 ≤ q.2.2.1))))
    | _, _ => false)
  | (8, i, _) => ab_im fc q && (en || ab_sm i)
  | (9, i, j) => ab_im fc q && (en || (ab_sm i && ab_sm j))
  | _ => false
def ab_dk (en : Bool) (d d' : Option (Nat × Int)) : Bool := match d with
  | none => true
  | some e => d' == some e && (en || ab_sm e.1)
def ab_er (en : Bool) (s : Option (Int × Int × Option (Nat × Int))) (r : Option ab_I) : Bool := match s, r with
  | none, none => true
  | some q, some x => decide (q.1 ≤ x.1) && (decide (x.2.1 ≤ q.2.1) && ab_dk en q.2.2 x.2.2.2)
  | _, _ => false
def ab_pc (en : Bool) (fc : ab_F) (q : ab_Y × Int × Int × Option (Nat × Int)) : Bool := q.1.1 == 1 && (ab_im fc q && (match q.2.2.2 with
  | none => true
  | some d => en || ab_sm d.1))
theorem ab_pck {en : Bool} {o o' : Nat → Int} {fc : ab_F} {q : ab_Y × Int × Int × Option (Nat × Int)} {lv : ex_L} {cs : ex_C} (h : ab_pc en fc q = true) (ho : ∀ i, (en || ab_sm i) = true → o' i = o i) (hf : ab_cf o lv cs fc) : ab_q1 o' [] cs q := by
  obtain ⟨h1, h2⟩ := ab_b h
  obtain ⟨h3, h4⟩ := ab_b h2
  obtain ⟨x, hx, b1, b2, b3⟩ := ab_imk h3 hf
  obtain ⟨⟨a, b, c⟩, lo, hi, dl⟩ := q
  have ha : a = 1 := by simpa using h1
  subst ha
  refine ⟨x, hx, b1, b2, fun d hd => ?_⟩
  have := b3 d hd
  dsimp only at hd h4
  rw [hd] at h4
  rw [ho _ h4]
  exact this
def ab_E (en : Bool) (c : ab_C) (r : Option ab_I) (al : ab_L) (fc : ab_F) : Bool := c.2.2.2.any (fun s => ab_er en s.1 r && (s.2.1.all (ab_pf en c.1 al fc) && s.2.2.all (ab_pc en fc)))
def ab_a1 (i : Nat) (t : ab_T) : Option ab_V := match t with
  | .inl k => some (.inl k)
  | .inr q => some (.inr (.inl (q.1, q.2, none, some (i, 0))))
/-- the cells that are followed -/
def ab_tb1 (hd : List ab_H) (k j : Nat) : Option (Int × Int) := if j < 1000 ∧ k < 1000 then (match hd[k]? with
  | some (.inl (_, ts)) => (match ts[j]? with
    | some (.inr b) => some b
    | _ => none)
  | some (.inr (_, n, sg)) => if j < n then some (ab_sg sg j) else none
  | none => none) else none
theorem ab_tb1k {hd : List ab_H} {cs : ex_C} {k j : Nat} {b : Int × Int} (hk : ab_hk hd cs) (h : ab_tb1 hd k j = some b) : (j < 1000 ∧ k < 1000) ∧ ∃ x, ab_ri cs k j = some x ∧ b.1 ≤ x ∧ x ≤ b.2 := by
  unfold ab_tb1 at h
  split at h
  · rename_i hlt
    refine ⟨hlt, ?_⟩
    split at h
    · rename_i ci ts e
      split at h
      · rename_i b' eb
        cases h
        obtain ⟨fs, hfs, -, hj⟩ := hk.obj e
        obtain ⟨v, hv, x, rfl, x1, x2⟩ := hj _ _ eb
        refine ⟨x.toInt, ?_, x1, x2⟩
        unfold ab_ri ab_rd
        rw [hfs]
        dsimp only
        rw [hv]
      · cases h
    · rename_i t n sg e
      split at h
      · rename_i hn
        cases h
        obtain ⟨f, hf, hb⟩ := hk.2 _ _ e
        refine ⟨(f j).toInt, ?_, (hb j hn).1, (hb j hn).2⟩
        unfold ab_ri ab_rd
        rw [hf]
      · cases h
    · cases h
  · cases h
def ab_tf (hd : List ab_H) : List (Nat × Nat) → ab_F
  | [] => []
  | p :: r => match ab_tb1 hd p.1 p.2 with
    | some b => ((1, p.1, p.2), b.1, b.2, some (1000 * (p.1 + 1) + p.2, 0)) :: ab_tf hd r
    | none => ab_tf hd r
theorem ab_tfk {hd : List ab_H} {lv : ex_L} {cs : ex_C} (hk : ab_hk hd cs) : ∀ tr : List (Nat × Nat), ab_cf (ab_oo lv cs) lv cs (ab_tf hd tr)
  | [] => fun q hq => (by cases hq)
  | p :: r => by
    have ih := ab_tfk (lv := lv) hk r
    unfold ab_tf
    split
    · rename_i b eb
      obtain ⟨hlt, x, hr, x1, x2⟩ := ab_tb1k hk eb
      intro q hq
      rcases List.mem_cons.mp hq with rfl | hq
      · refine ⟨x, hr, x1, x2, fun d hd => ?_⟩
        cases hd
        show x = ab_oo lv cs (1000 * (p.1 + 1) + p.2) + 0
        rw [ab_oob' (by omega)]
        unfold ab_ob
        rw [if_neg (by omega), if_pos (by omega), show (1000 * (p.1 + 1) + p.2 - 1000) / 1000 = p.1 by omega, show (1000 * (p.1 + 1) + p.2 - 1000) % 1000 = p.2 by omega, hr]
        simp
      · exact ih q hq
    · exact ih
def ab_al0 (ts : List ab_T) (maxL : Nat) : ab_L := ts.mapIdx ab_a1 ++ List.replicate (maxL - ts.length) none
def ab_ck (hd : List ab_H) (xs : List (Nat × Int × Int × List Int)) (tr sp : List (Nat × Nat)) (cx : ex_K) (cm : Nat → Option (Nat × Option Nat × List ab_C)) (code : List (Nat × Instr × Nat)) (ret : Option FieldType) (maxL fuel : Nat) (c : ab_C × List ab_Q) : Bool :=
  decide (c.1.1.length ≤ maxL) && (ab_wp hd xs sp cx cm code ret c.1.2.2.1 (ab_E true c.1) (ab_J none c.2) fuel 0 (ab_al0 c.1.1 maxL) [] (c.1.2.1 ++ ab_tf hd tr) && c.2.all (fun p => ((match ab_lb p.2.1 p.2.2.2.2 0 with
    | some b => decide (0 ≤ p.2.2.2.1 + b)
    | none => false) && (decide (p.2.1.length ≤ 1000) && p.2.2.1.all ab_gt)) && ab_wp hd xs sp cx cm code ret c.1.2.2.1 (ab_E false c.1) (ab_J (some p) c.2) fuel p.1 (ab_nd ab_fi p.2.1) [] p.2.2.1))
theorem ab_l0li {av : ex_V} {maxL i : Nat} : ab_li (ex_l0 av maxL) i = ab_li (av.map some) i := by
  unfold ab_li ex_l0
  by_cases hi : i < (av.map some).length
  · rw [List.getElem?_append_left hi]
  · rw [List.getElem?_append_right (by omega), List.getElem?_eq_none (l := av.map some) (by omega), List.getElem?_replicate]
    by_cases hc : i - (List.map some av).length < maxL - List.length av
    · rw [if_pos hc]
    · rw [if_neg hc]
theorem ab_l0oo {av : ex_V} {maxL : Nat} {cs : ex_C} : ab_oo (ex_l0 av maxL) cs = ab_oo (av.map some) cs := by
  have e : ab_ob (ex_l0 av maxL) cs = ab_ob (av.map some) cs := by
    funext i
    unfold ab_ob
    simp only [ab_l0li]
  unfold ab_oo
  rw [e]
theorem ab_l0kv {o : Nat → Int} {av : ex_V} {maxL : Nat} {cs : ex_C} {y : ab_Y} : ab_kv o (ex_l0 av maxL) cs y = ab_kv o (av.map some) cs y := by
  unfold ab_kv
  simp only [ab_l0li]
theorem ab_al0k {ts : List ab_T} {av : ex_V} {cs : ex_C} {maxL : Nat} (h0 : ts.length ≤ 1000) (h1 : av.length = ts.length) (h2 : ∀ (i : Nat) t, ts[i]? = some t → ∃ v, av[i]? = some v ∧ ab_ct t v) : ab_cl (ab_oo (av.map some) cs) (ab_al0 ts maxL) (ex_l0 av maxL) := by
  refine ⟨by unfold ab_al0 ex_l0; simp [h1], fun i a ha => ?_⟩
  unfold ab_al0 at ha
  by_cases hi : i < ts.length
  · rw [List.getElem?_append_left (by rw [List.length_mapIdx]; exact hi), List.getElem?_mapIdx, List.getElem?_eq_getElem hi] at ha
    cases ha
    obtain ⟨v, hv, hc⟩ := h2 i ts[i] (List.getElem?_eq_getElem hi)
    have hm : (ex_l0 av maxL)[i]? = some (some v) := by
      unfold ex_l0
      rw [List.getElem?_append_left (by rw [List.length_map]; omega), List.getElem?_map, hv]
      rfl
    refine ⟨some v, hm, ?_⟩
    unfold ab_a1
    unfold ab_ct at hc
    split
    · rename_i k e
      rw [e] at hc
      rw [hc]
      rfl
    · rename_i q e
      rw [e] at hc
      obtain ⟨x, rfl, x1, x2⟩ := hc
      refine ⟨x, rfl, ⟨x1, x2⟩, fun d hd => ?_⟩
      cases hd
      show x.toInt = ab_oo (av.map some) cs i + 0
      rw [ab_oob' (by omega)]
      unfold ab_ob
      rw [if_pos (by omega), ab_avli hv]
      simp
  · rw [List.getElem?_append_right (by rw [List.length_mapIdx]; omega), List.length_mapIdx, List.getElem?_replicate] at ha
    split at ha
    · rename_i hlt
      cases ha
      refine ⟨none, ?_, fun w hw => by cases hw⟩
      unfold ex_l0
      rw [List.getElem?_append_right (by rw [List.length_map]; omega), List.length_map, List.getElem?_replicate, if_pos (by omega)]
    · cases ha
theorem ab_pfk {en : Bool} {o : Nat → Int} {ts : List ab_T} {av : ex_V} {al : ab_L} {fc : ab_F} {lv : ex_L} {cs cs0 : ex_C} {q : ab_Y × Int × Int × Option (Nat × Int)} (h0 : ts.length ≤ 1000) (h2 : ∀ (i : Nat) t, ts[i]? = some t → ∃ v, av[i]? = some v ∧ ab_ct t v) (h : ab_pf en ts al fc q = true) (ho : ∀ i, (en || ab_sm i) = true → ab_oo (av.map some) cs0 i = o i) (g : ab_cl o al lv) (hf : ab_cf o lv cs fc) : ab_q1 (ab_oo (av.map some) cs0) (av.map some) [] q := by
  obtain ⟨hn, h⟩ := ab_b h
  have hd : ∀ x : Int, ∀ d, q.2.2.2 = some d → x = ab_oo (av.map some) cs0 d.1 + d.2 := fun x d e => by
    rw [e] at hn
    cases hn
  have key : ∀ (i : Nat) b a, en = true → ts[i]? = some (.inr b) → al[i]? = some (some (.inr (.inl a))) → a.2.2.2 = some (i, 0) → ∃ z, ab_li (av.map some) i = some z ∧ ab_li lv i = some z ∧ a.1 ≤ z ∧ z ≤ a.2.1 := by
    intro i b a een e1 e2 e3
    obtain ⟨v, hv, x, rfl, -⟩ := h2 _ _ e1
    obtain ⟨w, hw, y, rfl, y1, y2⟩ := g.2 _ _ e2
    have e4 := y2 _ e3
    have e5 := ab_avli hv
    have hi : i < 1000 := by
      have := (List.getElem?_eq_some_iff.mp e1).1
      omega
    have e6 : o i = x.toInt := by
      rw [← ho i (by rw [een]; rfl)]
      rw [ab_oob' (by omega)]
      unfold ab_ob
      rw [if_pos hi, e5]
      rfl
    dsimp only at e4
    rw [e6] at e4
    refine ⟨x.toInt, e5, ?_, by omega, by omega⟩
    unfold ab_li
    rw [hw]
    show some y.toInt = some x.toInt
    rw [e4]
    simp
  split at h
  · rename_i i j e
    obtain ⟨een, h⟩ := ab_b h
    split at h
    · rename_i b lo hi og d e1 e2
      obtain ⟨h3, h⟩ := ab_a h
      obtain ⟨h4, h⟩ := ab_a h
      obtain ⟨h5, h6⟩ := ab_a h
      have h7 := of_decide_eq_true h6
      obtain ⟨d1, d2⟩ := d
      dsimp only at h3 h4
      subst h3 h4
      obtain ⟨z, z1, -, z2, z3⟩ := key _ _ _ een e1 e2 rfl
      dsimp only at z2 z3
      refine ⟨z, ?_, by omega, by omega, hd z⟩
      rw [e]
      exact z1
    · cases h
  · rename_i i c e
    obtain ⟨een, h⟩ := ab_b h
    split at h
    · rename_i b lo hi og d e1 e2
      obtain ⟨h3, h⟩ := ab_a h
      obtain ⟨h4, h⟩ := ab_a h
      obtain ⟨f, hm, h5⟩ := List.any_eq_true.mp h
      obtain ⟨h6, h7⟩ := ab_b h5
      obtain ⟨h8, h9⟩ := ab_a h7
      have h10 := of_decide_eq_true h9
      have ef : f.1 = (3, i, c) := by simpa using h6
      obtain ⟨d1, d2⟩ := d
      dsimp only at h3 h4
      subst h3 h4
      obtain ⟨z, z1, z2, -, -⟩ := key _ _ _ een e1 e2 rfl
      obtain ⟨x, hx, x1, x2, -⟩ := hf f hm
      rw [ef] at hx
      have hx' : (ab_li lv d1).map (fun x => x.tmod (c : Int)) = some x := hx
      rw [z2] at hx'
      refine ⟨x, ?_, by omega, by omega, hd x⟩
      rw [e]
      show (ab_li (av.map some) d1).map (fun x => x.tmod (c : Int)) = some x
      rw [z1]
      exact hx'
    · cases h
  · rename_i i c e
    obtain ⟨een, h⟩ := ab_b h
    split at h
    · rename_i b lo hi og d e1 e2
      obtain ⟨h3, h⟩ := ab_a h
      obtain ⟨h4, h⟩ := ab_a h
      obtain ⟨f, hm, h5⟩ := List.any_eq_true.mp h
      obtain ⟨h6, h7⟩ := ab_b h5
      obtain ⟨h8, h9⟩ := ab_a h7
      have h10 := of_decide_eq_true h9
      have ef : f.1 = (6, i, c) := by simpa using h6
      obtain ⟨d1, d2⟩ := d
      dsimp only at h3 h4
      subst h3 h4
      obtain ⟨z, z1, z2, -, -⟩ := key _ _ _ een e1 e2 rfl
      obtain ⟨x, hx, x1, x2, -⟩ := hf f hm
      rw [ef] at hx
      have hx' : (ab_li lv d1).map (fun x => x.tdiv (c : Int)) = some x := hx
      rw [z2] at hx'
      refine ⟨x, ?_, by omega, by omega, hd x⟩
      rw [e]
      show (ab_li (av.map some) d1).map (fun x => x.tdiv (c : Int)) = some x
      rw [z1]
      exact hx'
    · cases h
  · rename_i i c e
    obtain ⟨een, h⟩ := ab_b h
    split at h
    · rename_i b lo hi og d e1 e2
      obtain ⟨h3, h⟩ := ab_a h
      obtain ⟨h4, h⟩ := ab_a h
      obtain ⟨f, hm, h5⟩ := List.any_eq_true.mp h
      obtain ⟨h6, h7⟩ := ab_b h5
      obtain ⟨h8, h9⟩ := ab_a h7
      have h10 := of_decide_eq_true h9
      have ef : f.1 = (7, i, c) := by simpa using h6
      obtain ⟨d1, d2⟩ := d
      dsimp only at h3 h4
      subst h3 h4
      obtain ⟨z, z1, z2, -, -⟩ := key _ _ _ een e1 e2 rfl
      obtain ⟨x, hx, x1, x2, -⟩ := hf f hm
      rw [ef] at hx
      have hx' : (ab_li lv d1).map (fun x => (x.tdiv ((c / 100000 : Nat) : Int)).tmod ((c % 100000 : Nat) : Int)) = some x := hx
      rw [z2] at hx'
      refine ⟨x, ?_, by omega, by omega, hd x⟩
      rw [e]
      show (ab_li (av.map some) d1).map (fun x => (x.tdiv ((c / 100000 : Nat) : Int)).tmod ((c % 100000 : Nat) : Int)) = some x
      rw [z1]
      exact hx'
    · cases h
  · rename_i i j e
    obtain ⟨h1, h3⟩ := ab_b h
    obtain ⟨x, hx, b1, b2, -⟩ := ab_imk h1 hf
    rw [e] at hx
    have hx' : some (o i) = some x := hx
    cases hx'
    refine ⟨o i, ?_, b1, b2, hd _⟩
    rw [e]
    show some (ab_oo (av.map some) cs0 i) = _
    rw [ho i h3]
  · rename_i i j e
    obtain ⟨h1, h3⟩ := ab_b h
    obtain ⟨x, hx, b1, b2, -⟩ := ab_imk h1 hf
    rw [e] at hx
    have hx' : some (o i - o j) = some x := hx
    cases hx'
    refine ⟨o i - o j, ?_, b1, b2, hd _⟩
    rw [e]
    show some (ab_oo (av.map some) cs0 i - ab_oo (av.map some) cs0 j) = _
    have h4 : (en || ab_sm i) = true ∧ (en || ab_sm j) = true := by
      cases en with
      | true => exact ⟨rfl, rfl⟩
      | false =>
        obtain ⟨q1, q2⟩ := ab_b (show (ab_sm i && ab_sm j) = true from h3)
        exact ⟨q1, q2⟩
    rw [ho i h4.1, ho j h4.2]
  · cases h
theorem ab_erk {en : Bool} {o o' : Nat → Int} {s : Option (Int × Int × Option (Nat × Int))} {r : Option ab_I} {v : Option Value} (hv : match r with
    | none => v = none
    | some a => ∃ x : Int32, v = some (.int x) ∧ (a.1 ≤ x.toInt ∧ x.toInt ≤ a.2.1) ∧ ∀ d, a.2.2.2 = some d → x.toInt = o d.1 + d.2) (ho : ∀ i, (en || ab_sm i) = true → o' i = o i) (h : ab_er en s r = true) : ab_rt o' s v := by
  unfold ab_er at h
  split at h
  · exact hv
  · obtain ⟨h1, h⟩ := ab_a h
    obtain ⟨h2, h3⟩ := ab_a h
    obtain ⟨x, rfl, hx, x2⟩ := hv
    refine ⟨x, rfl, ⟨by omega, by omega⟩, fun d hd => ?_⟩
    rw [hd] at h3
    obtain ⟨h4, h5⟩ := ab_b (show (_ && _) = true from h3)
    rw [ho _ h5]
    exact x2 d (by simpa using h4)
  · cases h
/-- what holds at a cut -/
def ab_P (hd : List ab_H) (W : ab_W) (cs0 : ex_C) (q : ab_Q) : Nat → ex_L → ex_V → ex_C → Prop := fun n lv st cs => st = [] ∧ ab_cl (fun _ => 0) (ab_nd ab_fn q.2.1) lv ∧ ab_hk hd cs ∧ ab_fr W cs0 cs ∧ ab_rank q lv cs0 = (n : Int) ∧ ab_cf (ab_oo [] cs0) [] cs q.2.2.1
def ab_In (hd : List ab_H) (W : ab_W) (cs0 : ex_C) (qs : List ab_Q) (pc : Nat) : Option (Nat → ex_L → ex_V → ex_C → Prop) := (qs.find? (fun q => q.1 == pc)).map (ab_P hd W cs0)
theorem ab_rf0 {W : ab_W} {cs : ex_C} : ab_fr W cs cs := fun _ _ _ => rfl
theorem ab_oge0 {lv lv' : ex_L} {cs : ex_C} {i : Nat} (h1 : 1000 ≤ i) (h2 : i < 900000000) : ab_oo lv cs i = ab_oo lv' cs i := by
  rw [ab_oob' (by omega), ab_oob' (by omega)]
  unfold ab_ob
  rw [if_neg (by omega), if_pos h2, if_neg (by omega), if_pos h2]
theorem ab_oge {lv lv' : ex_L} {cs : ex_C} : ∀ i, ab_sm i = true → ab_oo lv cs i = ab_oo lv' cs i := by
  intro i hi
  unfold ab_sm at hi
  split at hi
  · rename_i h
    have h2 := of_decide_eq_true hi
    exact ab_oge0 h2.1 h2.2
  · rename_i h
    split at hi
    · rename_i a c e
      have ha := of_decide_eq_true hi
      have e1 := ab_ooln (lv := lv) (cs := cs) _ _ _ e (by omega)
      have e2 := ab_ooln (lv := lv') (cs := cs) _ _ _ e (by omega)
      rw [show 1000000000 + (i - 1000000000) = i by omega] at e1 e2
      rw [e1, e2, ab_oge0 (lv' := lv') ha.1 ha.2]
    · cases hi
set_option maxHeartbeats 4000000 in
theorem ab_slw {hd : List ab_H} {xs : List (Nat × Int × Int × List Int)} {tr sp : List (Nat × Nat)} {cx : ex_K} {cm : Nat → Option (Nat × Option Nat × List ab_C)} {code : List (Nat × Instr × Nat)} {cc : ByteArray} {ret : Option FieldType} {maxL fuel : Nat} {l : List (ab_C × List ab_Q)} (hm0 : maxL ≤ 1000) (hcode : ∀ q ∈ code, decode cc q.1 = .ok q.2) (hcm : ∀ ix q, cm ix = some q → cx.2.2.2.2.1 ix = some (q.1, q.2.1, ab_sp hd q.2.2)) (hxs : ab_xo xs ec_xt) (hck : l.all (ab_ck hd xs tr sp cx cm code ret maxL fuel) = true) {av : ex_V} {cs : ex_C} {Q : ex_Q} (h : ab_sp hd (l.map (fun c => c.1)) av cs Q) : ex_sl cx cc maxL ret av cs Q := by
  obtain ⟨c0, hc0, ⟨hp1, hp2, hp3⟩, hh, hQ⟩ := h
  obtain ⟨c, hc, rfl⟩ := List.mem_map.mp hc0
  obtain ⟨k1, k2⟩ := ab_a (List.all_eq_true.mp hck c hc)
  obtain ⟨k3, k4⟩ := ab_b k2
  have hts : c.1.1.length ≤ 1000 := by omega
  have nn : ∀ {p : ab_Q} {lv : ex_L}, p ∈ c.2 → ab_cl (fun _ => 0) (ab_nd ab_fn p.2.1) lv → 0 ≤ ab_rank p lv cs := by
    intro p lv hp hl
    have h1 := (ab_b (ab_b (List.all_eq_true.mp k4 p hp)).1).1
    split at h1
    · rename_i b e
      have h2 := ab_lbk (ab_cutb (cs := cs) hl) e
      have h3 := of_decide_eq_true h1
      unfold ab_rank
      omega
    · cases h1
  have hEn : ∀ (en : Bool) (o : Nat → Int), (∀ i, (en || ab_sm i) = true → ab_oo (av.map some) cs i = o i) → ∀ r al fc lv cs' v, ab_E en c.1 r al fc = true → ab_cl o al lv → ab_cf o lv cs' fc → ab_hk hd cs' → ab_fr c.1.2.2.1 cs cs' → (match r with
      | none => v = none
      | some a => ∃ x : Int32, v = some (.int x) ∧ (a.1 ≤ x.toInt ∧ x.toInt ≤ a.2.1) ∧ ∀ d, a.2.2.2 = some d → x.toInt = o d.1 + d.2) → Q v cs' := by
    intro en o ho r al fc lv cs' v hE hl hf hk hfr hv
    obtain ⟨s, hs, h1⟩ := List.any_eq_true.mp hE
    obtain ⟨h2, h3⟩ := ab_b h1
    obtain ⟨h3, h6⟩ := ab_b h3
    exact hQ _ _ ⟨hk, hfr, s, hs, ab_erk hv ho h2, fun q hq => ab_pfk hts hp2 (List.all_eq_true.mp h3 q hq) ho hl hf, fun q hq => ab_pck (List.all_eq_true.mp h6 q hq) ho hf⟩
  have jk : ∀ {p : Option ab_Q} {q : ab_Q} {o : Nat → Int} {al : ab_L} {as : List ab_V} {fc : ab_F} {lv : ex_L} {st : ex_V} {cs' : ex_C}, (∀ i, ab_sm i = true → ab_oo [] cs i = o i) → q ∈ c.2 → (as.isEmpty && (ab_lle al q.2.1 && (ab_rk p q al && q.2.2.1.all (ab_im fc)))) = true → ab_G hd c.1.2.2.1 o cs al as fc lv st cs' → ab_rk p q al = true ∧ ab_cl (fun _ => 0) (ab_nd ab_fn q.2.1) lv ∧ ∀ n : Nat, ab_rank q lv cs = (n : Int) → ab_P hd c.1.2.2.1 cs q n lv st cs' := by
    intro p q o al as fc lv st cs' ho hqm h g
    obtain ⟨h1, h2⟩ := ab_b h
    obtain ⟨h3, h4⟩ := ab_b h2
    obtain ⟨h5, h6⟩ := ab_b h4
    have hn : as = [] := by simpa using h1
    subst hn
    have hl := ab_cutk (o' := fun _ => 0) h3 g.1
    refine ⟨h5, hl, fun n hr => ⟨g.2.1, hl, g.2.2.2.1, g.2.2.2.2, hr, fun f hf => ?_⟩⟩
    have hgt := List.all_eq_true.mp (ab_b (ab_b (ab_b (List.all_eq_true.mp k4 q hqm)).1).2).2 f hf
    exact ab_gtk hgt ho (ab_imk (List.all_eq_true.mp h6 f hf) g.2.2.1)
  refine ⟨?_, by rw [hp1]; exact k1, fuel, ab_In hd c.1.2.2.1 cs c.2, ?_, ?_⟩
  · rw [List.all_eq_true]
    intro w hw
    obtain ⟨i, hi, e⟩ := List.getElem_of_mem hw
    obtain ⟨v, hv, hc⟩ := hp2 i (c.1.1[i]'(by omega)) (List.getElem?_eq_getElem _)
    rw [List.getElem?_eq_getElem hi, e] at hv
    cases hv
    unfold ab_ct at hc
    split at hc
    · subst hc; rfl
    · obtain ⟨x, rfl, -⟩ := hc; rfl
  · refine ab_wp_sound ab_oolw ab_ooln ab_oog (o := ab_oo (av.map some) cs) (cs0 := cs) hcode hcm hxs (hEn true _ (fun _ _ => rfl)) (fun pc => ?_) _ _ _ _ _ _ _ _ k3 ⟨ab_al0k hts hp1 hp2, rfl, fun q hq => ?_, hh, ab_rf0⟩
    · unfold ab_J ab_In
      cases hf : c.2.find? (fun q => q.1 == pc) with
      | none => exact ⟨fun _ => rfl, fun ch h => (by cases h)⟩
      | some q =>
        refine ⟨fun h => (by cases h), fun ch h => ?_⟩
        cases h
        refine ⟨_, rfl, fun al as fc lv st cs' h g => ?_⟩
        have hqm := List.mem_of_find?_eq_some hf
        obtain ⟨-, hl, hP⟩ := jk (fun i hi => ab_oge i hi) hqm h g
        exact ⟨(ab_rank q lv cs).toNat, hP _ (Int.toNat_of_nonneg (nn hqm hl)).symm⟩
    · rcases List.mem_append.mp hq with hq | hq
      · obtain ⟨x, hx, hb⟩ := hp3 q hq
        exact ⟨x, by rw [ab_l0kv]; exact hx, hb⟩
      · have := ab_tfk (lv := ex_l0 av maxL) hh tr q hq
        rw [ab_l0oo] at this
        exact this
  · intro pc J n lv st cs1 hJ hP
    unfold ab_In at hJ
    cases hf : c.2.find? (fun q => q.1 == pc) with
    | none => rw [hf] at hJ; cases hJ
    | some p =>
      rw [hf] at hJ
      cases hJ
      have hpm := List.mem_of_find?_eq_some hf
      have hpp : p.1 = pc := by simpa using List.find?_some hf
      obtain ⟨rfl, hl, hk1, hfr1, hr, hfx⟩ := hP
      obtain ⟨k6, k5⟩ := ab_b (List.all_eq_true.mp k4 p hpm)
      obtain ⟨k7, k8⟩ := ab_a (ab_b k6).2
      rw [hpp] at k5
      refine ab_wp_sound ab_oolw ab_ooln ab_oog (o := ab_oo lv cs) (cs0 := cs) hcode hcm hxs (hEn false _ (fun i hi => ab_oge i (by simpa using hi))) (fun pc' => ?_) _ _ _ _ _ _ _ _ k5 ⟨ab_inik k7 hl, rfl, fun q hq => ab_gtk (List.all_eq_true.mp k8 q hq) (fun i hi => ab_oge i hi) (hfx q hq), hk1, hfr1⟩
      unfold ab_J ab_In
      cases hf' : c.2.find? (fun q => q.1 == pc') with
      | none => exact ⟨fun _ => rfl, fun ch h => (by cases h)⟩
      | some q =>
        refine ⟨fun h => (by cases h), fun ch h => ?_⟩
        cases h
        refine ⟨_, rfl, fun al as fc lv' st' cs' h g => ?_⟩
        have hqm := List.mem_of_find?_eq_some hf'
        obtain ⟨h4, hl', hP⟩ := jk (fun i hi => ab_oge i hi) hqm h g
        have hlt := ab_rkk h4 g.1 hl
        have h0 := nn hqm hl'
        exact ⟨(ab_rank q lv' cs).toNat, by omega, hP _ (Int.toNat_of_nonneg h0).symm⟩
/-- the contract out of the walk over bounds -/
theorem ab_met {l : Launch} {y : MethodName} {hd : List ab_H} {xs : List (Nat × Int × Int × List Int)} {tr sp : List (Nat × Nat)} {cx : ex_K} {cm : Nat → Option (Nat × Option Nat × List ab_C)} {code : List (Nat × Instr × Nat)} {cc : ByteArray} {ret : Option FieldType} {maxL fuel fr lo : Nat} {cl : List (ab_C × List ab_Q)} (hm0 : maxL ≤ 1000) (hy : plainName y.cls = true) (hown : cx.1 = y.cls) (hok : ex_ok l fr lo cx) (hcode : ∀ q ∈ code, decode cc q.1 = .ok q.2) (hcm : ∀ ix q, cm ix = some q → cx.2.2.2.2.1 ix = some (q.1, q.2.1, ab_sp hd q.2.2)) (hxs : ab_xo xs ec_xt) (hck : cl.all (ab_ck hd xs tr sp cx cm code ret maxL fuel) = true) : ex_Met l y cc maxL ret fr lo (ab_sp hd (cl.map (fun c => c.1))) := fun D ad ca n sz av cs Q h => ex_lmet hy hown hok D ad ca n sz av cs Q (ab_slw hm0 hcode hcm hxs hck h)
